theorem dX4_init_0 : decode cX4_init 0 = .ok (.aload_n 0, 1) := by decide +kernel
theorem dX4_init_1 : decode cX4_init 1 = .ok (.invokespecial 1, 3) := by decide +kernel
theorem dX4_init_4 : decode cX4_init 4 = .ok (.aload_n 0, 1) := by decide +kernel
theorem dX4_init_5 : decode cX4_init 5 = .ok (.sipush 160, 3) := by decide +kernel
theorem dX4_init_8 : decode cX4_init 8 = .ok (.newarray .int, 2) := by decide +kernel
theorem dX4_init_10 : decode cX4_init 10 = .ok (.putfield 7, 3) := by decide +kernel
theorem dX4_init_13 : decode cX4_init 13 = .ok (.aload_n 0, 1) := by decide +kernel
theorem dX4_init_14 : decode cX4_init 14 = .ok (.sipush 400, 3) := by decide +kernel
theorem dX4_init_17 : decode cX4_init 17 = .ok (.newarray .int, 2) := by decide +kernel
theorem dX4_init_19 : decode cX4_init 19 = .ok (.putfield 13, 3) := by decide +kernel
theorem dX4_init_22 : decode cX4_init 22 = .ok (.aload_n 0, 1) := by decide +kernel
theorem dX4_init_23 : decode cX4_init 23 = .ok (.sipush 161, 3) := by decide +kernel
theorem dX4_init_26 : decode cX4_init 26 = .ok (.newarray .int, 2) := by decide +kernel
theorem dX4_init_28 : decode cX4_init 28 = .ok (.putfield 16, 3) := by decide +kernel
theorem dX4_init_31 : decode cX4_init 31 = .ok (.aload_n 0, 1) := by decide +kernel
theorem dX4_init_32 : decode cX4_init 32 = .ok (.sipush 161, 3) := by decide +kernel
theorem dX4_init_35 : decode cX4_init 35 = .ok (.newarray .int, 2) := by decide +kernel
theorem dX4_init_37 : decode cX4_init 37 = .ok (.putfield 19, 3) := by decide +kernel
theorem dX4_init_40 : decode cX4_init 40 = .ok (.aload_n 0, 1) := by decide +kernel
theorem dX4_init_41 : decode cX4_init 41 = .ok (.sipush 161, 3) := by decide +kernel
theorem dX4_init_44 : decode cX4_init 44 = .ok (.newarray .int, 2) := by decide +kernel
theorem dX4_init_46 : decode cX4_init 46 = .ok (.putfield 22, 3) := by decide +kernel
theorem dX4_init_49 : decode cX4_init 49 = .ok (.aload_n 0, 1) := by decide +kernel
theorem dX4_init_50 : decode cX4_init 50 = .ok (.sipush 161, 3) := by decide +kernel
theorem dX4_init_53 : decode cX4_init 53 = .ok (.newarray .int, 2) := by decide +kernel
theorem dX4_init_55 : decode cX4_init 55 = .ok (.putfield 25, 3) := by decide +kernel
theorem dX4_init_58 : decode cX4_init 58 = .ok (.aload_n 0, 1) := by decide +kernel
theorem dX4_init_59 : decode cX4_init 59 = .ok (.sipush 160, 3) := by decide +kernel
theorem dX4_init_62 : decode cX4_init 62 = .ok (.newarray .int, 2) := by decide +kernel
theorem dX4_init_64 : decode cX4_init 64 = .ok (.putfield 28, 3) := by decide +kernel
theorem dX4_init_67 : decode cX4_init 67 = .ok (.aload_n 0, 1) := by decide +kernel
theorem dX4_init_68 : decode cX4_init 68 = .ok (.sipush 256, 3) := by decide +kernel
theorem dX4_init_71 : decode cX4_init 71 = .ok (.newarray .int, 2) := by decide +kernel
theorem dX4_init_73 : decode cX4_init 73 = .ok (.putfield 31, 3) := by decide +kernel
theorem dX4_init_76 : decode cX4_init 76 = .ok (.aload_n 0, 1) := by decide +kernel
theorem dX4_init_77 : decode cX4_init 77 = .ok (.bipush 8, 2) := by decide +kernel
theorem dX4_init_79 : decode cX4_init 79 = .ok (.newarray .int, 2) := by decide +kernel
theorem dX4_init_81 : decode cX4_init 81 = .ok (.putfield 34, 3) := by decide +kernel
theorem dX4_init_84 : decode cX4_init 84 = .ok (.aload_n 0, 1) := by decide +kernel
theorem dX4_init_85 : decode cX4_init 85 = .ok (.iconst 1, 1) := by decide +kernel
theorem dX4_init_86 : decode cX4_init 86 = .ok (.putfield 37, 3) := by decide +kernel
theorem dX4_init_89 : decode cX4_init 89 = .ok (.aload_n 0, 1) := by decide +kernel
theorem dX4_init_90 : decode cX4_init 90 = .ok (.bipush 32, 2) := by decide +kernel
theorem dX4_init_92 : decode cX4_init 92 = .ok (.newarray .int, 2) := by decide +kernel
theorem dX4_init_94 : decode cX4_init 94 = .ok (.putfield 41, 3) := by decide +kernel
theorem dX4_init_97 : decode cX4_init 97 = .ok (.return_, 1) := by decide +kernel
theorem dX4_thrown_0 : decode cX4_thrown 0 = .ok (.aload_n 0, 1) := by decide +kernel
theorem dX4_thrown_1 : decode cX4_thrown 1 = .ok (.getfield 44, 3) := by decide +kernel
theorem dX4_thrown_4 : decode cX4_thrown 4 = .ok (.ireturn, 1) := by decide +kernel
theorem dX4_fail_0 : decode cX4_fail 0 = .ok (.aload_n 0, 1) := by decide +kernel
theorem dX4_fail_1 : decode cX4_fail 1 = .ok (.iload_n 1, 1) := by decide +kernel
theorem dX4_fail_2 : decode cX4_fail 2 = .ok (.putfield 44, 3) := by decide +kernel
theorem dX4_fail_5 : decode cX4_fail 5 = .ok (.iconst 0, 1) := by decide +kernel
theorem dX4_fail_6 : decode cX4_fail 6 = .ok (.ireturn, 1) := by decide +kernel
theorem dX4_put_0 : decode cX4_put 0 = .ok (.aload_n 0, 1) := by decide +kernel
theorem dX4_put_1 : decode cX4_put 1 = .ok (.iconst 0, 1) := by decide +kernel
theorem dX4_put_2 : decode cX4_put 2 = .ok (.putfield 44, 3) := by decide +kernel
theorem dX4_put_5 : decode cX4_put 5 = .ok (.iload_n 3, 1) := by decide +kernel
theorem dX4_put_6 : decode cX4_put 6 = .ok (.iconst 1, 1) := by decide +kernel
theorem dX4_put_7 : decode cX4_put 7 = .ok (.if_icmp .lt 21, 3) := by decide +kernel
theorem dX4_put_10 : decode cX4_put 10 = .ok (.iload_n 3, 1) := by decide +kernel
theorem dX4_put_11 : decode cX4_put 11 = .ok (.bipush 8, 2) := by decide +kernel
theorem dX4_put_13 : decode cX4_put 13 = .ok (.if_icmp .gt 15, 3) := by decide +kernel
theorem dX4_put_16 : decode cX4_put 16 = .ok (.aload_n 0, 1) := by decide +kernel
theorem dX4_put_17 : decode cX4_put 17 = .ok (.getfield 47, 3) := by decide +kernel
theorem dX4_put_20 : decode cX4_put 20 = .ok (.iload_n 3, 1) := by decide +kernel
theorem dX4_put_21 : decode cX4_put 21 = .ok (.iadd, 1) := by decide +kernel
theorem dX4_put_22 : decode cX4_put 22 = .ok (.sipush 160, 3) := by decide +kernel
theorem dX4_put_25 : decode cX4_put 25 = .ok (.if_icmp .le 5, 3) := by decide +kernel
theorem dX4_put_28 : decode cX4_put 28 = .ok (.iconst 0, 1) := by decide +kernel
theorem dX4_put_29 : decode cX4_put 29 = .ok (.ireturn, 1) := by decide +kernel
theorem dX4_put_30 : decode cX4_put 30 = .ok (.iconst 0, 1) := by decide +kernel
theorem dX4_put_31 : decode cX4_put 31 = .ok (.istore 4, 2) := by decide +kernel
theorem dX4_put_33 : decode cX4_put 33 = .ok (.iload 4, 2) := by decide +kernel
theorem dX4_put_35 : decode cX4_put 35 = .ok (.iload_n 3, 1) := by decide +kernel
theorem dX4_put_36 : decode cX4_put 36 = .ok (.if_icmp .ge 40, 3) := by decide +kernel
theorem dX4_put_39 : decode cX4_put 39 = .ok (.aload_n 0, 1) := by decide +kernel
theorem dX4_put_40 : decode cX4_put 40 = .ok (.getfield 7, 3) := by decide +kernel
theorem dX4_put_43 : decode cX4_put 43 = .ok (.aload_n 0, 1) := by decide +kernel
theorem dX4_put_44 : decode cX4_put 44 = .ok (.getfield 47, 3) := by decide +kernel
theorem dX4_put_47 : decode cX4_put 47 = .ok (.lload_n 1, 1) := by decide +kernel
theorem dX4_put_48 : decode cX4_put 48 = .ok (.bipush 8, 2) := by decide +kernel
theorem dX4_put_50 : decode cX4_put 50 = .ok (.iload 4, 2) := by decide +kernel
theorem dX4_put_52 : decode cX4_put 52 = .ok (.imul, 1) := by decide +kernel
theorem dX4_put_53 : decode cX4_put 53 = .ok (.lshr, 1) := by decide +kernel
theorem dX4_put_54 : decode cX4_put 54 = .ok (.ldc2_w 50, 3) := by decide +kernel
theorem dX4_put_57 : decode cX4_put 57 = .ok (.land, 1) := by decide +kernel
theorem dX4_put_58 : decode cX4_put 58 = .ok (.l2i, 1) := by decide +kernel
theorem dX4_put_59 : decode cX4_put 59 = .ok (.iastore, 1) := by decide +kernel
theorem dX4_put_60 : decode cX4_put 60 = .ok (.aload_n 0, 1) := by decide +kernel
theorem dX4_put_61 : decode cX4_put 61 = .ok (.dup, 1) := by decide +kernel
theorem dX4_put_62 : decode cX4_put 62 = .ok (.getfield 47, 3) := by decide +kernel
theorem dX4_put_65 : decode cX4_put 65 = .ok (.iconst 1, 1) := by decide +kernel
theorem dX4_put_66 : decode cX4_put 66 = .ok (.iadd, 1) := by decide +kernel
theorem dX4_put_67 : decode cX4_put 67 = .ok (.putfield 47, 3) := by decide +kernel
theorem dX4_put_70 : decode cX4_put 70 = .ok (.iinc 4 1, 3) := by decide +kernel
theorem dX4_put_73 : decode cX4_put 73 = .ok (.goto (-40), 3) := by decide +kernel
theorem dX4_put_76 : decode cX4_put 76 = .ok (.aload_n 0, 1) := by decide +kernel
theorem dX4_put_77 : decode cX4_put 77 = .ok (.iconst 0, 1) := by decide +kernel
theorem dX4_put_78 : decode cX4_put 78 = .ok (.putfield 52, 3) := by decide +kernel
theorem dX4_put_81 : decode cX4_put 81 = .ok (.iconst 1, 1) := by decide +kernel
theorem dX4_put_82 : decode cX4_put 82 = .ok (.ireturn, 1) := by decide +kernel
theorem dX4_again_0 : decode cX4_again 0 = .ok (.aload_n 0, 1) := by decide +kernel
theorem dX4_again_1 : decode cX4_again 1 = .ok (.iconst 0, 1) := by decide +kernel
theorem dX4_again_2 : decode cX4_again 2 = .ok (.putfield 44, 3) := by decide +kernel
theorem dX4_again_5 : decode cX4_again 5 = .ok (.iload_n 1, 1) := by decide +kernel
theorem dX4_again_6 : decode cX4_again 6 = .ok (.iconst 1, 1) := by decide +kernel
theorem dX4_again_7 : decode cX4_again 7 = .ok (.if_icmp .lt 27, 3) := by decide +kernel
theorem dX4_again_10 : decode cX4_again 10 = .ok (.iload_n 1, 1) := by decide +kernel
theorem dX4_again_11 : decode cX4_again 11 = .ok (.aload_n 0, 1) := by decide +kernel
theorem dX4_again_12 : decode cX4_again 12 = .ok (.getfield 47, 3) := by decide +kernel
theorem dX4_again_15 : decode cX4_again 15 = .ok (.if_icmp .gt 19, 3) := by decide +kernel
theorem dX4_again_18 : decode cX4_again 18 = .ok (.iload_n 2, 1) := by decide +kernel
theorem dX4_again_19 : decode cX4_again 19 = .ok (.ifCond .lt 15, 3) := by decide +kernel
theorem dX4_again_22 : decode cX4_again 22 = .ok (.iload_n 2, 1) := by decide +kernel
theorem dX4_again_23 : decode cX4_again 23 = .ok (.sipush 160, 3) := by decide +kernel
theorem dX4_again_26 : decode cX4_again 26 = .ok (.aload_n 0, 1) := by decide +kernel
theorem dX4_again_27 : decode cX4_again 27 = .ok (.getfield 47, 3) := by decide +kernel
theorem dX4_again_30 : decode cX4_again 30 = .ok (.isub, 1) := by decide +kernel
theorem dX4_again_31 : decode cX4_again 31 = .ok (.if_icmp .le 5, 3) := by decide +kernel
theorem dX4_again_34 : decode cX4_again 34 = .ok (.iconst 0, 1) := by decide +kernel
theorem dX4_again_35 : decode cX4_again 35 = .ok (.ireturn, 1) := by decide +kernel
theorem dX4_again_36 : decode cX4_again 36 = .ok (.iconst 0, 1) := by decide +kernel
theorem dX4_again_37 : decode cX4_again 37 = .ok (.istore_n 3, 1) := by decide +kernel
theorem dX4_again_38 : decode cX4_again 38 = .ok (.iload_n 3, 1) := by decide +kernel
theorem dX4_again_39 : decode cX4_again 39 = .ok (.iload_n 2, 1) := by decide +kernel
theorem dX4_again_40 : decode cX4_again 40 = .ok (.if_icmp .ge 39, 3) := by decide +kernel
theorem dX4_again_43 : decode cX4_again 43 = .ok (.aload_n 0, 1) := by decide +kernel
theorem dX4_again_44 : decode cX4_again 44 = .ok (.getfield 7, 3) := by decide +kernel
theorem dX4_again_47 : decode cX4_again 47 = .ok (.aload_n 0, 1) := by decide +kernel
theorem dX4_again_48 : decode cX4_again 48 = .ok (.getfield 47, 3) := by decide +kernel
theorem dX4_again_51 : decode cX4_again 51 = .ok (.aload_n 0, 1) := by decide +kernel
theorem dX4_again_52 : decode cX4_again 52 = .ok (.getfield 7, 3) := by decide +kernel
theorem dX4_again_55 : decode cX4_again 55 = .ok (.aload_n 0, 1) := by decide +kernel
theorem dX4_again_56 : decode cX4_again 56 = .ok (.getfield 47, 3) := by decide +kernel
theorem dX4_again_59 : decode cX4_again 59 = .ok (.iload_n 1, 1) := by decide +kernel
theorem dX4_again_60 : decode cX4_again 60 = .ok (.isub, 1) := by decide +kernel
theorem dX4_again_61 : decode cX4_again 61 = .ok (.iaload, 1) := by decide +kernel
theorem dX4_again_62 : decode cX4_again 62 = .ok (.iastore, 1) := by decide +kernel
theorem dX4_again_63 : decode cX4_again 63 = .ok (.aload_n 0, 1) := by decide +kernel
theorem dX4_again_64 : decode cX4_again 64 = .ok (.dup, 1) := by decide +kernel
theorem dX4_again_65 : decode cX4_again 65 = .ok (.getfield 47, 3) := by decide +kernel
theorem dX4_again_68 : decode cX4_again 68 = .ok (.iconst 1, 1) := by decide +kernel
theorem dX4_again_69 : decode cX4_again 69 = .ok (.iadd, 1) := by decide +kernel
theorem dX4_again_70 : decode cX4_again 70 = .ok (.putfield 47, 3) := by decide +kernel
theorem dX4_again_73 : decode cX4_again 73 = .ok (.iinc 3 1, 3) := by decide +kernel
theorem dX4_again_76 : decode cX4_again 76 = .ok (.goto (-38), 3) := by decide +kernel
theorem dX4_again_79 : decode cX4_again 79 = .ok (.aload_n 0, 1) := by decide +kernel
theorem dX4_again_80 : decode cX4_again 80 = .ok (.iconst 0, 1) := by decide +kernel
theorem dX4_again_81 : decode cX4_again 81 = .ok (.putfield 52, 3) := by decide +kernel
theorem dX4_again_84 : decode cX4_again 84 = .ok (.iconst 1, 1) := by decide +kernel
theorem dX4_again_85 : decode cX4_again 85 = .ok (.ireturn, 1) := by decide +kernel
theorem dX4_isByte_0 : decode cX4_isByte 0 = .ok (.iload_n 0, 1) := by decide +kernel
theorem dX4_isByte_1 : decode cX4_isByte 1 = .ok (.ifCond .lt 14, 3) := by decide +kernel
theorem dX4_isByte_4 : decode cX4_isByte 4 = .ok (.iload_n 0, 1) := by decide +kernel
theorem dX4_isByte_5 : decode cX4_isByte 5 = .ok (.sipush 256, 3) := by decide +kernel
theorem dX4_isByte_8 : decode cX4_isByte 8 = .ok (.if_icmp .ge 7, 3) := by decide +kernel
theorem dX4_isByte_11 : decode cX4_isByte 11 = .ok (.iconst 1, 1) := by decide +kernel
theorem dX4_isByte_12 : decode cX4_isByte 12 = .ok (.goto 4, 3) := by decide +kernel
theorem dX4_isByte_15 : decode cX4_isByte 15 = .ok (.iconst 0, 1) := by decide +kernel
theorem dX4_isByte_16 : decode cX4_isByte 16 = .ok (.ireturn, 1) := by decide +kernel
set_option maxRecDepth 20000 in
theorem ggX4_change_X4_isByte : GoodIn wsX4_change wsX4_isByte := goodIn_r _ [8] (by decide +kernel) (by decide +kernel)
set_option maxRecDepth 20000 in
theorem gX4_change_X4_isByte : GoodIn wsX4_change (va_wsS RX4 56 yX4_isByte wsX4_isByte) := goodIn_app (goodIn_of _ (by decide +kernel)) ggX4_change_X4_isByte
theorem dX4_change_0 : decode cX4_change 0 = .ok (.aload_n 0, 1) := by decide +kernel
theorem dX4_change_1 : decode cX4_change 1 = .ok (.iload_n 1, 1) := by decide +kernel
theorem dX4_change_2 : decode cX4_change 2 = .ok (.ifCond .lt 11, 3) := by decide +kernel
theorem dX4_change_5 : decode cX4_change 5 = .ok (.iload_n 1, 1) := by decide +kernel
theorem dX4_change_6 : decode cX4_change 6 = .ok (.aload_n 0, 1) := by decide +kernel
theorem dX4_change_7 : decode cX4_change 7 = .ok (.getfield 47, 3) := by decide +kernel
theorem dX4_change_10 : decode cX4_change 10 = .ok (.if_icmp .lt 7, 3) := by decide +kernel
theorem dX4_change_13 : decode cX4_change 13 = .ok (.iconst 1, 1) := by decide +kernel
theorem dX4_change_14 : decode cX4_change 14 = .ok (.goto 15, 3) := by decide +kernel
theorem dX4_change_17 : decode cX4_change 17 = .ok (.iload_n 2, 1) := by decide +kernel
theorem dX4_change_18 : decode cX4_change 18 = .ok (.invokestatic 56, 3) := by decide +kernel
theorem dX4_change_21 : decode cX4_change 21 = .ok (.ifCond .ne 7, 3) := by decide +kernel
theorem dX4_change_24 : decode cX4_change 24 = .ok (.iconst 2, 1) := by decide +kernel
theorem dX4_change_25 : decode cX4_change 25 = .ok (.goto 4, 3) := by decide +kernel
theorem dX4_change_28 : decode cX4_change 28 = .ok (.iconst 0, 1) := by decide +kernel
theorem dX4_change_29 : decode cX4_change 29 = .ok (.putfield 44, 3) := by decide +kernel
theorem dX4_change_32 : decode cX4_change 32 = .ok (.aload_n 0, 1) := by decide +kernel
theorem dX4_change_33 : decode cX4_change 33 = .ok (.getfield 44, 3) := by decide +kernel
theorem dX4_change_36 : decode cX4_change 36 = .ok (.ifCond .ne 15, 3) := by decide +kernel
theorem dX4_change_39 : decode cX4_change 39 = .ok (.aload_n 0, 1) := by decide +kernel
theorem dX4_change_40 : decode cX4_change 40 = .ok (.getfield 7, 3) := by decide +kernel
theorem dX4_change_43 : decode cX4_change 43 = .ok (.iload_n 1, 1) := by decide +kernel
theorem dX4_change_44 : decode cX4_change 44 = .ok (.iload_n 2, 1) := by decide +kernel
theorem dX4_change_45 : decode cX4_change 45 = .ok (.iastore, 1) := by decide +kernel
theorem dX4_change_46 : decode cX4_change 46 = .ok (.aload_n 0, 1) := by decide +kernel
theorem dX4_change_47 : decode cX4_change 47 = .ok (.iconst 0, 1) := by decide +kernel
theorem dX4_change_48 : decode cX4_change 48 = .ok (.putfield 52, 3) := by decide +kernel
theorem dX4_change_51 : decode cX4_change 51 = .ok (.return_, 1) := by decide +kernel
theorem dX4_cut_0 : decode cX4_cut 0 = .ok (.aload_n 0, 1) := by decide +kernel
theorem dX4_cut_1 : decode cX4_cut 1 = .ok (.iload_n 1, 1) := by decide +kernel
theorem dX4_cut_2 : decode cX4_cut 2 = .ok (.ifCond .lt 11, 3) := by decide +kernel
theorem dX4_cut_5 : decode cX4_cut 5 = .ok (.iload_n 1, 1) := by decide +kernel
theorem dX4_cut_6 : decode cX4_cut 6 = .ok (.aload_n 0, 1) := by decide +kernel
theorem dX4_cut_7 : decode cX4_cut 7 = .ok (.getfield 47, 3) := by decide +kernel
theorem dX4_cut_10 : decode cX4_cut 10 = .ok (.if_icmp .le 7, 3) := by decide +kernel
theorem dX4_cut_13 : decode cX4_cut 13 = .ok (.iconst 1, 1) := by decide +kernel
theorem dX4_cut_14 : decode cX4_cut 14 = .ok (.goto 4, 3) := by decide +kernel
theorem dX4_cut_17 : decode cX4_cut 17 = .ok (.iconst 0, 1) := by decide +kernel
theorem dX4_cut_18 : decode cX4_cut 18 = .ok (.putfield 44, 3) := by decide +kernel
theorem dX4_cut_21 : decode cX4_cut 21 = .ok (.aload_n 0, 1) := by decide +kernel
theorem dX4_cut_22 : decode cX4_cut 22 = .ok (.getfield 44, 3) := by decide +kernel
theorem dX4_cut_25 : decode cX4_cut 25 = .ok (.ifCond .ne 13, 3) := by decide +kernel
theorem dX4_cut_28 : decode cX4_cut 28 = .ok (.aload_n 0, 1) := by decide +kernel
theorem dX4_cut_29 : decode cX4_cut 29 = .ok (.iload_n 1, 1) := by decide +kernel
theorem dX4_cut_30 : decode cX4_cut 30 = .ok (.putfield 47, 3) := by decide +kernel
theorem dX4_cut_33 : decode cX4_cut 33 = .ok (.aload_n 0, 1) := by decide +kernel
theorem dX4_cut_34 : decode cX4_cut 34 = .ok (.iconst 0, 1) := by decide +kernel
theorem dX4_cut_35 : decode cX4_cut 35 = .ok (.putfield 52, 3) := by decide +kernel
theorem dX4_cut_38 : decode cX4_cut 38 = .ok (.return_, 1) := by decide +kernel
set_option maxRecDepth 20000 in
theorem ggX4_place_X4_isByte : GoodIn wsX4_place wsX4_isByte := goodIn_r _ [7] (by decide +kernel) (by decide +kernel)
set_option maxRecDepth 20000 in
theorem gX4_place_X4_isByte : GoodIn wsX4_place (va_wsS RX4 56 yX4_isByte wsX4_isByte) := goodIn_app (goodIn_of _ (by decide +kernel)) ggX4_place_X4_isByte
theorem dX4_place_0 : decode cX4_place 0 = .ok (.aload_n 0, 1) := by decide +kernel
theorem dX4_place_1 : decode cX4_place 1 = .ok (.iload_n 1, 1) := by decide +kernel
theorem dX4_place_2 : decode cX4_place 2 = .ok (.invokestatic 56, 3) := by decide +kernel
theorem dX4_place_5 : decode cX4_place 5 = .ok (.ifCond .eq 14, 3) := by decide +kernel
theorem dX4_place_8 : decode cX4_place 8 = .ok (.iload_n 2, 1) := by decide +kernel
theorem dX4_place_9 : decode cX4_place 9 = .ok (.invokestatic 56, 3) := by decide +kernel
theorem dX4_place_12 : decode cX4_place 12 = .ok (.ifCond .eq 7, 3) := by decide +kernel
theorem dX4_place_15 : decode cX4_place 15 = .ok (.iconst 0, 1) := by decide +kernel
theorem dX4_place_16 : decode cX4_place 16 = .ok (.goto 4, 3) := by decide +kernel
theorem dX4_place_19 : decode cX4_place 19 = .ok (.iconst 1, 1) := by decide +kernel
theorem dX4_place_20 : decode cX4_place 20 = .ok (.putfield 44, 3) := by decide +kernel
theorem dX4_place_23 : decode cX4_place 23 = .ok (.aload_n 0, 1) := by decide +kernel
theorem dX4_place_24 : decode cX4_place 24 = .ok (.getfield 44, 3) := by decide +kernel
theorem dX4_place_27 : decode cX4_place 27 = .ok (.ifCond .ne 13, 3) := by decide +kernel
theorem dX4_place_30 : decode cX4_place 30 = .ok (.aload_n 0, 1) := by decide +kernel
theorem dX4_place_31 : decode cX4_place 31 = .ok (.iload_n 1, 1) := by decide +kernel
theorem dX4_place_32 : decode cX4_place 32 = .ok (.putfield 60, 3) := by decide +kernel
theorem dX4_place_35 : decode cX4_place 35 = .ok (.aload_n 0, 1) := by decide +kernel
theorem dX4_place_36 : decode cX4_place 36 = .ok (.iload_n 2, 1) := by decide +kernel
theorem dX4_place_37 : decode cX4_place 37 = .ok (.putfield 63, 3) := by decide +kernel
theorem dX4_place_40 : decode cX4_place 40 = .ok (.return_, 1) := by decide +kernel
theorem dX4_size_0 : decode cX4_size 0 = .ok (.aload_n 0, 1) := by decide +kernel
theorem dX4_size_1 : decode cX4_size 1 = .ok (.iconst 0, 1) := by decide +kernel
theorem dX4_size_2 : decode cX4_size 2 = .ok (.putfield 44, 3) := by decide +kernel
theorem dX4_size_5 : decode cX4_size 5 = .ok (.aload_n 0, 1) := by decide +kernel
theorem dX4_size_6 : decode cX4_size 6 = .ok (.getfield 47, 3) := by decide +kernel
theorem dX4_size_9 : decode cX4_size 9 = .ok (.ireturn, 1) := by decide +kernel
theorem dX4_choose_0 : decode cX4_choose 0 = .ok (.iconst 0, 1) := by decide +kernel
theorem dX4_choose_1 : decode cX4_choose 1 = .ok (.istore_n 2, 1) := by decide +kernel
theorem dX4_choose_2 : decode cX4_choose 2 = .ok (.iconst 1, 1) := by decide +kernel
theorem dX4_choose_3 : decode cX4_choose 3 = .ok (.istore_n 3, 1) := by decide +kernel
theorem dX4_choose_4 : decode cX4_choose 4 = .ok (.iload_n 3, 1) := by decide +kernel
theorem dX4_choose_5 : decode cX4_choose 5 = .ok (.aload_n 0, 1) := by decide +kernel
theorem dX4_choose_6 : decode cX4_choose 6 = .ok (.getfield 47, 3) := by decide +kernel
theorem dX4_choose_9 : decode cX4_choose 9 = .ok (.if_icmp .gt 70, 3) := by decide +kernel
theorem dX4_choose_12 : decode cX4_choose 12 = .ok (.aload_n 0, 1) := by decide +kernel
theorem dX4_choose_13 : decode cX4_choose 13 = .ok (.getfield 25, 3) := by decide +kernel
theorem dX4_choose_16 : decode cX4_choose 16 = .ok (.iload_n 3, 1) := by decide +kernel
theorem dX4_choose_17 : decode cX4_choose 17 = .ok (.iload_n 3, 1) := by decide +kernel
theorem dX4_choose_18 : decode cX4_choose 18 = .ok (.iload_n 1, 1) := by decide +kernel
theorem dX4_choose_19 : decode cX4_choose 19 = .ok (.if_icmp .gt 31, 3) := by decide +kernel
theorem dX4_choose_22 : decode cX4_choose 22 = .ok (.aload_n 0, 1) := by decide +kernel
theorem dX4_choose_23 : decode cX4_choose 23 = .ok (.getfield 7, 3) := by decide +kernel
theorem dX4_choose_26 : decode cX4_choose 26 = .ok (.iload_n 1, 1) := by decide +kernel
theorem dX4_choose_27 : decode cX4_choose 27 = .ok (.iaload, 1) := by decide +kernel
theorem dX4_choose_28 : decode cX4_choose 28 = .ok (.aload_n 0, 1) := by decide +kernel
theorem dX4_choose_29 : decode cX4_choose 29 = .ok (.getfield 7, 3) := by decide +kernel
theorem dX4_choose_32 : decode cX4_choose 32 = .ok (.iload_n 1, 1) := by decide +kernel
theorem dX4_choose_33 : decode cX4_choose 33 = .ok (.iload_n 3, 1) := by decide +kernel
theorem dX4_choose_34 : decode cX4_choose 34 = .ok (.isub, 1) := by decide +kernel
theorem dX4_choose_35 : decode cX4_choose 35 = .ok (.iaload, 1) := by decide +kernel
theorem dX4_choose_36 : decode cX4_choose 36 = .ok (.if_icmp .ne 14, 3) := by decide +kernel
theorem dX4_choose_39 : decode cX4_choose 39 = .ok (.aload_n 0, 1) := by decide +kernel
theorem dX4_choose_40 : decode cX4_choose 40 = .ok (.getfield 25, 3) := by decide +kernel
theorem dX4_choose_43 : decode cX4_choose 43 = .ok (.iload_n 3, 1) := by decide +kernel
theorem dX4_choose_44 : decode cX4_choose 44 = .ok (.iaload, 1) := by decide +kernel
theorem dX4_choose_45 : decode cX4_choose 45 = .ok (.iconst 1, 1) := by decide +kernel
theorem dX4_choose_46 : decode cX4_choose 46 = .ok (.iadd, 1) := by decide +kernel
theorem dX4_choose_47 : decode cX4_choose 47 = .ok (.goto 4, 3) := by decide +kernel
theorem dX4_choose_50 : decode cX4_choose 50 = .ok (.iconst 0, 1) := by decide +kernel
theorem dX4_choose_51 : decode cX4_choose 51 = .ok (.iastore, 1) := by decide +kernel
theorem dX4_choose_52 : decode cX4_choose 52 = .ok (.aload_n 0, 1) := by decide +kernel
theorem dX4_choose_53 : decode cX4_choose 53 = .ok (.getfield 25, 3) := by decide +kernel
theorem dX4_choose_56 : decode cX4_choose 56 = .ok (.iload_n 3, 1) := by decide +kernel
theorem dX4_choose_57 : decode cX4_choose 57 = .ok (.iaload, 1) := by decide +kernel
theorem dX4_choose_58 : decode cX4_choose 58 = .ok (.iload_n 2, 1) := by decide +kernel
theorem dX4_choose_59 : decode cX4_choose 59 = .ok (.if_icmp .le 12, 3) := by decide +kernel
theorem dX4_choose_62 : decode cX4_choose 62 = .ok (.aload_n 0, 1) := by decide +kernel
theorem dX4_choose_63 : decode cX4_choose 63 = .ok (.getfield 25, 3) := by decide +kernel
theorem dX4_choose_66 : decode cX4_choose 66 = .ok (.iload_n 3, 1) := by decide +kernel
theorem dX4_choose_67 : decode cX4_choose 67 = .ok (.iaload, 1) := by decide +kernel
theorem dX4_choose_68 : decode cX4_choose 68 = .ok (.goto 4, 3) := by decide +kernel
theorem dX4_choose_71 : decode cX4_choose 71 = .ok (.iload_n 2, 1) := by decide +kernel
theorem dX4_choose_72 : decode cX4_choose 72 = .ok (.istore_n 2, 1) := by decide +kernel
theorem dX4_choose_73 : decode cX4_choose 73 = .ok (.iinc 3 1, 3) := by decide +kernel
theorem dX4_choose_76 : decode cX4_choose 76 = .ok (.goto (-72), 3) := by decide +kernel
theorem dX4_choose_79 : decode cX4_choose 79 = .ok (.iload_n 2, 1) := by decide +kernel
theorem dX4_choose_80 : decode cX4_choose 80 = .ok (.sipush 129, 3) := by decide +kernel
theorem dX4_choose_83 : decode cX4_choose 83 = .ok (.if_icmp .le 9, 3) := by decide +kernel
theorem dX4_choose_86 : decode cX4_choose 86 = .ok (.sipush 129, 3) := by decide +kernel
theorem dX4_choose_89 : decode cX4_choose 89 = .ok (.goto 4, 3) := by decide +kernel
theorem dX4_choose_92 : decode cX4_choose 92 = .ok (.iload_n 2, 1) := by decide +kernel
theorem dX4_choose_93 : decode cX4_choose 93 = .ok (.istore_n 2, 1) := by decide +kernel
theorem dX4_choose_94 : decode cX4_choose 94 = .ok (.ldc 66, 2) := by decide +kernel
theorem dX4_choose_96 : decode cX4_choose 96 = .ok (.istore_n 3, 1) := by decide +kernel
theorem dX4_choose_97 : decode cX4_choose 97 = .ok (.iconst 1, 1) := by decide +kernel
theorem dX4_choose_98 : decode cX4_choose 98 = .ok (.istore 4, 2) := by decide +kernel
theorem dX4_choose_100 : decode cX4_choose 100 = .ok (.iload 4, 2) := by decide +kernel
theorem dX4_choose_102 : decode cX4_choose 102 = .ok (.sipush 128, 3) := by decide +kernel
theorem dX4_choose_105 : decode cX4_choose 105 = .ok (.if_icmp .ge 61, 3) := by decide +kernel
theorem dX4_choose_108 : decode cX4_choose 108 = .ok (.iload_n 1, 1) := by decide +kernel
theorem dX4_choose_109 : decode cX4_choose 109 = .ok (.iload 4, 2) := by decide +kernel
theorem dX4_choose_111 : decode cX4_choose 111 = .ok (.iadd, 1) := by decide +kernel
theorem dX4_choose_112 : decode cX4_choose 112 = .ok (.aload_n 0, 1) := by decide +kernel
theorem dX4_choose_113 : decode cX4_choose 113 = .ok (.getfield 47, 3) := by decide +kernel
theorem dX4_choose_116 : decode cX4_choose 116 = .ok (.if_icmp .gt 50, 3) := by decide +kernel
theorem dX4_choose_119 : decode cX4_choose 119 = .ok (.iconst 1, 1) := by decide +kernel
theorem dX4_choose_120 : decode cX4_choose 120 = .ok (.iload 4, 2) := by decide +kernel
theorem dX4_choose_122 : decode cX4_choose 122 = .ok (.iadd, 1) := by decide +kernel
theorem dX4_choose_123 : decode cX4_choose 123 = .ok (.aload_n 0, 1) := by decide +kernel
theorem dX4_choose_124 : decode cX4_choose 124 = .ok (.getfield 16, 3) := by decide +kernel
theorem dX4_choose_127 : decode cX4_choose 127 = .ok (.iload_n 1, 1) := by decide +kernel
theorem dX4_choose_128 : decode cX4_choose 128 = .ok (.iload 4, 2) := by decide +kernel
theorem dX4_choose_130 : decode cX4_choose 130 = .ok (.iadd, 1) := by decide +kernel
theorem dX4_choose_131 : decode cX4_choose 131 = .ok (.iaload, 1) := by decide +kernel
theorem dX4_choose_132 : decode cX4_choose 132 = .ok (.iadd, 1) := by decide +kernel
theorem dX4_choose_133 : decode cX4_choose 133 = .ok (.iload_n 3, 1) := by decide +kernel
theorem dX4_choose_134 : decode cX4_choose 134 = .ok (.if_icmp .ge 26, 3) := by decide +kernel
theorem dX4_choose_137 : decode cX4_choose 137 = .ok (.iconst 1, 1) := by decide +kernel
theorem dX4_choose_138 : decode cX4_choose 138 = .ok (.iload 4, 2) := by decide +kernel
theorem dX4_choose_140 : decode cX4_choose 140 = .ok (.iadd, 1) := by decide +kernel
theorem dX4_choose_141 : decode cX4_choose 141 = .ok (.aload_n 0, 1) := by decide +kernel
theorem dX4_choose_142 : decode cX4_choose 142 = .ok (.getfield 16, 3) := by decide +kernel
theorem dX4_choose_145 : decode cX4_choose 145 = .ok (.iload_n 1, 1) := by decide +kernel
theorem dX4_choose_146 : decode cX4_choose 146 = .ok (.iload 4, 2) := by decide +kernel
theorem dX4_choose_148 : decode cX4_choose 148 = .ok (.iadd, 1) := by decide +kernel
theorem dX4_choose_149 : decode cX4_choose 149 = .ok (.iaload, 1) := by decide +kernel
theorem dX4_choose_150 : decode cX4_choose 150 = .ok (.iadd, 1) := by decide +kernel
theorem dX4_choose_151 : decode cX4_choose 151 = .ok (.istore_n 3, 1) := by decide +kernel
theorem dX4_choose_152 : decode cX4_choose 152 = .ok (.aload_n 0, 1) := by decide +kernel
theorem dX4_choose_153 : decode cX4_choose 153 = .ok (.getfield 19, 3) := by decide +kernel
theorem dX4_choose_156 : decode cX4_choose 156 = .ok (.iload_n 1, 1) := by decide +kernel
theorem dX4_choose_157 : decode cX4_choose 157 = .ok (.iload 4, 2) := by decide +kernel
theorem dX4_choose_159 : decode cX4_choose 159 = .ok (.iastore, 1) := by decide +kernel
theorem dX4_choose_160 : decode cX4_choose 160 = .ok (.iinc 4 1, 3) := by decide +kernel
theorem dX4_choose_163 : decode cX4_choose 163 = .ok (.goto (-63), 3) := by decide +kernel
theorem dX4_choose_166 : decode cX4_choose 166 = .ok (.iconst 0, 1) := by decide +kernel
theorem dX4_choose_167 : decode cX4_choose 167 = .ok (.istore 4, 2) := by decide +kernel
theorem dX4_choose_169 : decode cX4_choose 169 = .ok (.iconst 2, 1) := by decide +kernel
theorem dX4_choose_170 : decode cX4_choose 170 = .ok (.istore 5, 2) := by decide +kernel
theorem dX4_choose_172 : decode cX4_choose 172 = .ok (.iload 5, 2) := by decide +kernel
theorem dX4_choose_174 : decode cX4_choose 174 = .ok (.iload_n 2, 1) := by decide +kernel
theorem dX4_choose_175 : decode cX4_choose 175 = .ok (.if_icmp .gt 40, 3) := by decide +kernel
theorem dX4_choose_178 : decode cX4_choose 178 = .ok (.iconst 2, 1) := by decide +kernel
theorem dX4_choose_179 : decode cX4_choose 179 = .ok (.aload_n 0, 1) := by decide +kernel
theorem dX4_choose_180 : decode cX4_choose 180 = .ok (.getfield 16, 3) := by decide +kernel
theorem dX4_choose_183 : decode cX4_choose 183 = .ok (.iload_n 1, 1) := by decide +kernel
theorem dX4_choose_184 : decode cX4_choose 184 = .ok (.iload 5, 2) := by decide +kernel
theorem dX4_choose_186 : decode cX4_choose 186 = .ok (.iadd, 1) := by decide +kernel
theorem dX4_choose_187 : decode cX4_choose 187 = .ok (.iaload, 1) := by decide +kernel
theorem dX4_choose_188 : decode cX4_choose 188 = .ok (.iadd, 1) := by decide +kernel
theorem dX4_choose_189 : decode cX4_choose 189 = .ok (.iload_n 3, 1) := by decide +kernel
theorem dX4_choose_190 : decode cX4_choose 190 = .ok (.if_icmp .gt 19, 3) := by decide +kernel
theorem dX4_choose_193 : decode cX4_choose 193 = .ok (.iconst 2, 1) := by decide +kernel
theorem dX4_choose_194 : decode cX4_choose 194 = .ok (.aload_n 0, 1) := by decide +kernel
theorem dX4_choose_195 : decode cX4_choose 195 = .ok (.getfield 16, 3) := by decide +kernel
theorem dX4_choose_198 : decode cX4_choose 198 = .ok (.iload_n 1, 1) := by decide +kernel
theorem dX4_choose_199 : decode cX4_choose 199 = .ok (.iload 5, 2) := by decide +kernel
theorem dX4_choose_201 : decode cX4_choose 201 = .ok (.iadd, 1) := by decide +kernel
theorem dX4_choose_202 : decode cX4_choose 202 = .ok (.iaload, 1) := by decide +kernel
theorem dX4_choose_203 : decode cX4_choose 203 = .ok (.iadd, 1) := by decide +kernel
theorem dX4_choose_204 : decode cX4_choose 204 = .ok (.istore_n 3, 1) := by decide +kernel
theorem dX4_choose_205 : decode cX4_choose 205 = .ok (.iload 5, 2) := by decide +kernel
theorem dX4_choose_207 : decode cX4_choose 207 = .ok (.istore 4, 2) := by decide +kernel
theorem dX4_choose_209 : decode cX4_choose 209 = .ok (.iinc 5 1, 3) := by decide +kernel
theorem dX4_choose_212 : decode cX4_choose 212 = .ok (.goto (-40), 3) := by decide +kernel
theorem dX4_choose_215 : decode cX4_choose 215 = .ok (.aload_n 0, 1) := by decide +kernel
theorem dX4_choose_216 : decode cX4_choose 216 = .ok (.getfield 16, 3) := by decide +kernel
theorem dX4_choose_219 : decode cX4_choose 219 = .ok (.iload_n 1, 1) := by decide +kernel
theorem dX4_choose_220 : decode cX4_choose 220 = .ok (.iload_n 3, 1) := by decide +kernel
theorem dX4_choose_221 : decode cX4_choose 221 = .ok (.iastore, 1) := by decide +kernel
theorem dX4_choose_222 : decode cX4_choose 222 = .ok (.iload 4, 2) := by decide +kernel
theorem dX4_choose_224 : decode cX4_choose 224 = .ok (.ifCond .ne 4, 3) := by decide +kernel
theorem dX4_choose_227 : decode cX4_choose 227 = .ok (.return_, 1) := by decide +kernel
theorem dX4_choose_228 : decode cX4_choose 228 = .ok (.aload_n 0, 1) := by decide +kernel
theorem dX4_choose_229 : decode cX4_choose 229 = .ok (.getfield 19, 3) := by decide +kernel
theorem dX4_choose_232 : decode cX4_choose 232 = .ok (.iload_n 1, 1) := by decide +kernel
theorem dX4_choose_233 : decode cX4_choose 233 = .ok (.iload 4, 2) := by decide +kernel
theorem dX4_choose_235 : decode cX4_choose 235 = .ok (.bipush 126, 2) := by decide +kernel
theorem dX4_choose_237 : decode cX4_choose 237 = .ok (.iadd, 1) := by decide +kernel
theorem dX4_choose_238 : decode cX4_choose 238 = .ok (.iastore, 1) := by decide +kernel
theorem dX4_choose_239 : decode cX4_choose 239 = .ok (.iconst 1, 1) := by decide +kernel
theorem dX4_choose_240 : decode cX4_choose 240 = .ok (.istore 5, 2) := by decide +kernel
theorem dX4_choose_242 : decode cX4_choose 242 = .ok (.aload_n 0, 1) := by decide +kernel
theorem dX4_choose_243 : decode cX4_choose 243 = .ok (.getfield 25, 3) := by decide +kernel
theorem dX4_choose_246 : decode cX4_choose 246 = .ok (.iload 5, 2) := by decide +kernel
theorem dX4_choose_248 : decode cX4_choose 248 = .ok (.iaload, 1) := by decide +kernel
theorem dX4_choose_249 : decode cX4_choose 249 = .ok (.iload 4, 2) := by decide +kernel
theorem dX4_choose_251 : decode cX4_choose 251 = .ok (.if_icmp .ge 9, 3) := by decide +kernel
theorem dX4_choose_254 : decode cX4_choose 254 = .ok (.iinc 5 1, 3) := by decide +kernel
theorem dX4_choose_257 : decode cX4_choose 257 = .ok (.goto (-15), 3) := by decide +kernel
theorem dX4_choose_260 : decode cX4_choose 260 = .ok (.aload_n 0, 1) := by decide +kernel
theorem dX4_choose_261 : decode cX4_choose 261 = .ok (.getfield 22, 3) := by decide +kernel
theorem dX4_choose_264 : decode cX4_choose 264 = .ok (.iload_n 1, 1) := by decide +kernel
theorem dX4_choose_265 : decode cX4_choose 265 = .ok (.iload 5, 2) := by decide +kernel
theorem dX4_choose_267 : decode cX4_choose 267 = .ok (.iastore, 1) := by decide +kernel
theorem dX4_choose_268 : decode cX4_choose 268 = .ok (.return_, 1) := by decide +kernel
set_option maxRecDepth 20000 in
theorem ggX4_pack_X4_choose : GoodIn wsX4_pack wsX4_choose := goodIn_r _ [15, 3, 4, 10, 16, 2, 7, 9, 17, 18, 19, 20, 21, 22, 23, 24, 25, 26, 27, 28, 29, 30, 31, 32, 33, 34, 35, 36, 37] (by decide +kernel) (by decide +kernel)
set_option maxRecDepth 20000 in
theorem gX4_pack_X4_choose : GoodIn wsX4_pack (wsV RX4 67 RX4 yX4_choose wsX4_choose) := goodIn_app (goodIn_of _ (by decide +kernel)) ggX4_pack_X4_choose
theorem dX4_pack_0 : decode cX4_pack 0 = .ok (.aload_n 0, 1) := by decide +kernel
theorem dX4_pack_1 : decode cX4_pack 1 = .ok (.getfield 52, 3) := by decide +kernel
theorem dX4_pack_4 : decode cX4_pack 4 = .ok (.ifCond .eq 4, 3) := by decide +kernel
theorem dX4_pack_7 : decode cX4_pack 7 = .ok (.return_, 1) := by decide +kernel
theorem dX4_pack_8 : decode cX4_pack 8 = .ok (.aload_n 0, 1) := by decide +kernel
theorem dX4_pack_9 : decode cX4_pack 9 = .ok (.iconst 1, 1) := by decide +kernel
theorem dX4_pack_10 : decode cX4_pack 10 = .ok (.putfield 52, 3) := by decide +kernel
theorem dX4_pack_13 : decode cX4_pack 13 = .ok (.aload_n 0, 1) := by decide +kernel
theorem dX4_pack_14 : decode cX4_pack 14 = .ok (.getfield 16, 3) := by decide +kernel
theorem dX4_pack_17 : decode cX4_pack 17 = .ok (.aload_n 0, 1) := by decide +kernel
theorem dX4_pack_18 : decode cX4_pack 18 = .ok (.getfield 47, 3) := by decide +kernel
theorem dX4_pack_21 : decode cX4_pack 21 = .ok (.iconst 1, 1) := by decide +kernel
theorem dX4_pack_22 : decode cX4_pack 22 = .ok (.iastore, 1) := by decide +kernel
theorem dX4_pack_23 : decode cX4_pack 23 = .ok (.iconst 0, 1) := by decide +kernel
theorem dX4_pack_24 : decode cX4_pack 24 = .ok (.istore_n 1, 1) := by decide +kernel
theorem dX4_pack_25 : decode cX4_pack 25 = .ok (.iload_n 1, 1) := by decide +kernel
theorem dX4_pack_26 : decode cX4_pack 26 = .ok (.aload_n 0, 1) := by decide +kernel
theorem dX4_pack_27 : decode cX4_pack 27 = .ok (.getfield 47, 3) := by decide +kernel
theorem dX4_pack_30 : decode cX4_pack 30 = .ok (.if_icmp .gt 16, 3) := by decide +kernel
theorem dX4_pack_33 : decode cX4_pack 33 = .ok (.aload_n 0, 1) := by decide +kernel
theorem dX4_pack_34 : decode cX4_pack 34 = .ok (.getfield 25, 3) := by decide +kernel
theorem dX4_pack_37 : decode cX4_pack 37 = .ok (.iload_n 1, 1) := by decide +kernel
theorem dX4_pack_38 : decode cX4_pack 38 = .ok (.iconst 0, 1) := by decide +kernel
theorem dX4_pack_39 : decode cX4_pack 39 = .ok (.iastore, 1) := by decide +kernel
theorem dX4_pack_40 : decode cX4_pack 40 = .ok (.iinc 1 1, 3) := by decide +kernel
theorem dX4_pack_43 : decode cX4_pack 43 = .ok (.goto (-18), 3) := by decide +kernel
theorem dX4_pack_46 : decode cX4_pack 46 = .ok (.aload_n 0, 1) := by decide +kernel
theorem dX4_pack_47 : decode cX4_pack 47 = .ok (.getfield 47, 3) := by decide +kernel
theorem dX4_pack_50 : decode cX4_pack 50 = .ok (.iconst 1, 1) := by decide +kernel
theorem dX4_pack_51 : decode cX4_pack 51 = .ok (.isub, 1) := by decide +kernel
theorem dX4_pack_52 : decode cX4_pack 52 = .ok (.istore_n 1, 1) := by decide +kernel
theorem dX4_pack_53 : decode cX4_pack 53 = .ok (.iload_n 1, 1) := by decide +kernel
theorem dX4_pack_54 : decode cX4_pack 54 = .ok (.ifCond .lt 14, 3) := by decide +kernel
theorem dX4_pack_57 : decode cX4_pack 57 = .ok (.aload_n 0, 1) := by decide +kernel
theorem dX4_pack_58 : decode cX4_pack 58 = .ok (.iload_n 1, 1) := by decide +kernel
theorem dX4_pack_59 : decode cX4_pack 59 = .ok (.invokevirtual 67, 3) := by decide +kernel
theorem dX4_pack_62 : decode cX4_pack 62 = .ok (.iinc 1 (-1), 3) := by decide +kernel
theorem dX4_pack_65 : decode cX4_pack 65 = .ok (.goto (-12), 3) := by decide +kernel
theorem dX4_pack_68 : decode cX4_pack 68 = .ok (.aload_n 0, 1) := by decide +kernel
theorem dX4_pack_69 : decode cX4_pack 69 = .ok (.getfield 16, 3) := by decide +kernel
theorem dX4_pack_72 : decode cX4_pack 72 = .ok (.iconst 0, 1) := by decide +kernel
theorem dX4_pack_73 : decode cX4_pack 73 = .ok (.iaload, 1) := by decide +kernel
theorem dX4_pack_74 : decode cX4_pack 74 = .ok (.istore_n 1, 1) := by decide +kernel
theorem dX4_pack_75 : decode cX4_pack 75 = .ok (.aload_n 0, 1) := by decide +kernel
theorem dX4_pack_76 : decode cX4_pack 76 = .ok (.iload_n 1, 1) := by decide +kernel
theorem dX4_pack_77 : decode cX4_pack 77 = .ok (.aload_n 0, 1) := by decide +kernel
theorem dX4_pack_78 : decode cX4_pack 78 = .ok (.getfield 47, 3) := by decide +kernel
theorem dX4_pack_81 : decode cX4_pack 81 = .ok (.if_icmp .le 12, 3) := by decide +kernel
theorem dX4_pack_84 : decode cX4_pack 84 = .ok (.iload_n 1, 1) := by decide +kernel
theorem dX4_pack_85 : decode cX4_pack 85 = .ok (.aload_n 0, 1) := by decide +kernel
theorem dX4_pack_86 : decode cX4_pack 86 = .ok (.getfield 47, 3) := by decide +kernel
theorem dX4_pack_89 : decode cX4_pack 89 = .ok (.isub, 1) := by decide +kernel
theorem dX4_pack_90 : decode cX4_pack 90 = .ok (.goto 4, 3) := by decide +kernel
theorem dX4_pack_93 : decode cX4_pack 93 = .ok (.iconst 0, 1) := by decide +kernel
theorem dX4_pack_94 : decode cX4_pack 94 = .ok (.putfield 71, 3) := by decide +kernel
theorem dX4_pack_97 : decode cX4_pack 97 = .ok (.aload_n 0, 1) := by decide +kernel
theorem dX4_pack_98 : decode cX4_pack 98 = .ok (.iconst 0, 1) := by decide +kernel
theorem dX4_pack_99 : decode cX4_pack 99 = .ok (.putfield 74, 3) := by decide +kernel
theorem dX4_pack_102 : decode cX4_pack 102 = .ok (.iconst 0, 1) := by decide +kernel
theorem dX4_pack_103 : decode cX4_pack 103 = .ok (.istore_n 2, 1) := by decide +kernel
theorem dX4_pack_104 : decode cX4_pack 104 = .ok (.iload_n 2, 1) := by decide +kernel
theorem dX4_pack_105 : decode cX4_pack 105 = .ok (.aload_n 0, 1) := by decide +kernel
theorem dX4_pack_106 : decode cX4_pack 106 = .ok (.getfield 47, 3) := by decide +kernel
theorem dX4_pack_109 : decode cX4_pack 109 = .ok (.if_icmp .ge 158, 3) := by decide +kernel
theorem dX4_pack_112 : decode cX4_pack 112 = .ok (.aload_n 0, 1) := by decide +kernel
theorem dX4_pack_113 : decode cX4_pack 113 = .ok (.getfield 19, 3) := by decide +kernel
theorem dX4_pack_116 : decode cX4_pack 116 = .ok (.iload_n 2, 1) := by decide +kernel
theorem dX4_pack_117 : decode cX4_pack 117 = .ok (.iaload, 1) := by decide +kernel
theorem dX4_pack_118 : decode cX4_pack 118 = .ok (.istore_n 3, 1) := by decide +kernel
theorem dX4_pack_119 : decode cX4_pack 119 = .ok (.aload_n 0, 1) := by decide +kernel
theorem dX4_pack_120 : decode cX4_pack 120 = .ok (.getfield 13, 3) := by decide +kernel
theorem dX4_pack_123 : decode cX4_pack 123 = .ok (.aload_n 0, 1) := by decide +kernel
theorem dX4_pack_124 : decode cX4_pack 124 = .ok (.getfield 74, 3) := by decide +kernel
theorem dX4_pack_127 : decode cX4_pack 127 = .ok (.iload_n 3, 1) := by decide +kernel
theorem dX4_pack_128 : decode cX4_pack 128 = .ok (.iastore, 1) := by decide +kernel
theorem dX4_pack_129 : decode cX4_pack 129 = .ok (.aload_n 0, 1) := by decide +kernel
theorem dX4_pack_130 : decode cX4_pack 130 = .ok (.dup, 1) := by decide +kernel
theorem dX4_pack_131 : decode cX4_pack 131 = .ok (.getfield 74, 3) := by decide +kernel
theorem dX4_pack_134 : decode cX4_pack 134 = .ok (.iconst 1, 1) := by decide +kernel
theorem dX4_pack_135 : decode cX4_pack 135 = .ok (.iadd, 1) := by decide +kernel
theorem dX4_pack_136 : decode cX4_pack 136 = .ok (.putfield 74, 3) := by decide +kernel
theorem dX4_pack_139 : decode cX4_pack 139 = .ok (.iload_n 3, 1) := by decide +kernel
theorem dX4_pack_140 : decode cX4_pack 140 = .ok (.bipush 127, 2) := by decide +kernel
theorem dX4_pack_142 : decode cX4_pack 142 = .ok (.if_icmp .le 38, 3) := by decide +kernel
theorem dX4_pack_145 : decode cX4_pack 145 = .ok (.aload_n 0, 1) := by decide +kernel
theorem dX4_pack_146 : decode cX4_pack 146 = .ok (.getfield 13, 3) := by decide +kernel
theorem dX4_pack_149 : decode cX4_pack 149 = .ok (.aload_n 0, 1) := by decide +kernel
theorem dX4_pack_150 : decode cX4_pack 150 = .ok (.getfield 74, 3) := by decide +kernel
theorem dX4_pack_153 : decode cX4_pack 153 = .ok (.aload_n 0, 1) := by decide +kernel
theorem dX4_pack_154 : decode cX4_pack 154 = .ok (.getfield 22, 3) := by decide +kernel
theorem dX4_pack_157 : decode cX4_pack 157 = .ok (.iload_n 2, 1) := by decide +kernel
theorem dX4_pack_158 : decode cX4_pack 158 = .ok (.iaload, 1) := by decide +kernel
theorem dX4_pack_159 : decode cX4_pack 159 = .ok (.iastore, 1) := by decide +kernel
theorem dX4_pack_160 : decode cX4_pack 160 = .ok (.aload_n 0, 1) := by decide +kernel
theorem dX4_pack_161 : decode cX4_pack 161 = .ok (.dup, 1) := by decide +kernel
theorem dX4_pack_162 : decode cX4_pack 162 = .ok (.getfield 74, 3) := by decide +kernel
theorem dX4_pack_165 : decode cX4_pack 165 = .ok (.iconst 1, 1) := by decide +kernel
theorem dX4_pack_166 : decode cX4_pack 166 = .ok (.iadd, 1) := by decide +kernel
theorem dX4_pack_167 : decode cX4_pack 167 = .ok (.putfield 74, 3) := by decide +kernel
theorem dX4_pack_170 : decode cX4_pack 170 = .ok (.iload_n 2, 1) := by decide +kernel
theorem dX4_pack_171 : decode cX4_pack 171 = .ok (.iload_n 3, 1) := by decide +kernel
theorem dX4_pack_172 : decode cX4_pack 172 = .ok (.iadd, 1) := by decide +kernel
theorem dX4_pack_173 : decode cX4_pack 173 = .ok (.bipush 126, 2) := by decide +kernel
theorem dX4_pack_175 : decode cX4_pack 175 = .ok (.isub, 1) := by decide +kernel
theorem dX4_pack_176 : decode cX4_pack 176 = .ok (.istore_n 2, 1) := by decide +kernel
theorem dX4_pack_177 : decode cX4_pack 177 = .ok (.goto 50, 3) := by decide +kernel
theorem dX4_pack_180 : decode cX4_pack 180 = .ok (.iconst 0, 1) := by decide +kernel
theorem dX4_pack_181 : decode cX4_pack 181 = .ok (.istore 4, 2) := by decide +kernel
theorem dX4_pack_183 : decode cX4_pack 183 = .ok (.iload 4, 2) := by decide +kernel
theorem dX4_pack_185 : decode cX4_pack 185 = .ok (.iload_n 3, 1) := by decide +kernel
theorem dX4_pack_186 : decode cX4_pack 186 = .ok (.if_icmp .ge 37, 3) := by decide +kernel
theorem dX4_pack_189 : decode cX4_pack 189 = .ok (.aload_n 0, 1) := by decide +kernel
theorem dX4_pack_190 : decode cX4_pack 190 = .ok (.getfield 13, 3) := by decide +kernel
theorem dX4_pack_193 : decode cX4_pack 193 = .ok (.aload_n 0, 1) := by decide +kernel
theorem dX4_pack_194 : decode cX4_pack 194 = .ok (.getfield 74, 3) := by decide +kernel
theorem dX4_pack_197 : decode cX4_pack 197 = .ok (.aload_n 0, 1) := by decide +kernel
theorem dX4_pack_198 : decode cX4_pack 198 = .ok (.getfield 7, 3) := by decide +kernel
theorem dX4_pack_201 : decode cX4_pack 201 = .ok (.iload_n 2, 1) := by decide +kernel
theorem dX4_pack_202 : decode cX4_pack 202 = .ok (.iload 4, 2) := by decide +kernel
theorem dX4_pack_204 : decode cX4_pack 204 = .ok (.iadd, 1) := by decide +kernel
theorem dX4_pack_205 : decode cX4_pack 205 = .ok (.iaload, 1) := by decide +kernel
theorem dX4_pack_206 : decode cX4_pack 206 = .ok (.iastore, 1) := by decide +kernel
theorem dX4_pack_207 : decode cX4_pack 207 = .ok (.aload_n 0, 1) := by decide +kernel
theorem dX4_pack_208 : decode cX4_pack 208 = .ok (.dup, 1) := by decide +kernel
theorem dX4_pack_209 : decode cX4_pack 209 = .ok (.getfield 74, 3) := by decide +kernel
theorem dX4_pack_212 : decode cX4_pack 212 = .ok (.iconst 1, 1) := by decide +kernel
theorem dX4_pack_213 : decode cX4_pack 213 = .ok (.iadd, 1) := by decide +kernel
theorem dX4_pack_214 : decode cX4_pack 214 = .ok (.putfield 74, 3) := by decide +kernel
theorem dX4_pack_217 : decode cX4_pack 217 = .ok (.iinc 4 1, 3) := by decide +kernel
theorem dX4_pack_220 : decode cX4_pack 220 = .ok (.goto (-37), 3) := by decide +kernel
theorem dX4_pack_223 : decode cX4_pack 223 = .ok (.iload_n 2, 1) := by decide +kernel
theorem dX4_pack_224 : decode cX4_pack 224 = .ok (.iload_n 3, 1) := by decide +kernel
theorem dX4_pack_225 : decode cX4_pack 225 = .ok (.iadd, 1) := by decide +kernel
theorem dX4_pack_226 : decode cX4_pack 226 = .ok (.istore_n 2, 1) := by decide +kernel
theorem dX4_pack_227 : decode cX4_pack 227 = .ok (.iload_n 2, 1) := by decide +kernel
theorem dX4_pack_228 : decode cX4_pack 228 = .ok (.aload_n 0, 1) := by decide +kernel
theorem dX4_pack_229 : decode cX4_pack 229 = .ok (.getfield 74, 3) := by decide +kernel
theorem dX4_pack_232 : decode cX4_pack 232 = .ok (.isub, 1) := by decide +kernel
theorem dX4_pack_233 : decode cX4_pack 233 = .ok (.iload_n 1, 1) := by decide +kernel
theorem dX4_pack_234 : decode cX4_pack 234 = .ok (.iadd, 1) := by decide +kernel
theorem dX4_pack_235 : decode cX4_pack 235 = .ok (.aload_n 0, 1) := by decide +kernel
theorem dX4_pack_236 : decode cX4_pack 236 = .ok (.getfield 47, 3) := by decide +kernel
theorem dX4_pack_239 : decode cX4_pack 239 = .ok (.isub, 1) := by decide +kernel
theorem dX4_pack_240 : decode cX4_pack 240 = .ok (.istore 4, 2) := by decide +kernel
theorem dX4_pack_242 : decode cX4_pack 242 = .ok (.aload_n 0, 1) := by decide +kernel
theorem dX4_pack_243 : decode cX4_pack 243 = .ok (.iload 4, 2) := by decide +kernel
theorem dX4_pack_245 : decode cX4_pack 245 = .ok (.aload_n 0, 1) := by decide +kernel
theorem dX4_pack_246 : decode cX4_pack 246 = .ok (.getfield 71, 3) := by decide +kernel
theorem dX4_pack_249 : decode cX4_pack 249 = .ok (.if_icmp .le 8, 3) := by decide +kernel
theorem dX4_pack_252 : decode cX4_pack 252 = .ok (.iload 4, 2) := by decide +kernel
theorem dX4_pack_254 : decode cX4_pack 254 = .ok (.goto 7, 3) := by decide +kernel
theorem dX4_pack_257 : decode cX4_pack 257 = .ok (.aload_n 0, 1) := by decide +kernel
theorem dX4_pack_258 : decode cX4_pack 258 = .ok (.getfield 71, 3) := by decide +kernel
theorem dX4_pack_261 : decode cX4_pack 261 = .ok (.putfield 71, 3) := by decide +kernel
theorem dX4_pack_264 : decode cX4_pack 264 = .ok (.goto (-160), 3) := by decide +kernel
theorem dX4_pack_267 : decode cX4_pack 267 = .ok (.aload_n 0, 1) := by decide +kernel
theorem dX4_pack_268 : decode cX4_pack 268 = .ok (.getfield 13, 3) := by decide +kernel
theorem dX4_pack_271 : decode cX4_pack 271 = .ok (.aload_n 0, 1) := by decide +kernel
theorem dX4_pack_272 : decode cX4_pack 272 = .ok (.getfield 74, 3) := by decide +kernel
theorem dX4_pack_275 : decode cX4_pack 275 = .ok (.iconst 0, 1) := by decide +kernel
theorem dX4_pack_276 : decode cX4_pack 276 = .ok (.iastore, 1) := by decide +kernel
theorem dX4_pack_277 : decode cX4_pack 277 = .ok (.aload_n 0, 1) := by decide +kernel
theorem dX4_pack_278 : decode cX4_pack 278 = .ok (.dup, 1) := by decide +kernel
theorem dX4_pack_279 : decode cX4_pack 279 = .ok (.getfield 74, 3) := by decide +kernel
theorem dX4_pack_282 : decode cX4_pack 282 = .ok (.iconst 1, 1) := by decide +kernel
theorem dX4_pack_283 : decode cX4_pack 283 = .ok (.iadd, 1) := by decide +kernel
theorem dX4_pack_284 : decode cX4_pack 284 = .ok (.putfield 74, 3) := by decide +kernel
theorem dX4_pack_287 : decode cX4_pack 287 = .ok (.return_, 1) := by decide +kernel
