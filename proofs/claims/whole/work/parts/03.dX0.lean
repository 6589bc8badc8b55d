theorem dX0_init_0 : decode cX0_init 0 = .ok (.aload_n 0, 1) := by decide +kernel
theorem dX0_init_1 : decode cX0_init 1 = .ok (.invokespecial 3, 3) := by decide +kernel
theorem dX0_init_4 : decode cX0_init 4 = .ok (.aload_n 0, 1) := by decide +kernel
theorem dX0_init_5 : decode cX0_init 5 = .ok (.sipush 256, 3) := by decide +kernel
theorem dX0_init_8 : decode cX0_init 8 = .ok (.newarray .int, 2) := by decide +kernel
theorem dX0_init_10 : decode cX0_init 10 = .ok (.putfield 9, 3) := by decide +kernel
theorem dX0_init_13 : decode cX0_init 13 = .ok (.aload_n 0, 1) := by decide +kernel
theorem dX0_init_14 : decode cX0_init 14 = .ok (.bipush 8, 2) := by decide +kernel
theorem dX0_init_16 : decode cX0_init 16 = .ok (.newarray .int, 2) := by decide +kernel
theorem dX0_init_18 : decode cX0_init 18 = .ok (.putfield 15, 3) := by decide +kernel
theorem dX0_init_21 : decode cX0_init 21 = .ok (.aload_n 0, 1) := by decide +kernel
theorem dX0_init_22 : decode cX0_init 22 = .ok (.bipush 32, 2) := by decide +kernel
theorem dX0_init_24 : decode cX0_init 24 = .ok (.newarray .int, 2) := by decide +kernel
theorem dX0_init_26 : decode cX0_init 26 = .ok (.putfield 18, 3) := by decide +kernel
theorem dX0_init_29 : decode cX0_init 29 = .ok (.aload_n 0, 1) := by decide +kernel
theorem dX0_init_30 : decode cX0_init 30 = .ok (.iconst 1, 1) := by decide +kernel
theorem dX0_init_31 : decode cX0_init 31 = .ok (.putfield 21, 3) := by decide +kernel
theorem dX0_init_34 : decode cX0_init 34 = .ok (.return_, 1) := by decide +kernel
theorem dX0_runs_0 : decode cX0_runs 0 = .ok (.aload_n 0, 1) := by decide +kernel
theorem dX0_runs_1 : decode cX0_runs 1 = .ok (.getfield 21, 3) := by decide +kernel
theorem dX0_runs_4 : decode cX0_runs 4 = .ok (.ifCond .ne 7, 3) := by decide +kernel
theorem dX0_runs_7 : decode cX0_runs 7 = .ok (.iconst 1, 1) := by decide +kernel
theorem dX0_runs_8 : decode cX0_runs 8 = .ok (.goto 4, 3) := by decide +kernel
theorem dX0_runs_11 : decode cX0_runs 11 = .ok (.iconst 0, 1) := by decide +kernel
theorem dX0_runs_12 : decode cX0_runs 12 = .ok (.ireturn, 1) := by decide +kernel
theorem dX0_keeps_0 : decode cX0_keeps 0 = .ok (.iload_n 1, 1) := by decide +kernel
theorem dX0_keeps_1 : decode cX0_keeps 1 = .ok (.ifCond .lt 26, 3) := by decide +kernel
theorem dX0_keeps_4 : decode cX0_keeps 4 = .ok (.iload_n 1, 1) := by decide +kernel
theorem dX0_keeps_5 : decode cX0_keeps 5 = .ok (.aload_n 0, 1) := by decide +kernel
theorem dX0_keeps_6 : decode cX0_keeps 6 = .ok (.getfield 25, 3) := by decide +kernel
theorem dX0_keeps_9 : decode cX0_keeps 9 = .ok (.if_icmp .ge 18, 3) := by decide +kernel
theorem dX0_keeps_12 : decode cX0_keeps 12 = .ok (.iload_n 1, 1) := by decide +kernel
theorem dX0_keeps_13 : decode cX0_keeps 13 = .ok (.aload_n 0, 1) := by decide +kernel
theorem dX0_keeps_14 : decode cX0_keeps 14 = .ok (.getfield 25, 3) := by decide +kernel
theorem dX0_keeps_17 : decode cX0_keeps 17 = .ok (.bipush 32, 2) := by decide +kernel
theorem dX0_keeps_19 : decode cX0_keeps 19 = .ok (.isub, 1) := by decide +kernel
theorem dX0_keeps_20 : decode cX0_keeps 20 = .ok (.if_icmp .lt 7, 3) := by decide +kernel
theorem dX0_keeps_23 : decode cX0_keeps 23 = .ok (.iconst 1, 1) := by decide +kernel
theorem dX0_keeps_24 : decode cX0_keeps 24 = .ok (.goto 4, 3) := by decide +kernel
theorem dX0_keeps_27 : decode cX0_keeps 27 = .ok (.iconst 0, 1) := by decide +kernel
theorem dX0_keeps_28 : decode cX0_keeps 28 = .ok (.ireturn, 1) := by decide +kernel
theorem dX0_clear_0 : decode cX0_clear 0 = .ok (.iconst 0, 1) := by decide +kernel
theorem dX0_clear_1 : decode cX0_clear 1 = .ok (.istore_n 2, 1) := by decide +kernel
theorem dX0_clear_2 : decode cX0_clear 2 = .ok (.iload_n 2, 1) := by decide +kernel
theorem dX0_clear_3 : decode cX0_clear 3 = .ok (.sipush 256, 3) := by decide +kernel
theorem dX0_clear_6 : decode cX0_clear 6 = .ok (.if_icmp .ge 16, 3) := by decide +kernel
theorem dX0_clear_9 : decode cX0_clear 9 = .ok (.aload_n 0, 1) := by decide +kernel
theorem dX0_clear_10 : decode cX0_clear 10 = .ok (.getfield 9, 3) := by decide +kernel
theorem dX0_clear_13 : decode cX0_clear 13 = .ok (.iload_n 2, 1) := by decide +kernel
theorem dX0_clear_14 : decode cX0_clear 14 = .ok (.iconst 0, 1) := by decide +kernel
theorem dX0_clear_15 : decode cX0_clear 15 = .ok (.iastore, 1) := by decide +kernel
theorem dX0_clear_16 : decode cX0_clear 16 = .ok (.iinc 2 1, 3) := by decide +kernel
theorem dX0_clear_19 : decode cX0_clear 19 = .ok (.goto (-17), 3) := by decide +kernel
theorem dX0_clear_22 : decode cX0_clear 22 = .ok (.iconst 0, 1) := by decide +kernel
theorem dX0_clear_23 : decode cX0_clear 23 = .ok (.istore_n 2, 1) := by decide +kernel
theorem dX0_clear_24 : decode cX0_clear 24 = .ok (.iload_n 2, 1) := by decide +kernel
theorem dX0_clear_25 : decode cX0_clear 25 = .ok (.bipush 8, 2) := by decide +kernel
theorem dX0_clear_27 : decode cX0_clear 27 = .ok (.if_icmp .ge 16, 3) := by decide +kernel
theorem dX0_clear_30 : decode cX0_clear 30 = .ok (.aload_n 0, 1) := by decide +kernel
theorem dX0_clear_31 : decode cX0_clear 31 = .ok (.getfield 15, 3) := by decide +kernel
theorem dX0_clear_34 : decode cX0_clear 34 = .ok (.iload_n 2, 1) := by decide +kernel
theorem dX0_clear_35 : decode cX0_clear 35 = .ok (.iconst 0, 1) := by decide +kernel
theorem dX0_clear_36 : decode cX0_clear 36 = .ok (.iastore, 1) := by decide +kernel
theorem dX0_clear_37 : decode cX0_clear 37 = .ok (.iinc 2 1, 3) := by decide +kernel
theorem dX0_clear_40 : decode cX0_clear 40 = .ok (.goto (-16), 3) := by decide +kernel
theorem dX0_clear_43 : decode cX0_clear 43 = .ok (.aload_n 0, 1) := by decide +kernel
theorem dX0_clear_44 : decode cX0_clear 44 = .ok (.iload_n 1, 1) := by decide +kernel
theorem dX0_clear_45 : decode cX0_clear 45 = .ok (.putfield 28, 3) := by decide +kernel
theorem dX0_clear_48 : decode cX0_clear 48 = .ok (.aload_n 0, 1) := by decide +kernel
theorem dX0_clear_49 : decode cX0_clear 49 = .ok (.iconst 0, 1) := by decide +kernel
theorem dX0_clear_50 : decode cX0_clear 50 = .ok (.putfield 21, 3) := by decide +kernel
theorem dX0_clear_53 : decode cX0_clear 53 = .ok (.aload_n 0, 1) := by decide +kernel
theorem dX0_clear_54 : decode cX0_clear 54 = .ok (.iconst 0, 1) := by decide +kernel
theorem dX0_clear_55 : decode cX0_clear 55 = .ok (.putfield 31, 3) := by decide +kernel
theorem dX0_clear_58 : decode cX0_clear 58 = .ok (.aload_n 0, 1) := by decide +kernel
theorem dX0_clear_59 : decode cX0_clear 59 = .ok (.iconst 0, 1) := by decide +kernel
theorem dX0_clear_60 : decode cX0_clear 60 = .ok (.putfield 25, 3) := by decide +kernel
theorem dX0_clear_63 : decode cX0_clear 63 = .ok (.return_, 1) := by decide +kernel
theorem dX0_write_0 : decode cX0_write 0 = .ok (.aload_n 2, 1) := by decide +kernel
theorem dX0_write_1 : decode cX0_write 1 = .ok (.iconst 0, 1) := by decide +kernel
theorem dX0_write_2 : decode cX0_write 2 = .ok (.aload_n 0, 1) := by decide +kernel
theorem dX0_write_3 : decode cX0_write 3 = .ok (.getfield 9, 3) := by decide +kernel
theorem dX0_write_6 : decode cX0_write 6 = .ok (.iload_n 1, 1) := by decide +kernel
theorem dX0_write_7 : decode cX0_write 7 = .ok (.iload_n 3, 1) := by decide +kernel
theorem dX0_write_8 : decode cX0_write 8 = .ok (.invokestatic 34, 3) := by decide +kernel
theorem dX0_write_11 : decode cX0_write 11 = .ok (.return_, 1) := by decide +kernel
theorem dX0_writeStub_0 : decode cX0_writeStub 0 = .ok (.iconst 0, 1) := by decide +kernel
theorem dX0_writeStub_1 : decode cX0_writeStub 1 = .ok (.istore 5, 2) := by decide +kernel
theorem dX0_writeStub_3 : decode cX0_writeStub 3 = .ok (.iload 5, 2) := by decide +kernel
theorem dX0_writeStub_5 : decode cX0_writeStub 5 = .ok (.bipush 60, 2) := by decide +kernel
theorem dX0_writeStub_7 : decode cX0_writeStub 7 = .ok (.if_icmp .ge 69, 3) := by decide +kernel
theorem dX0_writeStub_10 : decode cX0_writeStub 10 = .ok (.getstatic 40, 3) := by decide +kernel
theorem dX0_writeStub_13 : decode cX0_writeStub 13 = .ok (.iload 5, 2) := by decide +kernel
theorem dX0_writeStub_15 : decode cX0_writeStub 15 = .ok (.iaload, 1) := by decide +kernel
theorem dX0_writeStub_16 : decode cX0_writeStub 16 = .ok (.sipush 128, 3) := by decide +kernel
theorem dX0_writeStub_19 : decode cX0_writeStub 19 = .ok (.if_icmp .lt 7, 3) := by decide +kernel
theorem dX0_writeStub_22 : decode cX0_writeStub 22 = .ok (.iload_n 1, 1) := by decide +kernel
theorem dX0_writeStub_23 : decode cX0_writeStub 23 = .ok (.goto 4, 3) := by decide +kernel
theorem dX0_writeStub_26 : decode cX0_writeStub 26 = .ok (.iconst 0, 1) := by decide +kernel
theorem dX0_writeStub_27 : decode cX0_writeStub 27 = .ok (.istore 6, 2) := by decide +kernel
theorem dX0_writeStub_29 : decode cX0_writeStub 29 = .ok (.aload_n 0, 1) := by decide +kernel
theorem dX0_writeStub_30 : decode cX0_writeStub 30 = .ok (.getfield 9, 3) := by decide +kernel
theorem dX0_writeStub_33 : decode cX0_writeStub 33 = .ok (.iload_n 1, 1) := by decide +kernel
theorem dX0_writeStub_34 : decode cX0_writeStub 34 = .ok (.iload 5, 2) := by decide +kernel
theorem dX0_writeStub_36 : decode cX0_writeStub 36 = .ok (.iadd, 1) := by decide +kernel
theorem dX0_writeStub_37 : decode cX0_writeStub 37 = .ok (.getstatic 40, 3) := by decide +kernel
theorem dX0_writeStub_40 : decode cX0_writeStub 40 = .ok (.iload 5, 2) := by decide +kernel
theorem dX0_writeStub_42 : decode cX0_writeStub 42 = .ok (.iaload, 1) := by decide +kernel
theorem dX0_writeStub_43 : decode cX0_writeStub 43 = .ok (.iastore, 1) := by decide +kernel
theorem dX0_writeStub_44 : decode cX0_writeStub 44 = .ok (.aload_n 0, 1) := by decide +kernel
theorem dX0_writeStub_45 : decode cX0_writeStub 45 = .ok (.getfield 9, 3) := by decide +kernel
theorem dX0_writeStub_48 : decode cX0_writeStub 48 = .ok (.iload_n 1, 1) := by decide +kernel
theorem dX0_writeStub_49 : decode cX0_writeStub 49 = .ok (.iload 5, 2) := by decide +kernel
theorem dX0_writeStub_51 : decode cX0_writeStub 51 = .ok (.iadd, 1) := by decide +kernel
theorem dX0_writeStub_52 : decode cX0_writeStub 52 = .ok (.iconst 1, 1) := by decide +kernel
theorem dX0_writeStub_53 : decode cX0_writeStub 53 = .ok (.iadd, 1) := by decide +kernel
theorem dX0_writeStub_54 : decode cX0_writeStub 54 = .ok (.getstatic 40, 3) := by decide +kernel
theorem dX0_writeStub_57 : decode cX0_writeStub 57 = .ok (.iload 5, 2) := by decide +kernel
theorem dX0_writeStub_59 : decode cX0_writeStub 59 = .ok (.iconst 1, 1) := by decide +kernel
theorem dX0_writeStub_60 : decode cX0_writeStub 60 = .ok (.iadd, 1) := by decide +kernel
theorem dX0_writeStub_61 : decode cX0_writeStub 61 = .ok (.iaload, 1) := by decide +kernel
theorem dX0_writeStub_62 : decode cX0_writeStub 62 = .ok (.iload 6, 2) := by decide +kernel
theorem dX0_writeStub_64 : decode cX0_writeStub 64 = .ok (.iadd, 1) := by decide +kernel
theorem dX0_writeStub_65 : decode cX0_writeStub 65 = .ok (.sipush 255, 3) := by decide +kernel
theorem dX0_writeStub_68 : decode cX0_writeStub 68 = .ok (.iand, 1) := by decide +kernel
theorem dX0_writeStub_69 : decode cX0_writeStub 69 = .ok (.iastore, 1) := by decide +kernel
theorem dX0_writeStub_70 : decode cX0_writeStub 70 = .ok (.iinc 5 2, 3) := by decide +kernel
theorem dX0_writeStub_73 : decode cX0_writeStub 73 = .ok (.goto (-70), 3) := by decide +kernel
theorem dX0_writeStub_76 : decode cX0_writeStub 76 = .ok (.aload_n 0, 1) := by decide +kernel
theorem dX0_writeStub_77 : decode cX0_writeStub 77 = .ok (.getfield 9, 3) := by decide +kernel
theorem dX0_writeStub_80 : decode cX0_writeStub 80 = .ok (.iload_n 1, 1) := by decide +kernel
theorem dX0_writeStub_81 : decode cX0_writeStub 81 = .ok (.iconst 1, 1) := by decide +kernel
theorem dX0_writeStub_82 : decode cX0_writeStub 82 = .ok (.iadd, 1) := by decide +kernel
theorem dX0_writeStub_83 : decode cX0_writeStub 83 = .ok (.iload_n 2, 1) := by decide +kernel
theorem dX0_writeStub_84 : decode cX0_writeStub 84 = .ok (.iastore, 1) := by decide +kernel
theorem dX0_writeStub_85 : decode cX0_writeStub 85 = .ok (.aload_n 0, 1) := by decide +kernel
theorem dX0_writeStub_86 : decode cX0_writeStub 86 = .ok (.getfield 9, 3) := by decide +kernel
theorem dX0_writeStub_89 : decode cX0_writeStub 89 = .ok (.iload_n 1, 1) := by decide +kernel
theorem dX0_writeStub_90 : decode cX0_writeStub 90 = .ok (.iconst 3, 1) := by decide +kernel
theorem dX0_writeStub_91 : decode cX0_writeStub 91 = .ok (.iadd, 1) := by decide +kernel
theorem dX0_writeStub_92 : decode cX0_writeStub 92 = .ok (.iload_n 3, 1) := by decide +kernel
theorem dX0_writeStub_93 : decode cX0_writeStub 93 = .ok (.iastore, 1) := by decide +kernel
theorem dX0_writeStub_94 : decode cX0_writeStub 94 = .ok (.aload_n 0, 1) := by decide +kernel
theorem dX0_writeStub_95 : decode cX0_writeStub 95 = .ok (.getfield 9, 3) := by decide +kernel
theorem dX0_writeStub_98 : decode cX0_writeStub 98 = .ok (.iload_n 1, 1) := by decide +kernel
theorem dX0_writeStub_99 : decode cX0_writeStub 99 = .ok (.bipush 60, 2) := by decide +kernel
theorem dX0_writeStub_101 : decode cX0_writeStub 101 = .ok (.iadd, 1) := by decide +kernel
theorem dX0_writeStub_102 : decode cX0_writeStub 102 = .ok (.iconst 1, 1) := by decide +kernel
theorem dX0_writeStub_103 : decode cX0_writeStub 103 = .ok (.isub, 1) := by decide +kernel
theorem dX0_writeStub_104 : decode cX0_writeStub 104 = .ok (.iload 4, 2) := by decide +kernel
theorem dX0_writeStub_106 : decode cX0_writeStub 106 = .ok (.iastore, 1) := by decide +kernel
theorem dX0_writeStub_107 : decode cX0_writeStub 107 = .ok (.return_, 1) := by decide +kernel
set_option maxRecDepth 20000 in
theorem ggX0_step_X0_act : GoodIn wsX0_step wsX0_act := goodIn_r _ [8, 9, 10, 1, 11, 12, 13, 14, 15, 7, 16, 2, 17, 18, 19, 20, 21, 22, 23, 24, 25, 26, 27] (by decide +kernel) (by decide +kernel)
set_option maxRecDepth 20000 in
theorem gX0_step_X0_act : GoodIn wsX0_step (wsV RX0 43 RX0 yX0_act wsX0_act) := goodIn_app (goodIn_of _ (by decide +kernel)) ggX0_step_X0_act
theorem dX0_step_0 : decode cX0_step 0 = .ok (.aload_n 0, 1) := by decide +kernel
theorem dX0_step_1 : decode cX0_step 1 = .ok (.getfield 9, 3) := by decide +kernel
theorem dX0_step_4 : decode cX0_step 4 = .ok (.aload_n 0, 1) := by decide +kernel
theorem dX0_step_5 : decode cX0_step 5 = .ok (.getfield 28, 3) := by decide +kernel
theorem dX0_step_8 : decode cX0_step 8 = .ok (.iaload, 1) := by decide +kernel
theorem dX0_step_9 : decode cX0_step 9 = .ok (.istore_n 1, 1) := by decide +kernel
theorem dX0_step_10 : decode cX0_step 10 = .ok (.aload_n 0, 1) := by decide +kernel
theorem dX0_step_11 : decode cX0_step 11 = .ok (.getfield 9, 3) := by decide +kernel
theorem dX0_step_14 : decode cX0_step 14 = .ok (.aload_n 0, 1) := by decide +kernel
theorem dX0_step_15 : decode cX0_step 15 = .ok (.getfield 28, 3) := by decide +kernel
theorem dX0_step_18 : decode cX0_step 18 = .ok (.iconst 1, 1) := by decide +kernel
theorem dX0_step_19 : decode cX0_step 19 = .ok (.iadd, 1) := by decide +kernel
theorem dX0_step_20 : decode cX0_step 20 = .ok (.sipush 255, 3) := by decide +kernel
theorem dX0_step_23 : decode cX0_step 23 = .ok (.iand, 1) := by decide +kernel
theorem dX0_step_24 : decode cX0_step 24 = .ok (.iaload, 1) := by decide +kernel
theorem dX0_step_25 : decode cX0_step 25 = .ok (.istore_n 2, 1) := by decide +kernel
theorem dX0_step_26 : decode cX0_step 26 = .ok (.aload_n 0, 1) := by decide +kernel
theorem dX0_step_27 : decode cX0_step 27 = .ok (.aload_n 0, 1) := by decide +kernel
theorem dX0_step_28 : decode cX0_step 28 = .ok (.getfield 28, 3) := by decide +kernel
theorem dX0_step_31 : decode cX0_step 31 = .ok (.iconst 2, 1) := by decide +kernel
theorem dX0_step_32 : decode cX0_step 32 = .ok (.iadd, 1) := by decide +kernel
theorem dX0_step_33 : decode cX0_step 33 = .ok (.sipush 255, 3) := by decide +kernel
theorem dX0_step_36 : decode cX0_step 36 = .ok (.iand, 1) := by decide +kernel
theorem dX0_step_37 : decode cX0_step 37 = .ok (.putfield 28, 3) := by decide +kernel
theorem dX0_step_40 : decode cX0_step 40 = .ok (.aload_n 0, 1) := by decide +kernel
theorem dX0_step_41 : decode cX0_step 41 = .ok (.dup, 1) := by decide +kernel
theorem dX0_step_42 : decode cX0_step 42 = .ok (.getfield 31, 3) := by decide +kernel
theorem dX0_step_45 : decode cX0_step 45 = .ok (.iconst 1, 1) := by decide +kernel
theorem dX0_step_46 : decode cX0_step 46 = .ok (.iadd, 1) := by decide +kernel
theorem dX0_step_47 : decode cX0_step 47 = .ok (.putfield 31, 3) := by decide +kernel
theorem dX0_step_50 : decode cX0_step 50 = .ok (.aload_n 0, 1) := by decide +kernel
theorem dX0_step_51 : decode cX0_step 51 = .ok (.iload_n 1, 1) := by decide +kernel
theorem dX0_step_52 : decode cX0_step 52 = .ok (.iconst 4, 1) := by decide +kernel
theorem dX0_step_53 : decode cX0_step 53 = .ok (.ishr, 1) := by decide +kernel
theorem dX0_step_54 : decode cX0_step 54 = .ok (.iload_n 1, 1) := by decide +kernel
theorem dX0_step_55 : decode cX0_step 55 = .ok (.bipush 7, 2) := by decide +kernel
theorem dX0_step_57 : decode cX0_step 57 = .ok (.iand, 1) := by decide +kernel
theorem dX0_step_58 : decode cX0_step 58 = .ok (.iload_n 2, 1) := by decide +kernel
theorem dX0_step_59 : decode cX0_step 59 = .ok (.invokevirtual 43, 3) := by decide +kernel
theorem dX0_step_62 : decode cX0_step 62 = .ok (.return_, 1) := by decide +kernel
set_option maxRecDepth 20000 in
theorem ggX0_act_X0_jump : GoodIn wsX0_act wsX0_jump := goodIn_r _ [10, 11, 16, 17, 18, 19, 20, 21, 22] (by decide +kernel) (by decide +kernel)
set_option maxRecDepth 20000 in
theorem gX0_act_X0_jump : GoodIn wsX0_act (wsV RX0 47 RX0 yX0_jump wsX0_jump) := goodIn_app (goodIn_of _ (by decide +kernel)) ggX0_act_X0_jump
set_option maxRecDepth 20000 in
theorem ggX0_act_X0_reckon : GoodIn wsX0_act wsX0_reckon := goodIn_r _ [15, 3, 16, 17, 18, 19, 20, 21, 22] (by decide +kernel) (by decide +kernel)
set_option maxRecDepth 20000 in
theorem gX0_act_X0_reckon : GoodIn wsX0_act (wsV RX0 50 RX0 yX0_reckon wsX0_reckon) := goodIn_app (goodIn_of _ (by decide +kernel)) ggX0_act_X0_reckon
theorem dX0_act_0 : decode cX0_act 0 = .ok (.aload_n 0, 1) := by decide +kernel
theorem dX0_act_1 : decode cX0_act 1 = .ok (.getfield 15, 3) := by decide +kernel
theorem dX0_act_4 : decode cX0_act 4 = .ok (.iload_n 3, 1) := by decide +kernel
theorem dX0_act_5 : decode cX0_act 5 = .ok (.bipush 7, 2) := by decide +kernel
theorem dX0_act_7 : decode cX0_act 7 = .ok (.iand, 1) := by decide +kernel
theorem dX0_act_8 : decode cX0_act 8 = .ok (.iaload, 1) := by decide +kernel
theorem dX0_act_9 : decode cX0_act 9 = .ok (.istore 4, 2) := by decide +kernel
theorem dX0_act_11 : decode cX0_act 11 = .ok (.iload_n 1, 1) := by decide +kernel
theorem dX0_act_12 : decode cX0_act 12 = .ok (.tableswitch 158 0 15 #[80, 158, 158, 158, 158, 158, 88, 158, 104, 104, 104, 104, 158, 158, 119, 150], 80) := by decide +kernel
theorem dX0_act_92 : decode cX0_act 92 = .ok (.aload_n 0, 1) := by decide +kernel
theorem dX0_act_93 : decode cX0_act 93 = .ok (.iconst 1, 1) := by decide +kernel
theorem dX0_act_94 : decode cX0_act 94 = .ok (.putfield 21, 3) := by decide +kernel
theorem dX0_act_97 : decode cX0_act 97 = .ok (.goto 97, 3) := by decide +kernel
theorem dX0_act_100 : decode cX0_act 100 = .ok (.aload_n 0, 1) := by decide +kernel
theorem dX0_act_101 : decode cX0_act 101 = .ok (.getfield 9, 3) := by decide +kernel
theorem dX0_act_104 : decode cX0_act 104 = .ok (.iload 4, 2) := by decide +kernel
theorem dX0_act_106 : decode cX0_act 106 = .ok (.aload_n 0, 1) := by decide +kernel
theorem dX0_act_107 : decode cX0_act 107 = .ok (.getfield 15, 3) := by decide +kernel
theorem dX0_act_110 : decode cX0_act 110 = .ok (.iload_n 2, 1) := by decide +kernel
theorem dX0_act_111 : decode cX0_act 111 = .ok (.iaload, 1) := by decide +kernel
theorem dX0_act_112 : decode cX0_act 112 = .ok (.iastore, 1) := by decide +kernel
theorem dX0_act_113 : decode cX0_act 113 = .ok (.goto 81, 3) := by decide +kernel
theorem dX0_act_116 : decode cX0_act 116 = .ok (.aload_n 0, 1) := by decide +kernel
theorem dX0_act_117 : decode cX0_act 117 = .ok (.iload_n 1, 1) := by decide +kernel
theorem dX0_act_118 : decode cX0_act 118 = .ok (.aload_n 0, 1) := by decide +kernel
theorem dX0_act_119 : decode cX0_act 119 = .ok (.getfield 15, 3) := by decide +kernel
theorem dX0_act_122 : decode cX0_act 122 = .ok (.iload_n 2, 1) := by decide +kernel
theorem dX0_act_123 : decode cX0_act 123 = .ok (.iaload, 1) := by decide +kernel
theorem dX0_act_124 : decode cX0_act 124 = .ok (.iload_n 3, 1) := by decide +kernel
theorem dX0_act_125 : decode cX0_act 125 = .ok (.invokevirtual 47, 3) := by decide +kernel
theorem dX0_act_128 : decode cX0_act 128 = .ok (.goto 66, 3) := by decide +kernel
theorem dX0_act_131 : decode cX0_act 131 = .ok (.aload_n 0, 1) := by decide +kernel
theorem dX0_act_132 : decode cX0_act 132 = .ok (.getfield 18, 3) := by decide +kernel
theorem dX0_act_135 : decode cX0_act 135 = .ok (.aload_n 0, 1) := by decide +kernel
theorem dX0_act_136 : decode cX0_act 136 = .ok (.getfield 25, 3) := by decide +kernel
theorem dX0_act_139 : decode cX0_act 139 = .ok (.bipush 32, 2) := by decide +kernel
theorem dX0_act_141 : decode cX0_act 141 = .ok (.irem, 1) := by decide +kernel
theorem dX0_act_142 : decode cX0_act 142 = .ok (.aload_n 0, 1) := by decide +kernel
theorem dX0_act_143 : decode cX0_act 143 = .ok (.getfield 15, 3) := by decide +kernel
theorem dX0_act_146 : decode cX0_act 146 = .ok (.iload_n 2, 1) := by decide +kernel
theorem dX0_act_147 : decode cX0_act 147 = .ok (.iaload, 1) := by decide +kernel
theorem dX0_act_148 : decode cX0_act 148 = .ok (.iastore, 1) := by decide +kernel
theorem dX0_act_149 : decode cX0_act 149 = .ok (.aload_n 0, 1) := by decide +kernel
theorem dX0_act_150 : decode cX0_act 150 = .ok (.dup, 1) := by decide +kernel
theorem dX0_act_151 : decode cX0_act 151 = .ok (.getfield 25, 3) := by decide +kernel
theorem dX0_act_154 : decode cX0_act 154 = .ok (.iconst 1, 1) := by decide +kernel
theorem dX0_act_155 : decode cX0_act 155 = .ok (.iadd, 1) := by decide +kernel
theorem dX0_act_156 : decode cX0_act 156 = .ok (.putfield 25, 3) := by decide +kernel
theorem dX0_act_159 : decode cX0_act 159 = .ok (.goto 35, 3) := by decide +kernel
theorem dX0_act_162 : decode cX0_act 162 = .ok (.aload_n 0, 1) := by decide +kernel
theorem dX0_act_163 : decode cX0_act 163 = .ok (.iconst 2, 1) := by decide +kernel
theorem dX0_act_164 : decode cX0_act 164 = .ok (.putfield 21, 3) := by decide +kernel
theorem dX0_act_167 : decode cX0_act 167 = .ok (.goto 27, 3) := by decide +kernel
theorem dX0_act_170 : decode cX0_act 170 = .ok (.aload_n 0, 1) := by decide +kernel
theorem dX0_act_171 : decode cX0_act 171 = .ok (.getfield 15, 3) := by decide +kernel
theorem dX0_act_174 : decode cX0_act 174 = .ok (.iload_n 2, 1) := by decide +kernel
theorem dX0_act_175 : decode cX0_act 175 = .ok (.aload_n 0, 1) := by decide +kernel
theorem dX0_act_176 : decode cX0_act 176 = .ok (.iload_n 1, 1) := by decide +kernel
theorem dX0_act_177 : decode cX0_act 177 = .ok (.aload_n 0, 1) := by decide +kernel
theorem dX0_act_178 : decode cX0_act 178 = .ok (.getfield 15, 3) := by decide +kernel
theorem dX0_act_181 : decode cX0_act 181 = .ok (.iload_n 2, 1) := by decide +kernel
theorem dX0_act_182 : decode cX0_act 182 = .ok (.iaload, 1) := by decide +kernel
theorem dX0_act_183 : decode cX0_act 183 = .ok (.iload 4, 2) := by decide +kernel
theorem dX0_act_185 : decode cX0_act 185 = .ok (.iload_n 3, 1) := by decide +kernel
theorem dX0_act_186 : decode cX0_act 186 = .ok (.invokevirtual 50, 3) := by decide +kernel
theorem dX0_act_189 : decode cX0_act 189 = .ok (.sipush 255, 3) := by decide +kernel
theorem dX0_act_192 : decode cX0_act 192 = .ok (.iand, 1) := by decide +kernel
theorem dX0_act_193 : decode cX0_act 193 = .ok (.iastore, 1) := by decide +kernel
theorem dX0_act_194 : decode cX0_act 194 = .ok (.return_, 1) := by decide +kernel
theorem dX0_jump_0 : decode cX0_jump 0 = .ok (.iload_n 1, 1) := by decide +kernel
theorem dX0_jump_1 : decode cX0_jump 1 = .ok (.bipush 11, 2) := by decide +kernel
theorem dX0_jump_3 : decode cX0_jump 3 = .ok (.if_icmp .ne 11, 3) := by decide +kernel
theorem dX0_jump_6 : decode cX0_jump 6 = .ok (.aload_n 0, 1) := by decide +kernel
theorem dX0_jump_7 : decode cX0_jump 7 = .ok (.iload_n 2, 1) := by decide +kernel
theorem dX0_jump_8 : decode cX0_jump 8 = .ok (.putfield 28, 3) := by decide +kernel
theorem dX0_jump_11 : decode cX0_jump 11 = .ok (.goto 36, 3) := by decide +kernel
theorem dX0_jump_14 : decode cX0_jump 14 = .ok (.iload_n 1, 1) := by decide +kernel
theorem dX0_jump_15 : decode cX0_jump 15 = .ok (.bipush 8, 2) := by decide +kernel
theorem dX0_jump_17 : decode cX0_jump 17 = .ok (.if_icmp .eq 25, 3) := by decide +kernel
theorem dX0_jump_20 : decode cX0_jump 20 = .ok (.iload_n 1, 1) := by decide +kernel
theorem dX0_jump_21 : decode cX0_jump 21 = .ok (.bipush 9, 2) := by decide +kernel
theorem dX0_jump_23 : decode cX0_jump 23 = .ok (.if_icmp .ne 7, 3) := by decide +kernel
theorem dX0_jump_26 : decode cX0_jump 26 = .ok (.iload_n 2, 1) := by decide +kernel
theorem dX0_jump_27 : decode cX0_jump 27 = .ok (.ifCond .eq 15, 3) := by decide +kernel
theorem dX0_jump_30 : decode cX0_jump 30 = .ok (.iload_n 1, 1) := by decide +kernel
theorem dX0_jump_31 : decode cX0_jump 31 = .ok (.bipush 10, 2) := by decide +kernel
theorem dX0_jump_33 : decode cX0_jump 33 = .ok (.if_icmp .ne 14, 3) := by decide +kernel
theorem dX0_jump_36 : decode cX0_jump 36 = .ok (.iload_n 2, 1) := by decide +kernel
theorem dX0_jump_37 : decode cX0_jump 37 = .ok (.bipush 127, 2) := by decide +kernel
theorem dX0_jump_39 : decode cX0_jump 39 = .ok (.if_icmp .le 8, 3) := by decide +kernel
theorem dX0_jump_42 : decode cX0_jump 42 = .ok (.aload_n 0, 1) := by decide +kernel
theorem dX0_jump_43 : decode cX0_jump 43 = .ok (.iload_n 3, 1) := by decide +kernel
theorem dX0_jump_44 : decode cX0_jump 44 = .ok (.putfield 28, 3) := by decide +kernel
theorem dX0_jump_47 : decode cX0_jump 47 = .ok (.return_, 1) := by decide +kernel
theorem dX0_reckon_0 : decode cX0_reckon 0 = .ok (.iload_n 1, 1) := by decide +kernel
theorem dX0_reckon_1 : decode cX0_reckon 1 = .ok (.tableswitch 92 1 12 #[63, 66, 68, 72, 77, 92, 84, 92, 92, 92, 92, 88], 63) := by decide +kernel
theorem dX0_reckon_64 : decode cX0_reckon 64 = .ok (.iload 4, 2) := by decide +kernel
theorem dX0_reckon_66 : decode cX0_reckon 66 = .ok (.ireturn, 1) := by decide +kernel
theorem dX0_reckon_67 : decode cX0_reckon 67 = .ok (.iload_n 3, 1) := by decide +kernel
theorem dX0_reckon_68 : decode cX0_reckon 68 = .ok (.ireturn, 1) := by decide +kernel
theorem dX0_reckon_69 : decode cX0_reckon 69 = .ok (.iload_n 2, 1) := by decide +kernel
theorem dX0_reckon_70 : decode cX0_reckon 70 = .ok (.iload_n 3, 1) := by decide +kernel
theorem dX0_reckon_71 : decode cX0_reckon 71 = .ok (.iadd, 1) := by decide +kernel
theorem dX0_reckon_72 : decode cX0_reckon 72 = .ok (.ireturn, 1) := by decide +kernel
theorem dX0_reckon_73 : decode cX0_reckon 73 = .ok (.iload_n 2, 1) := by decide +kernel
theorem dX0_reckon_74 : decode cX0_reckon 74 = .ok (.iload 4, 2) := by decide +kernel
theorem dX0_reckon_76 : decode cX0_reckon 76 = .ok (.iadd, 1) := by decide +kernel
theorem dX0_reckon_77 : decode cX0_reckon 77 = .ok (.ireturn, 1) := by decide +kernel
theorem dX0_reckon_78 : decode cX0_reckon 78 = .ok (.aload_n 0, 1) := by decide +kernel
theorem dX0_reckon_79 : decode cX0_reckon 79 = .ok (.getfield 9, 3) := by decide +kernel
theorem dX0_reckon_82 : decode cX0_reckon 82 = .ok (.iload_n 3, 1) := by decide +kernel
theorem dX0_reckon_83 : decode cX0_reckon 83 = .ok (.iaload, 1) := by decide +kernel
theorem dX0_reckon_84 : decode cX0_reckon 84 = .ok (.ireturn, 1) := by decide +kernel
theorem dX0_reckon_85 : decode cX0_reckon 85 = .ok (.iload_n 2, 1) := by decide +kernel
theorem dX0_reckon_86 : decode cX0_reckon 86 = .ok (.iload_n 3, 1) := by decide +kernel
theorem dX0_reckon_87 : decode cX0_reckon 87 = .ok (.isub, 1) := by decide +kernel
theorem dX0_reckon_88 : decode cX0_reckon 88 = .ok (.ireturn, 1) := by decide +kernel
theorem dX0_reckon_89 : decode cX0_reckon 89 = .ok (.iload_n 2, 1) := by decide +kernel
theorem dX0_reckon_90 : decode cX0_reckon 90 = .ok (.iload_n 3, 1) := by decide +kernel
theorem dX0_reckon_91 : decode cX0_reckon 91 = .ok (.iand, 1) := by decide +kernel
theorem dX0_reckon_92 : decode cX0_reckon 92 = .ok (.ireturn, 1) := by decide +kernel
theorem dX0_reckon_93 : decode cX0_reckon 93 = .ok (.iload_n 2, 1) := by decide +kernel
theorem dX0_reckon_94 : decode cX0_reckon 94 = .ok (.iload 4, 2) := by decide +kernel
theorem dX0_reckon_96 : decode cX0_reckon 96 = .ok (.bipush 7, 2) := by decide +kernel
theorem dX0_reckon_98 : decode cX0_reckon 98 = .ok (.iand, 1) := by decide +kernel
theorem dX0_reckon_99 : decode cX0_reckon 99 = .ok (.ishr, 1) := by decide +kernel
theorem dX0_reckon_100 : decode cX0_reckon 100 = .ok (.ireturn, 1) := by decide +kernel
