theorem dX0_init_0 : decode cX0_init 0 = .ok (.aload_n 0, 1) := by decide +kernel
theorem dX0_init_1 : decode cX0_init 1 = .ok (.invokespecial 3, 3) := by decide +kernel
theorem dX0_init_4 : decode cX0_init 4 = .ok (.aload_n 0, 1) := by decide +kernel
theorem dX0_init_5 : decode cX0_init 5 = .ok (.new 9, 3) := by decide +kernel
theorem dX0_init_8 : decode cX0_init 8 = .ok (.dup, 1) := by decide +kernel
theorem dX0_init_9 : decode cX0_init 9 = .ok (.invokespecial 11, 3) := by decide +kernel
theorem dX0_init_12 : decode cX0_init 12 = .ok (.putfield 12, 3) := by decide +kernel
theorem dX0_init_15 : decode cX0_init 15 = .ok (.aload_n 0, 1) := by decide +kernel
theorem dX0_init_16 : decode cX0_init 16 = .ok (.new 18, 3) := by decide +kernel
theorem dX0_init_19 : decode cX0_init 19 = .ok (.dup, 1) := by decide +kernel
theorem dX0_init_20 : decode cX0_init 20 = .ok (.invokespecial 20, 3) := by decide +kernel
theorem dX0_init_23 : decode cX0_init 23 = .ok (.putfield 21, 3) := by decide +kernel
theorem dX0_init_26 : decode cX0_init 26 = .ok (.aload_n 0, 1) := by decide +kernel
theorem dX0_init_27 : decode cX0_init 27 = .ok (.new 25, 3) := by decide +kernel
theorem dX0_init_30 : decode cX0_init 30 = .ok (.dup, 1) := by decide +kernel
theorem dX0_init_31 : decode cX0_init 31 = .ok (.invokespecial 27, 3) := by decide +kernel
theorem dX0_init_34 : decode cX0_init 34 = .ok (.putfield 28, 3) := by decide +kernel
theorem dX0_init_37 : decode cX0_init 37 = .ok (.aload_n 0, 1) := by decide +kernel
theorem dX0_init_38 : decode cX0_init 38 = .ok (.iconst 0, 1) := by decide +kernel
theorem dX0_init_39 : decode cX0_init 39 = .ok (.putfield 32, 3) := by decide +kernel
theorem dX0_init_42 : decode cX0_init 42 = .ok (.aload_n 0, 1) := by decide +kernel
theorem dX0_init_43 : decode cX0_init 43 = .ok (.iconst 0, 1) := by decide +kernel
theorem dX0_init_44 : decode cX0_init 44 = .ok (.putfield 36, 3) := by decide +kernel
theorem dX0_init_47 : decode cX0_init 47 = .ok (.aload_n 0, 1) := by decide +kernel
theorem dX0_init_48 : decode cX0_init 48 = .ok (.iconst 0, 1) := by decide +kernel
theorem dX0_init_49 : decode cX0_init 49 = .ok (.putfield 39, 3) := by decide +kernel
theorem dX0_init_52 : decode cX0_init 52 = .ok (.aload_n 0, 1) := by decide +kernel
theorem dX0_init_53 : decode cX0_init 53 = .ok (.iconst 0, 1) := by decide +kernel
theorem dX0_init_54 : decode cX0_init 54 = .ok (.putfield 42, 3) := by decide +kernel
theorem dX0_init_57 : decode cX0_init 57 = .ok (.aload_n 0, 1) := by decide +kernel
theorem dX0_init_58 : decode cX0_init 58 = .ok (.bipush (-2), 2) := by decide +kernel
theorem dX0_init_60 : decode cX0_init 60 = .ok (.putfield 45, 3) := by decide +kernel
theorem dX0_init_63 : decode cX0_init 63 = .ok (.return_, 1) := by decide +kernel
theorem dX0_begin_0 : decode cX0_begin 0 = .ok (.aload_n 0, 1) := by decide +kernel
theorem dX0_begin_1 : decode cX0_begin 1 = .ok (.iload_n 1, 1) := by decide +kernel
theorem dX0_begin_2 : decode cX0_begin 2 = .ok (.putfield 32, 3) := by decide +kernel
theorem dX0_begin_5 : decode cX0_begin 5 = .ok (.aload_n 0, 1) := by decide +kernel
theorem dX0_begin_6 : decode cX0_begin 6 = .ok (.aload_n 2, 1) := by decide +kernel
theorem dX0_begin_7 : decode cX0_begin 7 = .ok (.putfield 21, 3) := by decide +kernel
theorem dX0_begin_10 : decode cX0_begin 10 = .ok (.aload_n 0, 1) := by decide +kernel
theorem dX0_begin_11 : decode cX0_begin 11 = .ok (.aload_n 3, 1) := by decide +kernel
theorem dX0_begin_12 : decode cX0_begin 12 = .ok (.putfield 28, 3) := by decide +kernel
theorem dX0_begin_15 : decode cX0_begin 15 = .ok (.aload_n 0, 1) := by decide +kernel
theorem dX0_begin_16 : decode cX0_begin 16 = .ok (.getfield 12, 3) := by decide +kernel
theorem dX0_begin_19 : decode cX0_begin 19 = .ok (.aload_n 2, 1) := by decide +kernel
theorem dX0_begin_20 : decode cX0_begin 20 = .ok (.getfield 48, 3) := by decide +kernel
theorem dX0_begin_23 : decode cX0_begin 23 = .ok (.invokevirtual 51, 3) := by decide +kernel
theorem dX0_begin_26 : decode cX0_begin 26 = .ok (.aload_n 0, 1) := by decide +kernel
theorem dX0_begin_27 : decode cX0_begin 27 = .ok (.iload 4, 2) := by decide +kernel
theorem dX0_begin_29 : decode cX0_begin 29 = .ok (.putfield 36, 3) := by decide +kernel
theorem dX0_begin_32 : decode cX0_begin 32 = .ok (.aload_n 0, 1) := by decide +kernel
theorem dX0_begin_33 : decode cX0_begin 33 = .ok (.iload 5, 2) := by decide +kernel
theorem dX0_begin_35 : decode cX0_begin 35 = .ok (.putfield 39, 3) := by decide +kernel
theorem dX0_begin_38 : decode cX0_begin 38 = .ok (.aload_n 0, 1) := by decide +kernel
theorem dX0_begin_39 : decode cX0_begin 39 = .ok (.iconst 0, 1) := by decide +kernel
theorem dX0_begin_40 : decode cX0_begin 40 = .ok (.putfield 42, 3) := by decide +kernel
theorem dX0_begin_43 : decode cX0_begin 43 = .ok (.aload_n 0, 1) := by decide +kernel
theorem dX0_begin_44 : decode cX0_begin 44 = .ok (.aload_n 0, 1) := by decide +kernel
theorem dX0_begin_45 : decode cX0_begin 45 = .ok (.getfield 12, 3) := by decide +kernel
theorem dX0_begin_48 : decode cX0_begin 48 = .ok (.getfield 55, 3) := by decide +kernel
theorem dX0_begin_51 : decode cX0_begin 51 = .ok (.ifCond .eq 8, 3) := by decide +kernel
theorem dX0_begin_54 : decode cX0_begin 54 = .ok (.bipush (-3), 2) := by decide +kernel
theorem dX0_begin_56 : decode cX0_begin 56 = .ok (.goto 5, 3) := by decide +kernel
theorem dX0_begin_59 : decode cX0_begin 59 = .ok (.bipush (-2), 2) := by decide +kernel
theorem dX0_begin_61 : decode cX0_begin 61 = .ok (.putfield 45, 3) := by decide +kernel
theorem dX0_begin_64 : decode cX0_begin 64 = .ok (.return_, 1) := by decide +kernel
theorem dX0_follow_0 : decode cX0_follow 0 = .ok (.iconst 0, 1) := by decide +kernel
theorem dX0_follow_1 : decode cX0_follow 1 = .ok (.istore_n 3, 1) := by decide +kernel
theorem dX0_follow_2 : decode cX0_follow 2 = .ok (.iload_n 3, 1) := by decide +kernel
theorem dX0_follow_3 : decode cX0_follow 3 = .ok (.iload_n 2, 1) := by decide +kernel
theorem dX0_follow_4 : decode cX0_follow 4 = .ok (.if_icmp .ge 74, 3) := by decide +kernel
theorem dX0_follow_7 : decode cX0_follow 7 = .ok (.iload_n 3, 1) := by decide +kernel
theorem dX0_follow_8 : decode cX0_follow 8 = .ok (.aload_n 1, 1) := by decide +kernel
theorem dX0_follow_9 : decode cX0_follow 9 = .ok (.arraylength, 1) := by decide +kernel
theorem dX0_follow_10 : decode cX0_follow 10 = .ok (.if_icmp .ge 68, 3) := by decide +kernel
theorem dX0_follow_13 : decode cX0_follow 13 = .ok (.aload_n 0, 1) := by decide +kernel
theorem dX0_follow_14 : decode cX0_follow 14 = .ok (.getfield 12, 3) := by decide +kernel
theorem dX0_follow_17 : decode cX0_follow 17 = .ok (.getfield 55, 3) := by decide +kernel
theorem dX0_follow_20 : decode cX0_follow 20 = .ok (.ifCond .ne 58, 3) := by decide +kernel
theorem dX0_follow_23 : decode cX0_follow 23 = .ok (.aload_n 0, 1) := by decide +kernel
theorem dX0_follow_24 : decode cX0_follow 24 = .ok (.sipush 25173, 3) := by decide +kernel
theorem dX0_follow_27 : decode cX0_follow 27 = .ok (.aload_n 0, 1) := by decide +kernel
theorem dX0_follow_28 : decode cX0_follow 28 = .ok (.getfield 39, 3) := by decide +kernel
theorem dX0_follow_31 : decode cX0_follow 31 = .ok (.imul, 1) := by decide +kernel
theorem dX0_follow_32 : decode cX0_follow 32 = .ok (.sipush 13849, 3) := by decide +kernel
theorem dX0_follow_35 : decode cX0_follow 35 = .ok (.iadd, 1) := by decide +kernel
theorem dX0_follow_36 : decode cX0_follow 36 = .ok (.ldc 59, 2) := by decide +kernel
theorem dX0_follow_38 : decode cX0_follow 38 = .ok (.iand, 1) := by decide +kernel
theorem dX0_follow_39 : decode cX0_follow 39 = .ok (.putfield 39, 3) := by decide +kernel
theorem dX0_follow_42 : decode cX0_follow 42 = .ok (.aload_n 0, 1) := by decide +kernel
theorem dX0_follow_43 : decode cX0_follow 43 = .ok (.aload_n 1, 1) := by decide +kernel
theorem dX0_follow_44 : decode cX0_follow 44 = .ok (.iload_n 3, 1) := by decide +kernel
theorem dX0_follow_45 : decode cX0_follow 45 = .ok (.iaload, 1) := by decide +kernel
theorem dX0_follow_46 : decode cX0_follow 46 = .ok (.iload_n 3, 1) := by decide +kernel
theorem dX0_follow_47 : decode cX0_follow 47 = .ok (.aload_n 0, 1) := by decide +kernel
theorem dX0_follow_48 : decode cX0_follow 48 = .ok (.getfield 39, 3) := by decide +kernel
theorem dX0_follow_51 : decode cX0_follow 51 = .ok (.bipush 10, 2) := by decide +kernel
theorem dX0_follow_53 : decode cX0_follow 53 = .ok (.irem, 1) := by decide +kernel
theorem dX0_follow_54 : decode cX0_follow 54 = .ok (.invokevirtual 60, 3) := by decide +kernel
theorem dX0_follow_57 : decode cX0_follow 57 = .ok (.aload_n 0, 1) := by decide +kernel
theorem dX0_follow_58 : decode cX0_follow 58 = .ok (.getfield 12, 3) := by decide +kernel
theorem dX0_follow_61 : decode cX0_follow 61 = .ok (.getfield 55, 3) := by decide +kernel
theorem dX0_follow_64 : decode cX0_follow 64 = .ok (.ifCond .eq 8, 3) := by decide +kernel
theorem dX0_follow_67 : decode cX0_follow 67 = .ok (.aload_n 0, 1) := by decide +kernel
theorem dX0_follow_68 : decode cX0_follow 68 = .ok (.iload_n 3, 1) := by decide +kernel
theorem dX0_follow_69 : decode cX0_follow 69 = .ok (.putfield 45, 3) := by decide +kernel
theorem dX0_follow_72 : decode cX0_follow 72 = .ok (.iinc 3 1, 3) := by decide +kernel
theorem dX0_follow_75 : decode cX0_follow 75 = .ok (.goto (-73), 3) := by decide +kernel
theorem dX0_follow_78 : decode cX0_follow 78 = .ok (.return_, 1) := by decide +kernel
theorem dX0_lastYear_0 : decode cX0_lastYear 0 = .ok (.aload_n 0, 1) := by decide +kernel
theorem dX0_lastYear_1 : decode cX0_lastYear 1 = .ok (.getfield 12, 3) := by decide +kernel
theorem dX0_lastYear_4 : decode cX0_lastYear 4 = .ok (.getfield 64, 3) := by decide +kernel
theorem dX0_lastYear_7 : decode cX0_lastYear 7 = .ok (.iconst 1, 1) := by decide +kernel
theorem dX0_lastYear_8 : decode cX0_lastYear 8 = .ok (.isub, 1) := by decide +kernel
theorem dX0_lastYear_9 : decode cX0_lastYear 9 = .ok (.istore_n 1, 1) := by decide +kernel
theorem dX0_lastYear_10 : decode cX0_lastYear 10 = .ok (.aload_n 0, 1) := by decide +kernel
theorem dX0_lastYear_11 : decode cX0_lastYear 11 = .ok (.getfield 42, 3) := by decide +kernel
theorem dX0_lastYear_14 : decode cX0_lastYear 14 = .ok (.ifCond .le 25, 3) := by decide +kernel
theorem dX0_lastYear_17 : decode cX0_lastYear 17 = .ok (.iload_n 1, 1) := by decide +kernel
theorem dX0_lastYear_18 : decode cX0_lastYear 18 = .ok (.ifCond .lt 21, 3) := by decide +kernel
theorem dX0_lastYear_21 : decode cX0_lastYear 21 = .ok (.iload_n 1, 1) := by decide +kernel
theorem dX0_lastYear_22 : decode cX0_lastYear 22 = .ok (.bipush 24, 2) := by decide +kernel
theorem dX0_lastYear_24 : decode cX0_lastYear 24 = .ok (.if_icmp .ge 15, 3) := by decide +kernel
theorem dX0_lastYear_27 : decode cX0_lastYear 27 = .ok (.aload_n 0, 1) := by decide +kernel
theorem dX0_lastYear_28 : decode cX0_lastYear 28 = .ok (.getfield 21, 3) := by decide +kernel
theorem dX0_lastYear_31 : decode cX0_lastYear 31 = .ok (.getfield 67, 3) := by decide +kernel
theorem dX0_lastYear_34 : decode cX0_lastYear 34 = .ok (.iload_n 1, 1) := by decide +kernel
theorem dX0_lastYear_35 : decode cX0_lastYear 35 = .ok (.iaload, 1) := by decide +kernel
theorem dX0_lastYear_36 : decode cX0_lastYear 36 = .ok (.goto 5, 3) := by decide +kernel
theorem dX0_lastYear_39 : decode cX0_lastYear 39 = .ok (.bipush (-2), 2) := by decide +kernel
theorem dX0_lastYear_41 : decode cX0_lastYear 41 = .ok (.ireturn, 1) := by decide +kernel
theorem dX0_perform_0 : decode cX0_perform 0 = .ok (.iload_n 1, 1) := by decide +kernel
theorem dX0_perform_1 : decode cX0_perform 1 = .ok (.tableswitch 122 0 5 #[39, 46, 55, 64, 103, 112], 39) := by decide +kernel
theorem dX0_perform_40 : decode cX0_perform 40 = .ok (.aload_n 0, 1) := by decide +kernel
theorem dX0_perform_41 : decode cX0_perform 41 = .ok (.invokevirtual 71, 3) := by decide +kernel
theorem dX0_perform_44 : decode cX0_perform 44 = .ok (.goto 79, 3) := by decide +kernel
theorem dX0_perform_47 : decode cX0_perform 47 = .ok (.aload_n 0, 1) := by decide +kernel
theorem dX0_perform_48 : decode cX0_perform 48 = .ok (.iload_n 2, 1) := by decide +kernel
theorem dX0_perform_49 : decode cX0_perform 49 = .ok (.iload_n 3, 1) := by decide +kernel
theorem dX0_perform_50 : decode cX0_perform 50 = .ok (.invokevirtual 74, 3) := by decide +kernel
theorem dX0_perform_53 : decode cX0_perform 53 = .ok (.goto 70, 3) := by decide +kernel
theorem dX0_perform_56 : decode cX0_perform 56 = .ok (.aload_n 0, 1) := by decide +kernel
theorem dX0_perform_57 : decode cX0_perform 57 = .ok (.iload_n 2, 1) := by decide +kernel
theorem dX0_perform_58 : decode cX0_perform 58 = .ok (.iload_n 3, 1) := by decide +kernel
theorem dX0_perform_59 : decode cX0_perform 59 = .ok (.invokevirtual 78, 3) := by decide +kernel
theorem dX0_perform_62 : decode cX0_perform 62 = .ok (.goto 61, 3) := by decide +kernel
theorem dX0_perform_65 : decode cX0_perform 65 = .ok (.aload_n 0, 1) := by decide +kernel
theorem dX0_perform_66 : decode cX0_perform 66 = .ok (.iload_n 2, 1) := by decide +kernel
theorem dX0_perform_67 : decode cX0_perform 67 = .ok (.iload_n 3, 1) := by decide +kernel
theorem dX0_perform_68 : decode cX0_perform 68 = .ok (.invokevirtual 81, 3) := by decide +kernel
theorem dX0_perform_71 : decode cX0_perform 71 = .ok (.aload_n 0, 1) := by decide +kernel
theorem dX0_perform_72 : decode cX0_perform 72 = .ok (.getfield 12, 3) := by decide +kernel
theorem dX0_perform_75 : decode cX0_perform 75 = .ok (.iconst 0, 1) := by decide +kernel
theorem dX0_perform_76 : decode cX0_perform 76 = .ok (.aload_n 0, 1) := by decide +kernel
theorem dX0_perform_77 : decode cX0_perform 77 = .ok (.getfield 12, 3) := by decide +kernel
theorem dX0_perform_80 : decode cX0_perform 80 = .ok (.getfield 84, 3) := by decide +kernel
theorem dX0_perform_83 : decode cX0_perform 83 = .ok (.aload_n 0, 1) := by decide +kernel
theorem dX0_perform_84 : decode cX0_perform 84 = .ok (.getfield 28, 3) := by decide +kernel
theorem dX0_perform_87 : decode cX0_perform 87 = .ok (.bipush 97, 2) := by decide +kernel
theorem dX0_perform_89 : decode cX0_perform 89 = .ok (.bipush 19, 2) := by decide +kernel
theorem dX0_perform_91 : decode cX0_perform 91 = .ok (.invokevirtual 87, 3) := by decide +kernel
theorem dX0_perform_94 : decode cX0_perform 94 = .ok (.isub, 1) := by decide +kernel
theorem dX0_perform_95 : decode cX0_perform 95 = .ok (.invokestatic 91, 3) := by decide +kernel
theorem dX0_perform_98 : decode cX0_perform 98 = .ok (.putfield 84, 3) := by decide +kernel
theorem dX0_perform_101 : decode cX0_perform 101 = .ok (.goto 22, 3) := by decide +kernel
theorem dX0_perform_104 : decode cX0_perform 104 = .ok (.aload_n 0, 1) := by decide +kernel
theorem dX0_perform_105 : decode cX0_perform 105 = .ok (.iload_n 2, 1) := by decide +kernel
theorem dX0_perform_106 : decode cX0_perform 106 = .ok (.iload_n 3, 1) := by decide +kernel
theorem dX0_perform_107 : decode cX0_perform 107 = .ok (.invokevirtual 96, 3) := by decide +kernel
theorem dX0_perform_110 : decode cX0_perform 110 = .ok (.goto 13, 3) := by decide +kernel
theorem dX0_perform_113 : decode cX0_perform 113 = .ok (.aload_n 0, 1) := by decide +kernel
theorem dX0_perform_114 : decode cX0_perform 114 = .ok (.getfield 12, 3) := by decide +kernel
theorem dX0_perform_117 : decode cX0_perform 117 = .ok (.invokevirtual 99, 3) := by decide +kernel
theorem dX0_perform_120 : decode cX0_perform 120 = .ok (.goto 3, 3) := by decide +kernel
theorem dX0_perform_123 : decode cX0_perform 123 = .ok (.return_, 1) := by decide +kernel
theorem dX0_turn_0 : decode cX0_turn 0 = .ok (.aload_n 0, 1) := by decide +kernel
theorem dX0_turn_1 : decode cX0_turn 1 = .ok (.getfield 12, 3) := by decide +kernel
theorem dX0_turn_4 : decode cX0_turn 4 = .ok (.getfield 102, 3) := by decide +kernel
theorem dX0_turn_7 : decode cX0_turn 7 = .ok (.ifCond .ne 10, 3) := by decide +kernel
theorem dX0_turn_10 : decode cX0_turn 10 = .ok (.aload_n 0, 1) := by decide +kernel
theorem dX0_turn_11 : decode cX0_turn 11 = .ok (.getfield 36, 3) := by decide +kernel
theorem dX0_turn_14 : decode cX0_turn 14 = .ok (.ifCond .gt 4, 3) := by decide +kernel
theorem dX0_turn_17 : decode cX0_turn 17 = .ok (.return_, 1) := by decide +kernel
theorem dX0_turn_18 : decode cX0_turn 18 = .ok (.aload_n 0, 1) := by decide +kernel
theorem dX0_turn_19 : decode cX0_turn 19 = .ok (.getfield 12, 3) := by decide +kernel
theorem dX0_turn_22 : decode cX0_turn 22 = .ok (.bipush 9, 2) := by decide +kernel
theorem dX0_turn_24 : decode cX0_turn 24 = .ok (.aload_n 0, 1) := by decide +kernel
theorem dX0_turn_25 : decode cX0_turn 25 = .ok (.getfield 12, 3) := by decide +kernel
theorem dX0_turn_28 : decode cX0_turn 28 = .ok (.getfield 105, 3) := by decide +kernel
theorem dX0_turn_31 : decode cX0_turn 31 = .ok (.iconst 1, 1) := by decide +kernel
theorem dX0_turn_32 : decode cX0_turn 32 = .ok (.iadd, 1) := by decide +kernel
theorem dX0_turn_33 : decode cX0_turn 33 = .ok (.invokestatic 108, 3) := by decide +kernel
theorem dX0_turn_36 : decode cX0_turn 36 = .ok (.putfield 105, 3) := by decide +kernel
theorem dX0_turn_39 : decode cX0_turn 39 = .ok (.aload_n 0, 1) := by decide +kernel
theorem dX0_turn_40 : decode cX0_turn 40 = .ok (.dup, 1) := by decide +kernel
theorem dX0_turn_41 : decode cX0_turn 41 = .ok (.getfield 36, 3) := by decide +kernel
theorem dX0_turn_44 : decode cX0_turn 44 = .ok (.iconst 1, 1) := by decide +kernel
theorem dX0_turn_45 : decode cX0_turn 45 = .ok (.isub, 1) := by decide +kernel
theorem dX0_turn_46 : decode cX0_turn 46 = .ok (.putfield 36, 3) := by decide +kernel
theorem dX0_turn_49 : decode cX0_turn 49 = .ok (.aload_n 0, 1) := by decide +kernel
theorem dX0_turn_50 : decode cX0_turn 50 = .ok (.getfield 12, 3) := by decide +kernel
theorem dX0_turn_53 : decode cX0_turn 53 = .ok (.getfield 105, 3) := by decide +kernel
theorem dX0_turn_56 : decode cX0_turn 56 = .ok (.iconst 5, 1) := by decide +kernel
theorem dX0_turn_57 : decode cX0_turn 57 = .ok (.if_icmp .le 11, 3) := by decide +kernel
theorem dX0_turn_60 : decode cX0_turn 60 = .ok (.aload_n 0, 1) := by decide +kernel
theorem dX0_turn_61 : decode cX0_turn 61 = .ok (.getfield 12, 3) := by decide +kernel
theorem dX0_turn_64 : decode cX0_turn 64 = .ok (.iconst 1, 1) := by decide +kernel
theorem dX0_turn_65 : decode cX0_turn 65 = .ok (.invokevirtual 111, 3) := by decide +kernel
theorem dX0_turn_68 : decode cX0_turn 68 = .ok (.return_, 1) := by decide +kernel
theorem dX0_pull_0 : decode cX0_pull 0 = .ok (.aload_n 0, 1) := by decide +kernel
theorem dX0_pull_1 : decode cX0_pull 1 = .ok (.getfield 12, 3) := by decide +kernel
theorem dX0_pull_4 : decode cX0_pull 4 = .ok (.getfield 102, 3) := by decide +kernel
theorem dX0_pull_7 : decode cX0_pull 7 = .ok (.ifCond .eq 4, 3) := by decide +kernel
theorem dX0_pull_10 : decode cX0_pull 10 = .ok (.return_, 1) := by decide +kernel
theorem dX0_pull_11 : decode cX0_pull 11 = .ok (.aload_n 0, 1) := by decide +kernel
theorem dX0_pull_12 : decode cX0_pull 12 = .ok (.iload_n 1, 1) := by decide +kernel
theorem dX0_pull_13 : decode cX0_pull 13 = .ok (.iload_n 2, 1) := by decide +kernel
theorem dX0_pull_14 : decode cX0_pull 14 = .ok (.invokevirtual 81, 3) := by decide +kernel
theorem dX0_pull_17 : decode cX0_pull 17 = .ok (.aload_n 0, 1) := by decide +kernel
theorem dX0_pull_18 : decode cX0_pull 18 = .ok (.getfield 12, 3) := by decide +kernel
theorem dX0_pull_21 : decode cX0_pull 21 = .ok (.getfield 105, 3) := by decide +kernel
theorem dX0_pull_24 : decode cX0_pull 24 = .ok (.aload_n 0, 1) := by decide +kernel
theorem dX0_pull_25 : decode cX0_pull 25 = .ok (.getfield 28, 3) := by decide +kernel
theorem dX0_pull_28 : decode cX0_pull 28 = .ok (.bipush 103, 2) := by decide +kernel
theorem dX0_pull_30 : decode cX0_pull 30 = .ok (.bipush 9, 2) := by decide +kernel
theorem dX0_pull_32 : decode cX0_pull 32 = .ok (.invokevirtual 87, 3) := by decide +kernel
theorem dX0_pull_35 : decode cX0_pull 35 = .ok (.if_icmp .lt 23, 3) := by decide +kernel
theorem dX0_pull_38 : decode cX0_pull 38 = .ok (.aload_n 0, 1) := by decide +kernel
theorem dX0_pull_39 : decode cX0_pull 39 = .ok (.getfield 28, 3) := by decide +kernel
theorem dX0_pull_42 : decode cX0_pull 42 = .ok (.invokevirtual 115, 3) := by decide +kernel
theorem dX0_pull_45 : decode cX0_pull 45 = .ok (.ifCond .ne 13, 3) := by decide +kernel
theorem dX0_pull_48 : decode cX0_pull 48 = .ok (.aload_n 0, 1) := by decide +kernel
theorem dX0_pull_49 : decode cX0_pull 49 = .ok (.getfield 12, 3) := by decide +kernel
theorem dX0_pull_52 : decode cX0_pull 52 = .ok (.invokevirtual 119, 3) := by decide +kernel
theorem dX0_pull_55 : decode cX0_pull 55 = .ok (.goto 11, 3) := by decide +kernel
theorem dX0_pull_58 : decode cX0_pull 58 = .ok (.aload_n 0, 1) := by decide +kernel
theorem dX0_pull_59 : decode cX0_pull 59 = .ok (.getfield 12, 3) := by decide +kernel
theorem dX0_pull_62 : decode cX0_pull 62 = .ok (.iconst 2, 1) := by decide +kernel
theorem dX0_pull_63 : decode cX0_pull 63 = .ok (.invokevirtual 111, 3) := by decide +kernel
theorem dX0_pull_66 : decode cX0_pull 66 = .ok (.return_, 1) := by decide +kernel
theorem dX0_shake_0 : decode cX0_shake 0 = .ok (.aload_n 0, 1) := by decide +kernel
theorem dX0_shake_1 : decode cX0_shake 1 = .ok (.iload_n 1, 1) := by decide +kernel
theorem dX0_shake_2 : decode cX0_shake 2 = .ok (.iload_n 2, 1) := by decide +kernel
theorem dX0_shake_3 : decode cX0_shake 3 = .ok (.invokevirtual 81, 3) := by decide +kernel
theorem dX0_shake_6 : decode cX0_shake 6 = .ok (.aload_n 0, 1) := by decide +kernel
theorem dX0_shake_7 : decode cX0_shake 7 = .ok (.getfield 12, 3) := by decide +kernel
theorem dX0_shake_10 : decode cX0_shake 10 = .ok (.bipush 19, 2) := by decide +kernel
theorem dX0_shake_12 : decode cX0_shake 12 = .ok (.aload_n 0, 1) := by decide +kernel
theorem dX0_shake_13 : decode cX0_shake 13 = .ok (.getfield 12, 3) := by decide +kernel
theorem dX0_shake_16 : decode cX0_shake 16 = .ok (.getfield 84, 3) := by decide +kernel
theorem dX0_shake_19 : decode cX0_shake 19 = .ok (.aload_n 0, 1) := by decide +kernel
theorem dX0_shake_20 : decode cX0_shake 20 = .ok (.getfield 28, 3) := by decide +kernel
theorem dX0_shake_23 : decode cX0_shake 23 = .ok (.bipush 102, 2) := by decide +kernel
theorem dX0_shake_25 : decode cX0_shake 25 = .ok (.bipush 19, 2) := by decide +kernel
theorem dX0_shake_27 : decode cX0_shake 27 = .ok (.invokevirtual 87, 3) := by decide +kernel
theorem dX0_shake_30 : decode cX0_shake 30 = .ok (.iadd, 1) := by decide +kernel
theorem dX0_shake_31 : decode cX0_shake 31 = .ok (.invokestatic 108, 3) := by decide +kernel
theorem dX0_shake_34 : decode cX0_shake 34 = .ok (.putfield 84, 3) := by decide +kernel
theorem dX0_shake_37 : decode cX0_shake 37 = .ok (.aload_n 0, 1) := by decide +kernel
theorem dX0_shake_38 : decode cX0_shake 38 = .ok (.getfield 12, 3) := by decide +kernel
theorem dX0_shake_41 : decode cX0_shake 41 = .ok (.getfield 102, 3) := by decide +kernel
theorem dX0_shake_44 : decode cX0_shake 44 = .ok (.ifCond .ne 28, 3) := by decide +kernel
theorem dX0_shake_47 : decode cX0_shake 47 = .ok (.aload_n 0, 1) := by decide +kernel
theorem dX0_shake_48 : decode cX0_shake 48 = .ok (.getfield 12, 3) := by decide +kernel
theorem dX0_shake_51 : decode cX0_shake 51 = .ok (.getfield 84, 3) := by decide +kernel
theorem dX0_shake_54 : decode cX0_shake 54 = .ok (.bipush 19, 2) := by decide +kernel
theorem dX0_shake_56 : decode cX0_shake 56 = .ok (.if_icmp .ne 16, 3) := by decide +kernel
theorem dX0_shake_59 : decode cX0_shake 59 = .ok (.aload_n 0, 1) := by decide +kernel
theorem dX0_shake_60 : decode cX0_shake 60 = .ok (.getfield 12, 3) := by decide +kernel
theorem dX0_shake_63 : decode cX0_shake 63 = .ok (.invokevirtual 119, 3) := by decide +kernel
theorem dX0_shake_66 : decode cX0_shake 66 = .ok (.aload_n 0, 1) := by decide +kernel
theorem dX0_shake_67 : decode cX0_shake 67 = .ok (.iconst 1, 1) := by decide +kernel
theorem dX0_shake_68 : decode cX0_shake 68 = .ok (.invokevirtual 122, 3) := by decide +kernel
theorem dX0_shake_71 : decode cX0_shake 71 = .ok (.pop, 1) := by decide +kernel
theorem dX0_shake_72 : decode cX0_shake 72 = .ok (.return_, 1) := by decide +kernel
theorem dX0_pour_0 : decode cX0_pour 0 = .ok (.aload_n 0, 1) := by decide +kernel
theorem dX0_pour_1 : decode cX0_pour 1 = .ok (.getfield 12, 3) := by decide +kernel
theorem dX0_pour_4 : decode cX0_pour 4 = .ok (.getfield 102, 3) := by decide +kernel
theorem dX0_pour_7 : decode cX0_pour 7 = .ok (.ifCond .eq 45, 3) := by decide +kernel
theorem dX0_pour_10 : decode cX0_pour 10 = .ok (.aload_n 0, 1) := by decide +kernel
theorem dX0_pour_11 : decode cX0_pour 11 = .ok (.iload_n 1, 1) := by decide +kernel
theorem dX0_pour_12 : decode cX0_pour 12 = .ok (.iload_n 2, 1) := by decide +kernel
theorem dX0_pour_13 : decode cX0_pour 13 = .ok (.invokevirtual 81, 3) := by decide +kernel
theorem dX0_pour_16 : decode cX0_pour 16 = .ok (.aload_n 0, 1) := by decide +kernel
theorem dX0_pour_17 : decode cX0_pour 17 = .ok (.aload_n 0, 1) := by decide +kernel
theorem dX0_pour_18 : decode cX0_pour 18 = .ok (.getfield 28, 3) := by decide +kernel
theorem dX0_pour_21 : decode cX0_pour 21 = .ok (.bipush 100, 2) := by decide +kernel
theorem dX0_pour_23 : decode cX0_pour 23 = .ok (.bipush 9, 2) := by decide +kernel
theorem dX0_pour_25 : decode cX0_pour 25 = .ok (.invokevirtual 87, 3) := by decide +kernel
theorem dX0_pour_28 : decode cX0_pour 28 = .ok (.invokevirtual 122, 3) := by decide +kernel
theorem dX0_pour_31 : decode cX0_pour 31 = .ok (.istore_n 3, 1) := by decide +kernel
theorem dX0_pour_32 : decode cX0_pour 32 = .ok (.aload_n 0, 1) := by decide +kernel
theorem dX0_pour_33 : decode cX0_pour 33 = .ok (.getfield 12, 3) := by decide +kernel
theorem dX0_pour_36 : decode cX0_pour 36 = .ok (.iconst 0, 1) := by decide +kernel
theorem dX0_pour_37 : decode cX0_pour 37 = .ok (.aload_n 0, 1) := by decide +kernel
theorem dX0_pour_38 : decode cX0_pour 38 = .ok (.getfield 12, 3) := by decide +kernel
theorem dX0_pour_41 : decode cX0_pour 41 = .ok (.getfield 84, 3) := by decide +kernel
theorem dX0_pour_44 : decode cX0_pour 44 = .ok (.iload_n 3, 1) := by decide +kernel
theorem dX0_pour_45 : decode cX0_pour 45 = .ok (.isub, 1) := by decide +kernel
theorem dX0_pour_46 : decode cX0_pour 46 = .ok (.invokestatic 91, 3) := by decide +kernel
theorem dX0_pour_49 : decode cX0_pour 49 = .ok (.putfield 84, 3) := by decide +kernel
theorem dX0_pour_52 : decode cX0_pour 52 = .ok (.return_, 1) := by decide +kernel
theorem dX0_come_0 : decode cX0_come 0 = .ok (.iload_n 1, 1) := by decide +kernel
theorem dX0_come_1 : decode cX0_come 1 = .ok (.aload_n 0, 1) := by decide +kernel
theorem dX0_come_2 : decode cX0_come 2 = .ok (.getfield 21, 3) := by decide +kernel
theorem dX0_come_5 : decode cX0_come 5 = .ok (.getfield 126, 3) := by decide +kernel
theorem dX0_come_8 : decode cX0_come 8 = .ok (.aload_n 0, 1) := by decide +kernel
theorem dX0_come_9 : decode cX0_come 9 = .ok (.getfield 12, 3) := by decide +kernel
theorem dX0_come_12 : decode cX0_come 12 = .ok (.getfield 64, 3) := by decide +kernel
theorem dX0_come_15 : decode cX0_come 15 = .ok (.isub, 1) := by decide +kernel
theorem dX0_come_16 : decode cX0_come 16 = .ok (.invokestatic 108, 3) := by decide +kernel
theorem dX0_come_19 : decode cX0_come 19 = .ok (.istore_n 2, 1) := by decide +kernel
theorem dX0_come_20 : decode cX0_come 20 = .ok (.aload_n 0, 1) := by decide +kernel
theorem dX0_come_21 : decode cX0_come 21 = .ok (.getfield 12, 3) := by decide +kernel
theorem dX0_come_24 : decode cX0_come 24 = .ok (.dup, 1) := by decide +kernel
theorem dX0_come_25 : decode cX0_come 25 = .ok (.getfield 64, 3) := by decide +kernel
theorem dX0_come_28 : decode cX0_come 28 = .ok (.iload_n 2, 1) := by decide +kernel
theorem dX0_come_29 : decode cX0_come 29 = .ok (.iadd, 1) := by decide +kernel
theorem dX0_come_30 : decode cX0_come 30 = .ok (.putfield 64, 3) := by decide +kernel
theorem dX0_come_33 : decode cX0_come 33 = .ok (.aload_n 0, 1) := by decide +kernel
theorem dX0_come_34 : decode cX0_come 34 = .ok (.dup, 1) := by decide +kernel
theorem dX0_come_35 : decode cX0_come 35 = .ok (.getfield 42, 3) := by decide +kernel
theorem dX0_come_38 : decode cX0_come 38 = .ok (.iload_n 2, 1) := by decide +kernel
theorem dX0_come_39 : decode cX0_come 39 = .ok (.iadd, 1) := by decide +kernel
theorem dX0_come_40 : decode cX0_come 40 = .ok (.putfield 42, 3) := by decide +kernel
theorem dX0_come_43 : decode cX0_come 43 = .ok (.iload_n 2, 1) := by decide +kernel
theorem dX0_come_44 : decode cX0_come 44 = .ok (.ireturn, 1) := by decide +kernel
theorem dX0_learn_0 : decode cX0_learn 0 = .ok (.aload_n 0, 1) := by decide +kernel
theorem dX0_learn_1 : decode cX0_learn 1 = .ok (.getfield 28, 3) := by decide +kernel
theorem dX0_learn_4 : decode cX0_learn 4 = .ok (.getfield 129, 3) := by decide +kernel
theorem dX0_learn_7 : decode cX0_learn 7 = .ok (.astore_n 3, 1) := by decide +kernel
theorem dX0_learn_8 : decode cX0_learn 8 = .ok (.aload_n 0, 1) := by decide +kernel
theorem dX0_learn_9 : decode cX0_learn 9 = .ok (.getfield 12, 3) := by decide +kernel
theorem dX0_learn_12 : decode cX0_learn 12 = .ok (.getfield 64, 3) := by decide +kernel
theorem dX0_learn_15 : decode cX0_learn 15 = .ok (.aload_n 0, 1) := by decide +kernel
theorem dX0_learn_16 : decode cX0_learn 16 = .ok (.getfield 21, 3) := by decide +kernel
theorem dX0_learn_19 : decode cX0_learn 19 = .ok (.getfield 126, 3) := by decide +kernel
theorem dX0_learn_22 : decode cX0_learn 22 = .ok (.if_icmp .ge 19, 3) := by decide +kernel
theorem dX0_learn_25 : decode cX0_learn 25 = .ok (.aload_n 0, 1) := by decide +kernel
theorem dX0_learn_26 : decode cX0_learn 26 = .ok (.getfield 12, 3) := by decide +kernel
theorem dX0_learn_29 : decode cX0_learn 29 = .ok (.getfield 64, 3) := by decide +kernel
theorem dX0_learn_32 : decode cX0_learn 32 = .ok (.bipush 24, 2) := by decide +kernel
theorem dX0_learn_34 : decode cX0_learn 34 = .ok (.if_icmp .ge 7, 3) := by decide +kernel
theorem dX0_learn_37 : decode cX0_learn 37 = .ok (.iconst 1, 1) := by decide +kernel
theorem dX0_learn_38 : decode cX0_learn 38 = .ok (.goto 4, 3) := by decide +kernel
theorem dX0_learn_41 : decode cX0_learn 41 = .ok (.iconst 0, 1) := by decide +kernel
theorem dX0_learn_42 : decode cX0_learn 42 = .ok (.istore 4, 2) := by decide +kernel
theorem dX0_learn_44 : decode cX0_learn 44 = .ok (.aload_n 3, 1) := by decide +kernel
theorem dX0_learn_45 : decode cX0_learn 45 = .ok (.iconst 0, 1) := by decide +kernel
theorem dX0_learn_46 : decode cX0_learn 46 = .ok (.aload_n 0, 1) := by decide +kernel
theorem dX0_learn_47 : decode cX0_learn 47 = .ok (.getfield 32, 3) := by decide +kernel
theorem dX0_learn_50 : decode cX0_learn 50 = .ok (.iastore, 1) := by decide +kernel
theorem dX0_learn_51 : decode cX0_learn 51 = .ok (.aload_n 3, 1) := by decide +kernel
theorem dX0_learn_52 : decode cX0_learn 52 = .ok (.iconst 1, 1) := by decide +kernel
theorem dX0_learn_53 : decode cX0_learn 53 = .ok (.aload_n 0, 1) := by decide +kernel
theorem dX0_learn_54 : decode cX0_learn 54 = .ok (.getfield 21, 3) := by decide +kernel
theorem dX0_learn_57 : decode cX0_learn 57 = .ok (.getfield 126, 3) := by decide +kernel
theorem dX0_learn_60 : decode cX0_learn 60 = .ok (.aload_n 0, 1) := by decide +kernel
theorem dX0_learn_61 : decode cX0_learn 61 = .ok (.getfield 12, 3) := by decide +kernel
theorem dX0_learn_64 : decode cX0_learn 64 = .ok (.getfield 64, 3) := by decide +kernel
theorem dX0_learn_67 : decode cX0_learn 67 = .ok (.isub, 1) := by decide +kernel
theorem dX0_learn_68 : decode cX0_learn 68 = .ok (.iastore, 1) := by decide +kernel
theorem dX0_learn_69 : decode cX0_learn 69 = .ok (.aload_n 3, 1) := by decide +kernel
theorem dX0_learn_70 : decode cX0_learn 70 = .ok (.iconst 2, 1) := by decide +kernel
theorem dX0_learn_71 : decode cX0_learn 71 = .ok (.aload_n 0, 1) := by decide +kernel
theorem dX0_learn_72 : decode cX0_learn 72 = .ok (.getfield 12, 3) := by decide +kernel
theorem dX0_learn_75 : decode cX0_learn 75 = .ok (.getfield 84, 3) := by decide +kernel
theorem dX0_learn_78 : decode cX0_learn 78 = .ok (.iastore, 1) := by decide +kernel
theorem dX0_learn_79 : decode cX0_learn 79 = .ok (.aload_n 3, 1) := by decide +kernel
theorem dX0_learn_80 : decode cX0_learn 80 = .ok (.iconst 3, 1) := by decide +kernel
theorem dX0_learn_81 : decode cX0_learn 81 = .ok (.aload_n 0, 1) := by decide +kernel
theorem dX0_learn_82 : decode cX0_learn 82 = .ok (.getfield 12, 3) := by decide +kernel
theorem dX0_learn_85 : decode cX0_learn 85 = .ok (.getfield 132, 3) := by decide +kernel
theorem dX0_learn_88 : decode cX0_learn 88 = .ok (.iastore, 1) := by decide +kernel
theorem dX0_learn_89 : decode cX0_learn 89 = .ok (.aload_n 3, 1) := by decide +kernel
theorem dX0_learn_90 : decode cX0_learn 90 = .ok (.iconst 4, 1) := by decide +kernel
theorem dX0_learn_91 : decode cX0_learn 91 = .ok (.aload_n 0, 1) := by decide +kernel
theorem dX0_learn_92 : decode cX0_learn 92 = .ok (.getfield 12, 3) := by decide +kernel
theorem dX0_learn_95 : decode cX0_learn 95 = .ok (.getfield 105, 3) := by decide +kernel
theorem dX0_learn_98 : decode cX0_learn 98 = .ok (.iastore, 1) := by decide +kernel
theorem dX0_learn_99 : decode cX0_learn 99 = .ok (.aload_n 3, 1) := by decide +kernel
theorem dX0_learn_100 : decode cX0_learn 100 = .ok (.iconst 5, 1) := by decide +kernel
theorem dX0_learn_101 : decode cX0_learn 101 = .ok (.iload 4, 2) := by decide +kernel
theorem dX0_learn_103 : decode cX0_learn 103 = .ok (.ifCond .eq 21, 3) := by decide +kernel
theorem dX0_learn_106 : decode cX0_learn 106 = .ok (.aload_n 0, 1) := by decide +kernel
theorem dX0_learn_107 : decode cX0_learn 107 = .ok (.getfield 21, 3) := by decide +kernel
theorem dX0_learn_110 : decode cX0_learn 110 = .ok (.getfield 67, 3) := by decide +kernel
theorem dX0_learn_113 : decode cX0_learn 113 = .ok (.aload_n 0, 1) := by decide +kernel
theorem dX0_learn_114 : decode cX0_learn 114 = .ok (.getfield 12, 3) := by decide +kernel
theorem dX0_learn_117 : decode cX0_learn 117 = .ok (.getfield 64, 3) := by decide +kernel
theorem dX0_learn_120 : decode cX0_learn 120 = .ok (.iaload, 1) := by decide +kernel
theorem dX0_learn_121 : decode cX0_learn 121 = .ok (.goto 4, 3) := by decide +kernel
theorem dX0_learn_124 : decode cX0_learn 124 = .ok (.iconst 0, 1) := by decide +kernel
theorem dX0_learn_125 : decode cX0_learn 125 = .ok (.iastore, 1) := by decide +kernel
theorem dX0_learn_126 : decode cX0_learn 126 = .ok (.aload_n 3, 1) := by decide +kernel
theorem dX0_learn_127 : decode cX0_learn 127 = .ok (.bipush 6, 2) := by decide +kernel
theorem dX0_learn_129 : decode cX0_learn 129 = .ok (.iload 4, 2) := by decide +kernel
theorem dX0_learn_131 : decode cX0_learn 131 = .ok (.ifCond .eq 21, 3) := by decide +kernel
theorem dX0_learn_134 : decode cX0_learn 134 = .ok (.aload_n 0, 1) := by decide +kernel
theorem dX0_learn_135 : decode cX0_learn 135 = .ok (.getfield 21, 3) := by decide +kernel
theorem dX0_learn_138 : decode cX0_learn 138 = .ok (.getfield 135, 3) := by decide +kernel
theorem dX0_learn_141 : decode cX0_learn 141 = .ok (.aload_n 0, 1) := by decide +kernel
theorem dX0_learn_142 : decode cX0_learn 142 = .ok (.getfield 12, 3) := by decide +kernel
theorem dX0_learn_145 : decode cX0_learn 145 = .ok (.getfield 64, 3) := by decide +kernel
theorem dX0_learn_148 : decode cX0_learn 148 = .ok (.iaload, 1) := by decide +kernel
theorem dX0_learn_149 : decode cX0_learn 149 = .ok (.goto 4, 3) := by decide +kernel
theorem dX0_learn_152 : decode cX0_learn 152 = .ok (.iconst 0, 1) := by decide +kernel
theorem dX0_learn_153 : decode cX0_learn 153 = .ok (.iastore, 1) := by decide +kernel
theorem dX0_learn_154 : decode cX0_learn 154 = .ok (.aload_n 3, 1) := by decide +kernel
theorem dX0_learn_155 : decode cX0_learn 155 = .ok (.bipush 7, 2) := by decide +kernel
theorem dX0_learn_157 : decode cX0_learn 157 = .ok (.iload_n 1, 1) := by decide +kernel
theorem dX0_learn_158 : decode cX0_learn 158 = .ok (.iastore, 1) := by decide +kernel
theorem dX0_learn_159 : decode cX0_learn 159 = .ok (.aload_n 3, 1) := by decide +kernel
theorem dX0_learn_160 : decode cX0_learn 160 = .ok (.bipush 8, 2) := by decide +kernel
theorem dX0_learn_162 : decode cX0_learn 162 = .ok (.iload_n 2, 1) := by decide +kernel
theorem dX0_learn_163 : decode cX0_learn 163 = .ok (.iastore, 1) := by decide +kernel
theorem dX0_learn_164 : decode cX0_learn 164 = .ok (.return_, 1) := by decide +kernel
theorem dX1_init_0 : decode cX1_init 0 = .ok (.aload_n 0, 1) := by decide +kernel
theorem dX1_init_1 : decode cX1_init 1 = .ok (.invokespecial 3, 3) := by decide +kernel
theorem dX1_init_4 : decode cX1_init 4 = .ok (.aload_n 0, 1) := by decide +kernel
theorem dX1_init_5 : decode cX1_init 5 = .ok (.bipush 8, 2) := by decide +kernel
theorem dX1_init_7 : decode cX1_init 7 = .ok (.newarray .int, 2) := by decide +kernel
theorem dX1_init_9 : decode cX1_init 9 = .ok (.putfield 9, 3) := by decide +kernel
theorem dX1_init_12 : decode cX1_init 12 = .ok (.aload_n 0, 1) := by decide +kernel
theorem dX1_init_13 : decode cX1_init 13 = .ok (.bipush 8, 2) := by decide +kernel
theorem dX1_init_15 : decode cX1_init 15 = .ok (.newarray .int, 2) := by decide +kernel
theorem dX1_init_17 : decode cX1_init 17 = .ok (.putfield 15, 3) := by decide +kernel
theorem dX1_init_20 : decode cX1_init 20 = .ok (.aload_n 0, 1) := by decide +kernel
theorem dX1_init_21 : decode cX1_init 21 = .ok (.iconst 0, 1) := by decide +kernel
theorem dX1_init_22 : decode cX1_init 22 = .ok (.putfield 18, 3) := by decide +kernel
theorem dX1_init_25 : decode cX1_init 25 = .ok (.return_, 1) := by decide +kernel
theorem dX1_store_0 : decode cX1_store 0 = .ok (.aload_n 0, 1) := by decide +kernel
theorem dX1_store_1 : decode cX1_store 1 = .ok (.iload_n 3, 1) := by decide +kernel
theorem dX1_store_2 : decode cX1_store 2 = .ok (.putfield 18, 3) := by decide +kernel
theorem dX1_store_5 : decode cX1_store 5 = .ok (.iconst 0, 1) := by decide +kernel
theorem dX1_store_6 : decode cX1_store 6 = .ok (.istore 4, 2) := by decide +kernel
theorem dX1_store_8 : decode cX1_store 8 = .ok (.iload 4, 2) := by decide +kernel
theorem dX1_store_10 : decode cX1_store 10 = .ok (.iload_n 2, 1) := by decide +kernel
theorem dX1_store_11 : decode cX1_store 11 = .ok (.if_icmp .ge 55, 3) := by decide +kernel
theorem dX1_store_14 : decode cX1_store 14 = .ok (.iload 4, 2) := by decide +kernel
theorem dX1_store_16 : decode cX1_store 16 = .ok (.bipush 8, 2) := by decide +kernel
theorem dX1_store_18 : decode cX1_store 18 = .ok (.if_icmp .ge 48, 3) := by decide +kernel
theorem dX1_store_21 : decode cX1_store 21 = .ok (.iconst 2, 1) := by decide +kernel
theorem dX1_store_22 : decode cX1_store 22 = .ok (.iload 4, 2) := by decide +kernel
theorem dX1_store_24 : decode cX1_store 24 = .ok (.imul, 1) := by decide +kernel
theorem dX1_store_25 : decode cX1_store 25 = .ok (.iconst 1, 1) := by decide +kernel
theorem dX1_store_26 : decode cX1_store 26 = .ok (.iadd, 1) := by decide +kernel
theorem dX1_store_27 : decode cX1_store 27 = .ok (.aload_n 1, 1) := by decide +kernel
theorem dX1_store_28 : decode cX1_store 28 = .ok (.arraylength, 1) := by decide +kernel
theorem dX1_store_29 : decode cX1_store 29 = .ok (.if_icmp .ge 37, 3) := by decide +kernel
theorem dX1_store_32 : decode cX1_store 32 = .ok (.aload_n 0, 1) := by decide +kernel
theorem dX1_store_33 : decode cX1_store 33 = .ok (.getfield 9, 3) := by decide +kernel
theorem dX1_store_36 : decode cX1_store 36 = .ok (.iload 4, 2) := by decide +kernel
theorem dX1_store_38 : decode cX1_store 38 = .ok (.aload_n 1, 1) := by decide +kernel
theorem dX1_store_39 : decode cX1_store 39 = .ok (.iconst 2, 1) := by decide +kernel
theorem dX1_store_40 : decode cX1_store 40 = .ok (.iload 4, 2) := by decide +kernel
theorem dX1_store_42 : decode cX1_store 42 = .ok (.imul, 1) := by decide +kernel
theorem dX1_store_43 : decode cX1_store 43 = .ok (.iaload, 1) := by decide +kernel
theorem dX1_store_44 : decode cX1_store 44 = .ok (.iastore, 1) := by decide +kernel
theorem dX1_store_45 : decode cX1_store 45 = .ok (.aload_n 0, 1) := by decide +kernel
theorem dX1_store_46 : decode cX1_store 46 = .ok (.getfield 15, 3) := by decide +kernel
theorem dX1_store_49 : decode cX1_store 49 = .ok (.iload 4, 2) := by decide +kernel
theorem dX1_store_51 : decode cX1_store 51 = .ok (.aload_n 1, 1) := by decide +kernel
theorem dX1_store_52 : decode cX1_store 52 = .ok (.iconst 2, 1) := by decide +kernel
theorem dX1_store_53 : decode cX1_store 53 = .ok (.iload 4, 2) := by decide +kernel
theorem dX1_store_55 : decode cX1_store 55 = .ok (.imul, 1) := by decide +kernel
theorem dX1_store_56 : decode cX1_store 56 = .ok (.iconst 1, 1) := by decide +kernel
theorem dX1_store_57 : decode cX1_store 57 = .ok (.iadd, 1) := by decide +kernel
theorem dX1_store_58 : decode cX1_store 58 = .ok (.iaload, 1) := by decide +kernel
theorem dX1_store_59 : decode cX1_store 59 = .ok (.iastore, 1) := by decide +kernel
theorem dX1_store_60 : decode cX1_store 60 = .ok (.iinc 4 1, 3) := by decide +kernel
theorem dX1_store_63 : decode cX1_store 63 = .ok (.goto (-55), 3) := by decide +kernel
theorem dX1_store_66 : decode cX1_store 66 = .ok (.return_, 1) := by decide +kernel
theorem dX1_cost_0 : decode cX1_cost 0 = .ok (.aload_n 0, 1) := by decide +kernel
theorem dX1_cost_1 : decode cX1_cost 1 = .ok (.getfield 18, 3) := by decide +kernel
theorem dX1_cost_4 : decode cX1_cost 4 = .ok (.iload_n 1, 1) := by decide +kernel
theorem dX1_cost_5 : decode cX1_cost 5 = .ok (.invokestatic 22, 3) := by decide +kernel
theorem dX1_cost_8 : decode cX1_cost 8 = .ok (.iadd, 1) := by decide +kernel
theorem dX1_cost_9 : decode cX1_cost 9 = .ok (.istore_n 3, 1) := by decide +kernel
theorem dX1_cost_10 : decode cX1_cost 10 = .ok (.aload_n 0, 1) := by decide +kernel
theorem dX1_cost_11 : decode cX1_cost 11 = .ok (.getfield 15, 3) := by decide +kernel
theorem dX1_cost_14 : decode cX1_cost 14 = .ok (.iload_n 2, 1) := by decide +kernel
theorem dX1_cost_15 : decode cX1_cost 15 = .ok (.iaload, 1) := by decide +kernel
theorem dX1_cost_16 : decode cX1_cost 16 = .ok (.aload_n 0, 1) := by decide +kernel
theorem dX1_cost_17 : decode cX1_cost 17 = .ok (.getfield 9, 3) := by decide +kernel
theorem dX1_cost_20 : decode cX1_cost 20 = .ok (.iload_n 2, 1) := by decide +kernel
theorem dX1_cost_21 : decode cX1_cost 21 = .ok (.iaload, 1) := by decide +kernel
theorem dX1_cost_22 : decode cX1_cost 22 = .ok (.iload_n 3, 1) := by decide +kernel
theorem dX1_cost_23 : decode cX1_cost 23 = .ok (.isub, 1) := by decide +kernel
theorem dX1_cost_24 : decode cX1_cost 24 = .ok (.invokestatic 28, 3) := by decide +kernel
theorem dX1_cost_27 : decode cX1_cost 27 = .ok (.imul, 1) := by decide +kernel
theorem dX1_cost_28 : decode cX1_cost 28 = .ok (.ireturn, 1) := by decide +kernel
theorem dX2_init_0 : decode cX2_init 0 = .ok (.aload_n 0, 1) := by decide +kernel
theorem dX2_init_1 : decode cX2_init 1 = .ok (.invokespecial 3, 3) := by decide +kernel
theorem dX2_init_4 : decode cX2_init 4 = .ok (.aload_n 0, 1) := by decide +kernel
theorem dX2_init_5 : decode cX2_init 5 = .ok (.iconst 3, 1) := by decide +kernel
theorem dX2_init_6 : decode cX2_init 6 = .ok (.newarray .int, 2) := by decide +kernel
theorem dX2_init_8 : decode cX2_init 8 = .ok (.putfield 9, 3) := by decide +kernel
theorem dX2_init_11 : decode cX2_init 11 = .ok (.aload_n 0, 1) := by decide +kernel
theorem dX2_init_12 : decode cX2_init 12 = .ok (.iconst 3, 1) := by decide +kernel
theorem dX2_init_13 : decode cX2_init 13 = .ok (.newarray .int, 2) := by decide +kernel
theorem dX2_init_15 : decode cX2_init 15 = .ok (.putfield 15, 3) := by decide +kernel
theorem dX2_init_18 : decode cX2_init 18 = .ok (.aload_n 0, 1) := by decide +kernel
theorem dX2_init_19 : decode cX2_init 19 = .ok (.sipush 441, 3) := by decide +kernel
theorem dX2_init_22 : decode cX2_init 22 = .ok (.newarray .int, 2) := by decide +kernel
theorem dX2_init_24 : decode cX2_init 24 = .ok (.putfield 18, 3) := by decide +kernel
theorem dX2_init_27 : decode cX2_init 27 = .ok (.aload_n 0, 1) := by decide +kernel
theorem dX2_init_28 : decode cX2_init 28 = .ok (.sipush 441, 3) := by decide +kernel
theorem dX2_init_31 : decode cX2_init 31 = .ok (.newarray .int, 2) := by decide +kernel
theorem dX2_init_33 : decode cX2_init 33 = .ok (.putfield 21, 3) := by decide +kernel
theorem dX2_init_36 : decode cX2_init 36 = .ok (.aload_n 0, 1) := by decide +kernel
theorem dX2_init_37 : decode cX2_init 37 = .ok (.iconst 0, 1) := by decide +kernel
theorem dX2_init_38 : decode cX2_init 38 = .ok (.putfield 24, 3) := by decide +kernel
theorem dX2_init_41 : decode cX2_init 41 = .ok (.aload_n 0, 1) := by decide +kernel
theorem dX2_init_42 : decode cX2_init 42 = .ok (.iconst 0, 1) := by decide +kernel
theorem dX2_init_43 : decode cX2_init 43 = .ok (.putfield 28, 3) := by decide +kernel
theorem dX2_init_46 : decode cX2_init 46 = .ok (.return_, 1) := by decide +kernel
theorem dX2_fill_0 : decode cX2_fill 0 = .ok (.aload_n 0, 1) := by decide +kernel
theorem dX2_fill_1 : decode cX2_fill 1 = .ok (.iconst 0, 1) := by decide +kernel
theorem dX2_fill_2 : decode cX2_fill 2 = .ok (.putfield 24, 3) := by decide +kernel
theorem dX2_fill_5 : decode cX2_fill 5 = .ok (.iconst 0, 1) := by decide +kernel
theorem dX2_fill_6 : decode cX2_fill 6 = .ok (.istore_n 2, 1) := by decide +kernel
theorem dX2_fill_7 : decode cX2_fill 7 = .ok (.iload_n 2, 1) := by decide +kernel
theorem dX2_fill_8 : decode cX2_fill 8 = .ok (.iconst 3, 1) := by decide +kernel
theorem dX2_fill_9 : decode cX2_fill 9 = .ok (.if_icmp .ge 76, 3) := by decide +kernel
theorem dX2_fill_12 : decode cX2_fill 12 = .ok (.aload_n 0, 1) := by decide +kernel
theorem dX2_fill_13 : decode cX2_fill 13 = .ok (.getfield 9, 3) := by decide +kernel
theorem dX2_fill_16 : decode cX2_fill 16 = .ok (.iload_n 2, 1) := by decide +kernel
theorem dX2_fill_17 : decode cX2_fill 17 = .ok (.aload_n 1, 1) := by decide +kernel
theorem dX2_fill_18 : decode cX2_fill 18 = .ok (.iconst 2, 1) := by decide +kernel
theorem dX2_fill_19 : decode cX2_fill 19 = .ok (.iload_n 2, 1) := by decide +kernel
theorem dX2_fill_20 : decode cX2_fill 20 = .ok (.imul, 1) := by decide +kernel
theorem dX2_fill_21 : decode cX2_fill 21 = .ok (.iaload, 1) := by decide +kernel
theorem dX2_fill_22 : decode cX2_fill 22 = .ok (.iastore, 1) := by decide +kernel
theorem dX2_fill_23 : decode cX2_fill 23 = .ok (.aload_n 0, 1) := by decide +kernel
theorem dX2_fill_24 : decode cX2_fill 24 = .ok (.getfield 15, 3) := by decide +kernel
theorem dX2_fill_27 : decode cX2_fill 27 = .ok (.iload_n 2, 1) := by decide +kernel
theorem dX2_fill_28 : decode cX2_fill 28 = .ok (.aload_n 1, 1) := by decide +kernel
theorem dX2_fill_29 : decode cX2_fill 29 = .ok (.iconst 2, 1) := by decide +kernel
theorem dX2_fill_30 : decode cX2_fill 30 = .ok (.iload_n 2, 1) := by decide +kernel
theorem dX2_fill_31 : decode cX2_fill 31 = .ok (.imul, 1) := by decide +kernel
theorem dX2_fill_32 : decode cX2_fill 32 = .ok (.iconst 1, 1) := by decide +kernel
theorem dX2_fill_33 : decode cX2_fill 33 = .ok (.iadd, 1) := by decide +kernel
theorem dX2_fill_34 : decode cX2_fill 34 = .ok (.iaload, 1) := by decide +kernel
theorem dX2_fill_35 : decode cX2_fill 35 = .ok (.iastore, 1) := by decide +kernel
theorem dX2_fill_36 : decode cX2_fill 36 = .ok (.aload_n 0, 1) := by decide +kernel
theorem dX2_fill_37 : decode cX2_fill 37 = .ok (.getfield 9, 3) := by decide +kernel
theorem dX2_fill_40 : decode cX2_fill 40 = .ok (.iload_n 2, 1) := by decide +kernel
theorem dX2_fill_41 : decode cX2_fill 41 = .ok (.iaload, 1) := by decide +kernel
theorem dX2_fill_42 : decode cX2_fill 42 = .ok (.bipush 20, 2) := by decide +kernel
theorem dX2_fill_44 : decode cX2_fill 44 = .ok (.if_icmp .gt 18, 3) := by decide +kernel
theorem dX2_fill_47 : decode cX2_fill 47 = .ok (.aload_n 0, 1) := by decide +kernel
theorem dX2_fill_48 : decode cX2_fill 48 = .ok (.getfield 15, 3) := by decide +kernel
theorem dX2_fill_51 : decode cX2_fill 51 = .ok (.iload_n 2, 1) := by decide +kernel
theorem dX2_fill_52 : decode cX2_fill 52 = .ok (.iaload, 1) := by decide +kernel
theorem dX2_fill_53 : decode cX2_fill 53 = .ok (.aload_n 0, 1) := by decide +kernel
theorem dX2_fill_54 : decode cX2_fill 54 = .ok (.getfield 9, 3) := by decide +kernel
theorem dX2_fill_57 : decode cX2_fill 57 = .ok (.iload_n 2, 1) := by decide +kernel
theorem dX2_fill_58 : decode cX2_fill 58 = .ok (.iaload, 1) := by decide +kernel
theorem dX2_fill_59 : decode cX2_fill 59 = .ok (.if_icmp .le 5, 3) := by decide +kernel
theorem dX2_fill_62 : decode cX2_fill 62 = .ok (.iconst 0, 1) := by decide +kernel
theorem dX2_fill_63 : decode cX2_fill 63 = .ok (.ireturn, 1) := by decide +kernel
theorem dX2_fill_64 : decode cX2_fill 64 = .ok (.aload_n 0, 1) := by decide +kernel
theorem dX2_fill_65 : decode cX2_fill 65 = .ok (.dup, 1) := by decide +kernel
theorem dX2_fill_66 : decode cX2_fill 66 = .ok (.getfield 24, 3) := by decide +kernel
theorem dX2_fill_69 : decode cX2_fill 69 = .ok (.aload_n 0, 1) := by decide +kernel
theorem dX2_fill_70 : decode cX2_fill 70 = .ok (.getfield 15, 3) := by decide +kernel
theorem dX2_fill_73 : decode cX2_fill 73 = .ok (.iload_n 2, 1) := by decide +kernel
theorem dX2_fill_74 : decode cX2_fill 74 = .ok (.iaload, 1) := by decide +kernel
theorem dX2_fill_75 : decode cX2_fill 75 = .ok (.iadd, 1) := by decide +kernel
theorem dX2_fill_76 : decode cX2_fill 76 = .ok (.putfield 24, 3) := by decide +kernel
theorem dX2_fill_79 : decode cX2_fill 79 = .ok (.iinc 2 1, 3) := by decide +kernel
theorem dX2_fill_82 : decode cX2_fill 82 = .ok (.goto (-75), 3) := by decide +kernel
theorem dX2_fill_85 : decode cX2_fill 85 = .ok (.iconst 1, 1) := by decide +kernel
theorem dX2_fill_86 : decode cX2_fill 86 = .ok (.ireturn, 1) := by decide +kernel
theorem dX2_pourAll_0 : decode cX2_pourAll 0 = .ok (.aload_n 0, 1) := by decide +kernel
theorem dX2_pourAll_1 : decode cX2_pourAll 1 = .ok (.getfield 18, 3) := by decide +kernel
theorem dX2_pourAll_4 : decode cX2_pourAll 4 = .ok (.iconst (-1), 1) := by decide +kernel
theorem dX2_pourAll_5 : decode cX2_pourAll 5 = .ok (.invokestatic 31, 3) := by decide +kernel
theorem dX2_pourAll_8 : decode cX2_pourAll 8 = .ok (.aload_n 0, 1) := by decide +kernel
theorem dX2_pourAll_9 : decode cX2_pourAll 9 = .ok (.iconst 0, 1) := by decide +kernel
theorem dX2_pourAll_10 : decode cX2_pourAll 10 = .ok (.putfield 28, 3) := by decide +kernel
theorem dX2_pourAll_13 : decode cX2_pourAll 13 = .ok (.aload_n 0, 1) := by decide +kernel
theorem dX2_pourAll_14 : decode cX2_pourAll 14 = .ok (.iconst 0, 1) := by decide +kernel
theorem dX2_pourAll_15 : decode cX2_pourAll 15 = .ok (.invokevirtual 37, 3) := by decide +kernel
theorem dX2_pourAll_18 : decode cX2_pourAll 18 = .ok (.iconst 0, 1) := by decide +kernel
theorem dX2_pourAll_19 : decode cX2_pourAll 19 = .ok (.istore_n 1, 1) := by decide +kernel
theorem dX2_pourAll_20 : decode cX2_pourAll 20 = .ok (.iload_n 1, 1) := by decide +kernel
theorem dX2_pourAll_21 : decode cX2_pourAll 21 = .ok (.aload_n 0, 1) := by decide +kernel
theorem dX2_pourAll_22 : decode cX2_pourAll 22 = .ok (.getfield 28, 3) := by decide +kernel
theorem dX2_pourAll_25 : decode cX2_pourAll 25 = .ok (.if_icmp .ge 130, 3) := by decide +kernel
theorem dX2_pourAll_28 : decode cX2_pourAll 28 = .ok (.iload_n 1, 1) := by decide +kernel
theorem dX2_pourAll_29 : decode cX2_pourAll 29 = .ok (.aload_n 0, 1) := by decide +kernel
theorem dX2_pourAll_30 : decode cX2_pourAll 30 = .ok (.getfield 21, 3) := by decide +kernel
theorem dX2_pourAll_33 : decode cX2_pourAll 33 = .ok (.arraylength, 1) := by decide +kernel
theorem dX2_pourAll_34 : decode cX2_pourAll 34 = .ok (.if_icmp .ge 121, 3) := by decide +kernel
theorem dX2_pourAll_37 : decode cX2_pourAll 37 = .ok (.aload_n 0, 1) := by decide +kernel
theorem dX2_pourAll_38 : decode cX2_pourAll 38 = .ok (.getfield 18, 3) := by decide +kernel
theorem dX2_pourAll_41 : decode cX2_pourAll 41 = .ok (.aload_n 0, 1) := by decide +kernel
theorem dX2_pourAll_42 : decode cX2_pourAll 42 = .ok (.getfield 21, 3) := by decide +kernel
theorem dX2_pourAll_45 : decode cX2_pourAll 45 = .ok (.iload_n 1, 1) := by decide +kernel
theorem dX2_pourAll_46 : decode cX2_pourAll 46 = .ok (.iaload, 1) := by decide +kernel
theorem dX2_pourAll_47 : decode cX2_pourAll 47 = .ok (.iaload, 1) := by decide +kernel
theorem dX2_pourAll_48 : decode cX2_pourAll 48 = .ok (.iconst 1, 1) := by decide +kernel
theorem dX2_pourAll_49 : decode cX2_pourAll 49 = .ok (.iadd, 1) := by decide +kernel
theorem dX2_pourAll_50 : decode cX2_pourAll 50 = .ok (.istore_n 2, 1) := by decide +kernel
theorem dX2_pourAll_51 : decode cX2_pourAll 51 = .ok (.iconst 0, 1) := by decide +kernel
theorem dX2_pourAll_52 : decode cX2_pourAll 52 = .ok (.istore_n 3, 1) := by decide +kernel
theorem dX2_pourAll_53 : decode cX2_pourAll 53 = .ok (.iload_n 3, 1) := by decide +kernel
theorem dX2_pourAll_54 : decode cX2_pourAll 54 = .ok (.iconst 3, 1) := by decide +kernel
theorem dX2_pourAll_55 : decode cX2_pourAll 55 = .ok (.if_icmp .ge 94, 3) := by decide +kernel
theorem dX2_pourAll_58 : decode cX2_pourAll 58 = .ok (.iconst 0, 1) := by decide +kernel
theorem dX2_pourAll_59 : decode cX2_pourAll 59 = .ok (.istore 4, 2) := by decide +kernel
theorem dX2_pourAll_61 : decode cX2_pourAll 61 = .ok (.iload 4, 2) := by decide +kernel
theorem dX2_pourAll_63 : decode cX2_pourAll 63 = .ok (.iconst 3, 1) := by decide +kernel
theorem dX2_pourAll_64 : decode cX2_pourAll 64 = .ok (.if_icmp .ge 79, 3) := by decide +kernel
theorem dX2_pourAll_67 : decode cX2_pourAll 67 = .ok (.iload_n 3, 1) := by decide +kernel
theorem dX2_pourAll_68 : decode cX2_pourAll 68 = .ok (.iload 4, 2) := by decide +kernel
theorem dX2_pourAll_70 : decode cX2_pourAll 70 = .ok (.if_icmp .eq 67, 3) := by decide +kernel
theorem dX2_pourAll_73 : decode cX2_pourAll 73 = .ok (.aload_n 0, 1) := by decide +kernel
theorem dX2_pourAll_74 : decode cX2_pourAll 74 = .ok (.aload_n 0, 1) := by decide +kernel
theorem dX2_pourAll_75 : decode cX2_pourAll 75 = .ok (.getfield 21, 3) := by decide +kernel
theorem dX2_pourAll_78 : decode cX2_pourAll 78 = .ok (.iload_n 1, 1) := by decide +kernel
theorem dX2_pourAll_79 : decode cX2_pourAll 79 = .ok (.iaload, 1) := by decide +kernel
theorem dX2_pourAll_80 : decode cX2_pourAll 80 = .ok (.invokevirtual 41, 3) := by decide +kernel
theorem dX2_pourAll_83 : decode cX2_pourAll 83 = .ok (.aload_n 0, 1) := by decide +kernel
theorem dX2_pourAll_84 : decode cX2_pourAll 84 = .ok (.getfield 15, 3) := by decide +kernel
theorem dX2_pourAll_87 : decode cX2_pourAll 87 = .ok (.iload_n 3, 1) := by decide +kernel
theorem dX2_pourAll_88 : decode cX2_pourAll 88 = .ok (.iaload, 1) := by decide +kernel
theorem dX2_pourAll_89 : decode cX2_pourAll 89 = .ok (.aload_n 0, 1) := by decide +kernel
theorem dX2_pourAll_90 : decode cX2_pourAll 90 = .ok (.getfield 9, 3) := by decide +kernel
theorem dX2_pourAll_93 : decode cX2_pourAll 93 = .ok (.iload 4, 2) := by decide +kernel
theorem dX2_pourAll_95 : decode cX2_pourAll 95 = .ok (.iaload, 1) := by decide +kernel
theorem dX2_pourAll_96 : decode cX2_pourAll 96 = .ok (.aload_n 0, 1) := by decide +kernel
theorem dX2_pourAll_97 : decode cX2_pourAll 97 = .ok (.getfield 15, 3) := by decide +kernel
theorem dX2_pourAll_100 : decode cX2_pourAll 100 = .ok (.iload 4, 2) := by decide +kernel
theorem dX2_pourAll_102 : decode cX2_pourAll 102 = .ok (.iaload, 1) := by decide +kernel
theorem dX2_pourAll_103 : decode cX2_pourAll 103 = .ok (.isub, 1) := by decide +kernel
theorem dX2_pourAll_104 : decode cX2_pourAll 104 = .ok (.invokestatic 44, 3) := by decide +kernel
theorem dX2_pourAll_107 : decode cX2_pourAll 107 = .ok (.istore 5, 2) := by decide +kernel
theorem dX2_pourAll_109 : decode cX2_pourAll 109 = .ok (.aload_n 0, 1) := by decide +kernel
theorem dX2_pourAll_110 : decode cX2_pourAll 110 = .ok (.getfield 15, 3) := by decide +kernel
theorem dX2_pourAll_113 : decode cX2_pourAll 113 = .ok (.iload_n 3, 1) := by decide +kernel
theorem dX2_pourAll_114 : decode cX2_pourAll 114 = .ok (.dup2, 1) := by decide +kernel
theorem dX2_pourAll_115 : decode cX2_pourAll 115 = .ok (.iaload, 1) := by decide +kernel
theorem dX2_pourAll_116 : decode cX2_pourAll 116 = .ok (.iload 5, 2) := by decide +kernel
theorem dX2_pourAll_118 : decode cX2_pourAll 118 = .ok (.isub, 1) := by decide +kernel
theorem dX2_pourAll_119 : decode cX2_pourAll 119 = .ok (.iastore, 1) := by decide +kernel
theorem dX2_pourAll_120 : decode cX2_pourAll 120 = .ok (.aload_n 0, 1) := by decide +kernel
theorem dX2_pourAll_121 : decode cX2_pourAll 121 = .ok (.getfield 15, 3) := by decide +kernel
theorem dX2_pourAll_124 : decode cX2_pourAll 124 = .ok (.iload 4, 2) := by decide +kernel
theorem dX2_pourAll_126 : decode cX2_pourAll 126 = .ok (.dup2, 1) := by decide +kernel
theorem dX2_pourAll_127 : decode cX2_pourAll 127 = .ok (.iaload, 1) := by decide +kernel
theorem dX2_pourAll_128 : decode cX2_pourAll 128 = .ok (.iload 5, 2) := by decide +kernel
theorem dX2_pourAll_130 : decode cX2_pourAll 130 = .ok (.iadd, 1) := by decide +kernel
theorem dX2_pourAll_131 : decode cX2_pourAll 131 = .ok (.iastore, 1) := by decide +kernel
theorem dX2_pourAll_132 : decode cX2_pourAll 132 = .ok (.aload_n 0, 1) := by decide +kernel
theorem dX2_pourAll_133 : decode cX2_pourAll 133 = .ok (.iload_n 2, 1) := by decide +kernel
theorem dX2_pourAll_134 : decode cX2_pourAll 134 = .ok (.invokevirtual 37, 3) := by decide +kernel
theorem dX2_pourAll_137 : decode cX2_pourAll 137 = .ok (.iinc 4 1, 3) := by decide +kernel
theorem dX2_pourAll_140 : decode cX2_pourAll 140 = .ok (.goto (-79), 3) := by decide +kernel
theorem dX2_pourAll_143 : decode cX2_pourAll 143 = .ok (.iinc 3 1, 3) := by decide +kernel
theorem dX2_pourAll_146 : decode cX2_pourAll 146 = .ok (.goto (-93), 3) := by decide +kernel
theorem dX2_pourAll_149 : decode cX2_pourAll 149 = .ok (.iinc 1 1, 3) := by decide +kernel
theorem dX2_pourAll_152 : decode cX2_pourAll 152 = .ok (.goto (-132), 3) := by decide +kernel
theorem dX2_pourAll_155 : decode cX2_pourAll 155 = .ok (.return_, 1) := by decide +kernel
theorem dX2_fewestTill_0 : decode cX2_fewestTill 0 = .ok (.iconst 0, 1) := by decide +kernel
theorem dX2_fewestTill_1 : decode cX2_fewestTill 1 = .ok (.istore_n 2, 1) := by decide +kernel
theorem dX2_fewestTill_2 : decode cX2_fewestTill 2 = .ok (.iload_n 2, 1) := by decide +kernel
theorem dX2_fewestTill_3 : decode cX2_fewestTill 3 = .ok (.aload_n 0, 1) := by decide +kernel
theorem dX2_fewestTill_4 : decode cX2_fewestTill 4 = .ok (.getfield 28, 3) := by decide +kernel
theorem dX2_fewestTill_7 : decode cX2_fewestTill 7 = .ok (.if_icmp .ge 70, 3) := by decide +kernel
theorem dX2_fewestTill_10 : decode cX2_fewestTill 10 = .ok (.iload_n 2, 1) := by decide +kernel
theorem dX2_fewestTill_11 : decode cX2_fewestTill 11 = .ok (.aload_n 0, 1) := by decide +kernel
theorem dX2_fewestTill_12 : decode cX2_fewestTill 12 = .ok (.getfield 21, 3) := by decide +kernel
theorem dX2_fewestTill_15 : decode cX2_fewestTill 15 = .ok (.arraylength, 1) := by decide +kernel
theorem dX2_fewestTill_16 : decode cX2_fewestTill 16 = .ok (.if_icmp .ge 61, 3) := by decide +kernel
theorem dX2_fewestTill_19 : decode cX2_fewestTill 19 = .ok (.aload_n 0, 1) := by decide +kernel
theorem dX2_fewestTill_20 : decode cX2_fewestTill 20 = .ok (.aload_n 0, 1) := by decide +kernel
theorem dX2_fewestTill_21 : decode cX2_fewestTill 21 = .ok (.getfield 21, 3) := by decide +kernel
theorem dX2_fewestTill_24 : decode cX2_fewestTill 24 = .ok (.iload_n 2, 1) := by decide +kernel
theorem dX2_fewestTill_25 : decode cX2_fewestTill 25 = .ok (.iaload, 1) := by decide +kernel
theorem dX2_fewestTill_26 : decode cX2_fewestTill 26 = .ok (.invokevirtual 41, 3) := by decide +kernel
theorem dX2_fewestTill_29 : decode cX2_fewestTill 29 = .ok (.aload_n 0, 1) := by decide +kernel
theorem dX2_fewestTill_30 : decode cX2_fewestTill 30 = .ok (.getfield 15, 3) := by decide +kernel
theorem dX2_fewestTill_33 : decode cX2_fewestTill 33 = .ok (.iconst 0, 1) := by decide +kernel
theorem dX2_fewestTill_34 : decode cX2_fewestTill 34 = .ok (.iaload, 1) := by decide +kernel
theorem dX2_fewestTill_35 : decode cX2_fewestTill 35 = .ok (.iload_n 1, 1) := by decide +kernel
theorem dX2_fewestTill_36 : decode cX2_fewestTill 36 = .ok (.if_icmp .eq 23, 3) := by decide +kernel
theorem dX2_fewestTill_39 : decode cX2_fewestTill 39 = .ok (.aload_n 0, 1) := by decide +kernel
theorem dX2_fewestTill_40 : decode cX2_fewestTill 40 = .ok (.getfield 15, 3) := by decide +kernel
theorem dX2_fewestTill_43 : decode cX2_fewestTill 43 = .ok (.iconst 1, 1) := by decide +kernel
theorem dX2_fewestTill_44 : decode cX2_fewestTill 44 = .ok (.iaload, 1) := by decide +kernel
theorem dX2_fewestTill_45 : decode cX2_fewestTill 45 = .ok (.iload_n 1, 1) := by decide +kernel
theorem dX2_fewestTill_46 : decode cX2_fewestTill 46 = .ok (.if_icmp .eq 13, 3) := by decide +kernel
theorem dX2_fewestTill_49 : decode cX2_fewestTill 49 = .ok (.aload_n 0, 1) := by decide +kernel
theorem dX2_fewestTill_50 : decode cX2_fewestTill 50 = .ok (.getfield 15, 3) := by decide +kernel
theorem dX2_fewestTill_53 : decode cX2_fewestTill 53 = .ok (.iconst 2, 1) := by decide +kernel
theorem dX2_fewestTill_54 : decode cX2_fewestTill 54 = .ok (.iaload, 1) := by decide +kernel
theorem dX2_fewestTill_55 : decode cX2_fewestTill 55 = .ok (.iload_n 1, 1) := by decide +kernel
theorem dX2_fewestTill_56 : decode cX2_fewestTill 56 = .ok (.if_icmp .ne 15, 3) := by decide +kernel
theorem dX2_fewestTill_59 : decode cX2_fewestTill 59 = .ok (.aload_n 0, 1) := by decide +kernel
theorem dX2_fewestTill_60 : decode cX2_fewestTill 60 = .ok (.getfield 18, 3) := by decide +kernel
theorem dX2_fewestTill_63 : decode cX2_fewestTill 63 = .ok (.aload_n 0, 1) := by decide +kernel
theorem dX2_fewestTill_64 : decode cX2_fewestTill 64 = .ok (.getfield 21, 3) := by decide +kernel
theorem dX2_fewestTill_67 : decode cX2_fewestTill 67 = .ok (.iload_n 2, 1) := by decide +kernel
theorem dX2_fewestTill_68 : decode cX2_fewestTill 68 = .ok (.iaload, 1) := by decide +kernel
theorem dX2_fewestTill_69 : decode cX2_fewestTill 69 = .ok (.iaload, 1) := by decide +kernel
theorem dX2_fewestTill_70 : decode cX2_fewestTill 70 = .ok (.ireturn, 1) := by decide +kernel
theorem dX2_fewestTill_71 : decode cX2_fewestTill 71 = .ok (.iinc 2 1, 3) := by decide +kernel
theorem dX2_fewestTill_74 : decode cX2_fewestTill 74 = .ok (.goto (-72), 3) := by decide +kernel
theorem dX2_fewestTill_77 : decode cX2_fewestTill 77 = .ok (.bipush (-2), 2) := by decide +kernel
theorem dX2_fewestTill_79 : decode cX2_fewestTill 79 = .ok (.ireturn, 1) := by decide +kernel
theorem dX2_stand_0 : decode cX2_stand 0 = .ok (.aload_n 0, 1) := by decide +kernel
theorem dX2_stand_1 : decode cX2_stand 1 = .ok (.getfield 15, 3) := by decide +kernel
theorem dX2_stand_4 : decode cX2_stand 4 = .ok (.iconst 0, 1) := by decide +kernel
theorem dX2_stand_5 : decode cX2_stand 5 = .ok (.iload_n 1, 1) := by decide +kernel
theorem dX2_stand_6 : decode cX2_stand 6 = .ok (.bipush 21, 2) := by decide +kernel
theorem dX2_stand_8 : decode cX2_stand 8 = .ok (.idiv, 1) := by decide +kernel
theorem dX2_stand_9 : decode cX2_stand 9 = .ok (.iastore, 1) := by decide +kernel
theorem dX2_stand_10 : decode cX2_stand 10 = .ok (.aload_n 0, 1) := by decide +kernel
theorem dX2_stand_11 : decode cX2_stand 11 = .ok (.getfield 15, 3) := by decide +kernel
theorem dX2_stand_14 : decode cX2_stand 14 = .ok (.iconst 1, 1) := by decide +kernel
theorem dX2_stand_15 : decode cX2_stand 15 = .ok (.iload_n 1, 1) := by decide +kernel
theorem dX2_stand_16 : decode cX2_stand 16 = .ok (.bipush 21, 2) := by decide +kernel
theorem dX2_stand_18 : decode cX2_stand 18 = .ok (.irem, 1) := by decide +kernel
theorem dX2_stand_19 : decode cX2_stand 19 = .ok (.iastore, 1) := by decide +kernel
theorem dX2_stand_20 : decode cX2_stand 20 = .ok (.aload_n 0, 1) := by decide +kernel
theorem dX2_stand_21 : decode cX2_stand 21 = .ok (.getfield 15, 3) := by decide +kernel
theorem dX2_stand_24 : decode cX2_stand 24 = .ok (.iconst 2, 1) := by decide +kernel
theorem dX2_stand_25 : decode cX2_stand 25 = .ok (.aload_n 0, 1) := by decide +kernel
theorem dX2_stand_26 : decode cX2_stand 26 = .ok (.getfield 24, 3) := by decide +kernel
theorem dX2_stand_29 : decode cX2_stand 29 = .ok (.aload_n 0, 1) := by decide +kernel
theorem dX2_stand_30 : decode cX2_stand 30 = .ok (.getfield 15, 3) := by decide +kernel
theorem dX2_stand_33 : decode cX2_stand 33 = .ok (.iconst 0, 1) := by decide +kernel
theorem dX2_stand_34 : decode cX2_stand 34 = .ok (.iaload, 1) := by decide +kernel
theorem dX2_stand_35 : decode cX2_stand 35 = .ok (.isub, 1) := by decide +kernel
theorem dX2_stand_36 : decode cX2_stand 36 = .ok (.aload_n 0, 1) := by decide +kernel
theorem dX2_stand_37 : decode cX2_stand 37 = .ok (.getfield 15, 3) := by decide +kernel
theorem dX2_stand_40 : decode cX2_stand 40 = .ok (.iconst 1, 1) := by decide +kernel
theorem dX2_stand_41 : decode cX2_stand 41 = .ok (.iaload, 1) := by decide +kernel
theorem dX2_stand_42 : decode cX2_stand 42 = .ok (.isub, 1) := by decide +kernel
theorem dX2_stand_43 : decode cX2_stand 43 = .ok (.iastore, 1) := by decide +kernel
theorem dX2_stand_44 : decode cX2_stand 44 = .ok (.return_, 1) := by decide +kernel
theorem dX2_note_0 : decode cX2_note 0 = .ok (.aload_n 0, 1) := by decide +kernel
theorem dX2_note_1 : decode cX2_note 1 = .ok (.getfield 15, 3) := by decide +kernel
theorem dX2_note_4 : decode cX2_note 4 = .ok (.iconst 0, 1) := by decide +kernel
theorem dX2_note_5 : decode cX2_note 5 = .ok (.iaload, 1) := by decide +kernel
theorem dX2_note_6 : decode cX2_note 6 = .ok (.bipush 21, 2) := by decide +kernel
theorem dX2_note_8 : decode cX2_note 8 = .ok (.imul, 1) := by decide +kernel
theorem dX2_note_9 : decode cX2_note 9 = .ok (.aload_n 0, 1) := by decide +kernel
theorem dX2_note_10 : decode cX2_note 10 = .ok (.getfield 15, 3) := by decide +kernel
theorem dX2_note_13 : decode cX2_note 13 = .ok (.iconst 1, 1) := by decide +kernel
theorem dX2_note_14 : decode cX2_note 14 = .ok (.iaload, 1) := by decide +kernel
theorem dX2_note_15 : decode cX2_note 15 = .ok (.iadd, 1) := by decide +kernel
theorem dX2_note_16 : decode cX2_note 16 = .ok (.istore_n 2, 1) := by decide +kernel
theorem dX2_note_17 : decode cX2_note 17 = .ok (.iload_n 2, 1) := by decide +kernel
theorem dX2_note_18 : decode cX2_note 18 = .ok (.ifCond .lt 61, 3) := by decide +kernel
theorem dX2_note_21 : decode cX2_note 21 = .ok (.iload_n 2, 1) := by decide +kernel
theorem dX2_note_22 : decode cX2_note 22 = .ok (.aload_n 0, 1) := by decide +kernel
theorem dX2_note_23 : decode cX2_note 23 = .ok (.getfield 18, 3) := by decide +kernel
theorem dX2_note_26 : decode cX2_note 26 = .ok (.arraylength, 1) := by decide +kernel
theorem dX2_note_27 : decode cX2_note 27 = .ok (.if_icmp .ge 52, 3) := by decide +kernel
theorem dX2_note_30 : decode cX2_note 30 = .ok (.aload_n 0, 1) := by decide +kernel
theorem dX2_note_31 : decode cX2_note 31 = .ok (.getfield 18, 3) := by decide +kernel
theorem dX2_note_34 : decode cX2_note 34 = .ok (.iload_n 2, 1) := by decide +kernel
theorem dX2_note_35 : decode cX2_note 35 = .ok (.iaload, 1) := by decide +kernel
theorem dX2_note_36 : decode cX2_note 36 = .ok (.iconst (-1), 1) := by decide +kernel
theorem dX2_note_37 : decode cX2_note 37 = .ok (.if_icmp .ne 42, 3) := by decide +kernel
theorem dX2_note_40 : decode cX2_note 40 = .ok (.aload_n 0, 1) := by decide +kernel
theorem dX2_note_41 : decode cX2_note 41 = .ok (.getfield 28, 3) := by decide +kernel
theorem dX2_note_44 : decode cX2_note 44 = .ok (.aload_n 0, 1) := by decide +kernel
theorem dX2_note_45 : decode cX2_note 45 = .ok (.getfield 21, 3) := by decide +kernel
theorem dX2_note_48 : decode cX2_note 48 = .ok (.arraylength, 1) := by decide +kernel
theorem dX2_note_49 : decode cX2_note 49 = .ok (.if_icmp .ge 30, 3) := by decide +kernel
theorem dX2_note_52 : decode cX2_note 52 = .ok (.aload_n 0, 1) := by decide +kernel
theorem dX2_note_53 : decode cX2_note 53 = .ok (.getfield 18, 3) := by decide +kernel
theorem dX2_note_56 : decode cX2_note 56 = .ok (.iload_n 2, 1) := by decide +kernel
theorem dX2_note_57 : decode cX2_note 57 = .ok (.iload_n 1, 1) := by decide +kernel
theorem dX2_note_58 : decode cX2_note 58 = .ok (.iastore, 1) := by decide +kernel
theorem dX2_note_59 : decode cX2_note 59 = .ok (.aload_n 0, 1) := by decide +kernel
theorem dX2_note_60 : decode cX2_note 60 = .ok (.getfield 21, 3) := by decide +kernel
theorem dX2_note_63 : decode cX2_note 63 = .ok (.aload_n 0, 1) := by decide +kernel
theorem dX2_note_64 : decode cX2_note 64 = .ok (.getfield 28, 3) := by decide +kernel
theorem dX2_note_67 : decode cX2_note 67 = .ok (.iload_n 2, 1) := by decide +kernel
theorem dX2_note_68 : decode cX2_note 68 = .ok (.iastore, 1) := by decide +kernel
theorem dX2_note_69 : decode cX2_note 69 = .ok (.aload_n 0, 1) := by decide +kernel
theorem dX2_note_70 : decode cX2_note 70 = .ok (.dup, 1) := by decide +kernel
theorem dX2_note_71 : decode cX2_note 71 = .ok (.getfield 28, 3) := by decide +kernel
theorem dX2_note_74 : decode cX2_note 74 = .ok (.iconst 1, 1) := by decide +kernel
theorem dX2_note_75 : decode cX2_note 75 = .ok (.iadd, 1) := by decide +kernel
theorem dX2_note_76 : decode cX2_note 76 = .ok (.putfield 28, 3) := by decide +kernel
theorem dX2_note_79 : decode cX2_note 79 = .ok (.return_, 1) := by decide +kernel
theorem dX3_init_0 : decode cX3_init 0 = .ok (.aload_n 0, 1) := by decide +kernel
theorem dX3_init_1 : decode cX3_init 1 = .ok (.invokespecial 3, 3) := by decide +kernel
theorem dX3_init_4 : decode cX3_init 4 = .ok (.aload_n 0, 1) := by decide +kernel
theorem dX3_init_5 : decode cX3_init 5 = .ok (.sipush 240, 3) := by decide +kernel
theorem dX3_init_8 : decode cX3_init 8 = .ok (.newarray .int, 2) := by decide +kernel
theorem dX3_init_10 : decode cX3_init 10 = .ok (.putfield 9, 3) := by decide +kernel
theorem dX3_init_13 : decode cX3_init 13 = .ok (.aload_n 0, 1) := by decide +kernel
theorem dX3_init_14 : decode cX3_init 14 = .ok (.bipush 16, 2) := by decide +kernel
theorem dX3_init_16 : decode cX3_init 16 = .ok (.newarray .int, 2) := by decide +kernel
theorem dX3_init_18 : decode cX3_init 18 = .ok (.putfield 15, 3) := by decide +kernel
theorem dX3_init_21 : decode cX3_init 21 = .ok (.aload_n 0, 1) := by decide +kernel
theorem dX3_init_22 : decode cX3_init 22 = .ok (.bipush 16, 2) := by decide +kernel
theorem dX3_init_24 : decode cX3_init 24 = .ok (.newarray .int, 2) := by decide +kernel
theorem dX3_init_26 : decode cX3_init 26 = .ok (.putfield 18, 3) := by decide +kernel
theorem dX3_init_29 : decode cX3_init 29 = .ok (.aload_n 0, 1) := by decide +kernel
theorem dX3_init_30 : decode cX3_init 30 = .ok (.bipush 16, 2) := by decide +kernel
theorem dX3_init_32 : decode cX3_init 32 = .ok (.newarray .int, 2) := by decide +kernel
theorem dX3_init_34 : decode cX3_init 34 = .ok (.putfield 21, 3) := by decide +kernel
theorem dX3_init_37 : decode cX3_init 37 = .ok (.aload_n 0, 1) := by decide +kernel
theorem dX3_init_38 : decode cX3_init 38 = .ok (.bipush 16, 2) := by decide +kernel
theorem dX3_init_40 : decode cX3_init 40 = .ok (.newarray .int, 2) := by decide +kernel
theorem dX3_init_42 : decode cX3_init 42 = .ok (.putfield 24, 3) := by decide +kernel
theorem dX3_init_45 : decode cX3_init 45 = .ok (.aload_n 0, 1) := by decide +kernel
theorem dX3_init_46 : decode cX3_init 46 = .ok (.ldc 27, 2) := by decide +kernel
theorem dX3_init_48 : decode cX3_init 48 = .ok (.invokevirtual 29, 3) := by decide +kernel
theorem dX3_init_51 : decode cX3_init 51 = .ok (.newarray .int, 2) := by decide +kernel
theorem dX3_init_53 : decode cX3_init 53 = .ok (.putfield 35, 3) := by decide +kernel
theorem dX3_init_56 : decode cX3_init 56 = .ok (.aload_n 0, 1) := by decide +kernel
theorem dX3_init_57 : decode cX3_init 57 = .ok (.bipush 32, 2) := by decide +kernel
theorem dX3_init_59 : decode cX3_init 59 = .ok (.newarray .int, 2) := by decide +kernel
theorem dX3_init_61 : decode cX3_init 61 = .ok (.putfield 38, 3) := by decide +kernel
theorem dX3_init_64 : decode cX3_init 64 = .ok (.aload_n 0, 1) := by decide +kernel
theorem dX3_init_65 : decode cX3_init 65 = .ok (.iconst 0, 1) := by decide +kernel
theorem dX3_init_66 : decode cX3_init 66 = .ok (.putfield 41, 3) := by decide +kernel
theorem dX3_init_69 : decode cX3_init 69 = .ok (.return_, 1) := by decide +kernel
theorem dX3_take_0 : decode cX3_take 0 = .ok (.aload_n 1, 1) := by decide +kernel
theorem dX3_take_1 : decode cX3_take 1 = .ok (.getfield 9, 3) := by decide +kernel
theorem dX3_take_4 : decode cX3_take 4 = .ok (.iconst 0, 1) := by decide +kernel
theorem dX3_take_5 : decode cX3_take 5 = .ok (.aload_n 0, 1) := by decide +kernel
theorem dX3_take_6 : decode cX3_take 6 = .ok (.getfield 9, 3) := by decide +kernel
theorem dX3_take_9 : decode cX3_take 9 = .ok (.iconst 0, 1) := by decide +kernel
theorem dX3_take_10 : decode cX3_take 10 = .ok (.sipush 240, 3) := by decide +kernel
theorem dX3_take_13 : decode cX3_take 13 = .ok (.invokestatic 45, 3) := by decide +kernel
theorem dX3_take_16 : decode cX3_take 16 = .ok (.aload_n 1, 1) := by decide +kernel
theorem dX3_take_17 : decode cX3_take 17 = .ok (.getfield 15, 3) := by decide +kernel
theorem dX3_take_20 : decode cX3_take 20 = .ok (.iconst 0, 1) := by decide +kernel
theorem dX3_take_21 : decode cX3_take 21 = .ok (.aload_n 0, 1) := by decide +kernel
theorem dX3_take_22 : decode cX3_take 22 = .ok (.getfield 15, 3) := by decide +kernel
theorem dX3_take_25 : decode cX3_take 25 = .ok (.iconst 0, 1) := by decide +kernel
theorem dX3_take_26 : decode cX3_take 26 = .ok (.bipush 16, 2) := by decide +kernel
theorem dX3_take_28 : decode cX3_take 28 = .ok (.invokestatic 45, 3) := by decide +kernel
theorem dX3_take_31 : decode cX3_take 31 = .ok (.aload_n 1, 1) := by decide +kernel
theorem dX3_take_32 : decode cX3_take 32 = .ok (.getfield 18, 3) := by decide +kernel
theorem dX3_take_35 : decode cX3_take 35 = .ok (.iconst 0, 1) := by decide +kernel
theorem dX3_take_36 : decode cX3_take 36 = .ok (.aload_n 0, 1) := by decide +kernel
theorem dX3_take_37 : decode cX3_take 37 = .ok (.getfield 18, 3) := by decide +kernel
theorem dX3_take_40 : decode cX3_take 40 = .ok (.iconst 0, 1) := by decide +kernel
theorem dX3_take_41 : decode cX3_take 41 = .ok (.bipush 16, 2) := by decide +kernel
theorem dX3_take_43 : decode cX3_take 43 = .ok (.invokestatic 45, 3) := by decide +kernel
theorem dX3_take_46 : decode cX3_take 46 = .ok (.aload_n 1, 1) := by decide +kernel
theorem dX3_take_47 : decode cX3_take 47 = .ok (.getfield 21, 3) := by decide +kernel
theorem dX3_take_50 : decode cX3_take 50 = .ok (.iconst 0, 1) := by decide +kernel
theorem dX3_take_51 : decode cX3_take 51 = .ok (.aload_n 0, 1) := by decide +kernel
theorem dX3_take_52 : decode cX3_take 52 = .ok (.getfield 21, 3) := by decide +kernel
theorem dX3_take_55 : decode cX3_take 55 = .ok (.iconst 0, 1) := by decide +kernel
theorem dX3_take_56 : decode cX3_take 56 = .ok (.bipush 16, 2) := by decide +kernel
theorem dX3_take_58 : decode cX3_take 58 = .ok (.invokestatic 45, 3) := by decide +kernel
theorem dX3_take_61 : decode cX3_take 61 = .ok (.aload_n 1, 1) := by decide +kernel
theorem dX3_take_62 : decode cX3_take 62 = .ok (.getfield 24, 3) := by decide +kernel
theorem dX3_take_65 : decode cX3_take 65 = .ok (.iconst 0, 1) := by decide +kernel
theorem dX3_take_66 : decode cX3_take 66 = .ok (.aload_n 0, 1) := by decide +kernel
theorem dX3_take_67 : decode cX3_take 67 = .ok (.getfield 24, 3) := by decide +kernel
theorem dX3_take_70 : decode cX3_take 70 = .ok (.iconst 0, 1) := by decide +kernel
theorem dX3_take_71 : decode cX3_take 71 = .ok (.bipush 16, 2) := by decide +kernel
theorem dX3_take_73 : decode cX3_take 73 = .ok (.invokestatic 45, 3) := by decide +kernel
theorem dX3_take_76 : decode cX3_take 76 = .ok (.aload_n 0, 1) := by decide +kernel
theorem dX3_take_77 : decode cX3_take 77 = .ok (.aload_n 1, 1) := by decide +kernel
theorem dX3_take_78 : decode cX3_take 78 = .ok (.getfield 41, 3) := by decide +kernel
theorem dX3_take_81 : decode cX3_take 81 = .ok (.putfield 41, 3) := by decide +kernel
theorem dX3_take_84 : decode cX3_take 84 = .ok (.return_, 1) := by decide +kernel
theorem dX3_amount_0 : decode cX3_amount 0 = .ok (.iconst 0, 1) := by decide +kernel
theorem dX3_amount_1 : decode cX3_amount 1 = .ok (.istore_n 3, 1) := by decide +kernel
theorem dX3_amount_2 : decode cX3_amount 2 = .ok (.iload_n 3, 1) := by decide +kernel
theorem dX3_amount_3 : decode cX3_amount 3 = .ok (.aload_n 0, 1) := by decide +kernel
theorem dX3_amount_4 : decode cX3_amount 4 = .ok (.getfield 41, 3) := by decide +kernel
theorem dX3_amount_7 : decode cX3_amount 7 = .ok (.if_icmp .ge 63, 3) := by decide +kernel
theorem dX3_amount_10 : decode cX3_amount 10 = .ok (.aload_n 0, 1) := by decide +kernel
theorem dX3_amount_11 : decode cX3_amount 11 = .ok (.getfield 15, 3) := by decide +kernel
theorem dX3_amount_14 : decode cX3_amount 14 = .ok (.iload_n 3, 1) := by decide +kernel
theorem dX3_amount_15 : decode cX3_amount 15 = .ok (.iaload, 1) := by decide +kernel
theorem dX3_amount_16 : decode cX3_amount 16 = .ok (.iload_n 1, 1) := by decide +kernel
theorem dX3_amount_17 : decode cX3_amount 17 = .ok (.if_icmp .ne 47, 3) := by decide +kernel
theorem dX3_amount_20 : decode cX3_amount 20 = .ok (.aload_n 0, 1) := by decide +kernel
theorem dX3_amount_21 : decode cX3_amount 21 = .ok (.aload_n 0, 1) := by decide +kernel
theorem dX3_amount_22 : decode cX3_amount 22 = .ok (.getfield 21, 3) := by decide +kernel
theorem dX3_amount_25 : decode cX3_amount 25 = .ok (.iload_n 3, 1) := by decide +kernel
theorem dX3_amount_26 : decode cX3_amount 26 = .ok (.iaload, 1) := by decide +kernel
theorem dX3_amount_27 : decode cX3_amount 27 = .ok (.aload_n 0, 1) := by decide +kernel
theorem dX3_amount_28 : decode cX3_amount 28 = .ok (.getfield 24, 3) := by decide +kernel
theorem dX3_amount_31 : decode cX3_amount 31 = .ok (.iload_n 3, 1) := by decide +kernel
theorem dX3_amount_32 : decode cX3_amount 32 = .ok (.iaload, 1) := by decide +kernel
theorem dX3_amount_33 : decode cX3_amount 33 = .ok (.invokevirtual 51, 3) := by decide +kernel
theorem dX3_amount_36 : decode cX3_amount 36 = .ok (.ifCond .eq 28, 3) := by decide +kernel
theorem dX3_amount_39 : decode cX3_amount 39 = .ok (.iconst 0, 1) := by decide +kernel
theorem dX3_amount_40 : decode cX3_amount 40 = .ok (.iload_n 2, 1) := by decide +kernel
theorem dX3_amount_41 : decode cX3_amount 41 = .ok (.aload_n 0, 1) := by decide +kernel
theorem dX3_amount_42 : decode cX3_amount 42 = .ok (.aload_n 0, 1) := by decide +kernel
theorem dX3_amount_43 : decode cX3_amount 43 = .ok (.getfield 18, 3) := by decide +kernel
theorem dX3_amount_46 : decode cX3_amount 46 = .ok (.iload_n 3, 1) := by decide +kernel
theorem dX3_amount_47 : decode cX3_amount 47 = .ok (.iaload, 1) := by decide +kernel
theorem dX3_amount_48 : decode cX3_amount 48 = .ok (.aload_n 0, 1) := by decide +kernel
theorem dX3_amount_49 : decode cX3_amount 49 = .ok (.getfield 21, 3) := by decide +kernel
theorem dX3_amount_52 : decode cX3_amount 52 = .ok (.iload_n 3, 1) := by decide +kernel
theorem dX3_amount_53 : decode cX3_amount 53 = .ok (.iaload, 1) := by decide +kernel
theorem dX3_amount_54 : decode cX3_amount 54 = .ok (.invokevirtual 51, 3) := by decide +kernel
theorem dX3_amount_57 : decode cX3_amount 57 = .ok (.invokestatic 55, 3) := by decide +kernel
theorem dX3_amount_60 : decode cX3_amount 60 = .ok (.invokestatic 60, 3) := by decide +kernel
theorem dX3_amount_63 : decode cX3_amount 63 = .ok (.ireturn, 1) := by decide +kernel
theorem dX3_amount_64 : decode cX3_amount 64 = .ok (.iinc 3 1, 3) := by decide +kernel
theorem dX3_amount_67 : decode cX3_amount 67 = .ok (.goto (-65), 3) := by decide +kernel
theorem dX3_amount_70 : decode cX3_amount 70 = .ok (.iconst 0, 1) := by decide +kernel
theorem dX3_amount_71 : decode cX3_amount 71 = .ok (.ireturn, 1) := by decide +kernel
theorem dX3_breaks_0 : decode cX3_breaks 0 = .ok (.iconst 0, 1) := by decide +kernel
theorem dX3_breaks_1 : decode cX3_breaks 1 = .ok (.istore_n 1, 1) := by decide +kernel
theorem dX3_breaks_2 : decode cX3_breaks 2 = .ok (.iload_n 1, 1) := by decide +kernel
theorem dX3_breaks_3 : decode cX3_breaks 3 = .ok (.aload_n 0, 1) := by decide +kernel
theorem dX3_breaks_4 : decode cX3_breaks 4 = .ok (.getfield 41, 3) := by decide +kernel
theorem dX3_breaks_7 : decode cX3_breaks 7 = .ok (.if_icmp .ge 41, 3) := by decide +kernel
theorem dX3_breaks_10 : decode cX3_breaks 10 = .ok (.aload_n 0, 1) := by decide +kernel
theorem dX3_breaks_11 : decode cX3_breaks 11 = .ok (.getfield 15, 3) := by decide +kernel
theorem dX3_breaks_14 : decode cX3_breaks 14 = .ok (.iload_n 1, 1) := by decide +kernel
theorem dX3_breaks_15 : decode cX3_breaks 15 = .ok (.iaload, 1) := by decide +kernel
theorem dX3_breaks_16 : decode cX3_breaks 16 = .ok (.bipush 120, 2) := by decide +kernel
theorem dX3_breaks_18 : decode cX3_breaks 18 = .ok (.if_icmp .ne 24, 3) := by decide +kernel
theorem dX3_breaks_21 : decode cX3_breaks 21 = .ok (.aload_n 0, 1) := by decide +kernel
theorem dX3_breaks_22 : decode cX3_breaks 22 = .ok (.aload_n 0, 1) := by decide +kernel
theorem dX3_breaks_23 : decode cX3_breaks 23 = .ok (.getfield 21, 3) := by decide +kernel
theorem dX3_breaks_26 : decode cX3_breaks 26 = .ok (.iload_n 1, 1) := by decide +kernel
theorem dX3_breaks_27 : decode cX3_breaks 27 = .ok (.iaload, 1) := by decide +kernel
theorem dX3_breaks_28 : decode cX3_breaks 28 = .ok (.aload_n 0, 1) := by decide +kernel
theorem dX3_breaks_29 : decode cX3_breaks 29 = .ok (.getfield 24, 3) := by decide +kernel
theorem dX3_breaks_32 : decode cX3_breaks 32 = .ok (.iload_n 1, 1) := by decide +kernel
theorem dX3_breaks_33 : decode cX3_breaks 33 = .ok (.iaload, 1) := by decide +kernel
theorem dX3_breaks_34 : decode cX3_breaks 34 = .ok (.invokevirtual 51, 3) := by decide +kernel
theorem dX3_breaks_37 : decode cX3_breaks 37 = .ok (.ifCond .eq 5, 3) := by decide +kernel
theorem dX3_breaks_40 : decode cX3_breaks 40 = .ok (.iconst 1, 1) := by decide +kernel
theorem dX3_breaks_41 : decode cX3_breaks 41 = .ok (.ireturn, 1) := by decide +kernel
theorem dX3_breaks_42 : decode cX3_breaks 42 = .ok (.iinc 1 1, 3) := by decide +kernel
theorem dX3_breaks_45 : decode cX3_breaks 45 = .ok (.goto (-43), 3) := by decide +kernel
theorem dX3_breaks_48 : decode cX3_breaks 48 = .ok (.iconst 0, 1) := by decide +kernel
theorem dX3_breaks_49 : decode cX3_breaks 49 = .ok (.ireturn, 1) := by decide +kernel
theorem dX3_reckon_0 : decode cX3_reckon 0 = .ok (.iconst 0, 1) := by decide +kernel
theorem dX3_reckon_1 : decode cX3_reckon 1 = .ok (.istore_n 3, 1) := by decide +kernel
theorem dX3_reckon_2 : decode cX3_reckon 2 = .ok (.iload_n 1, 1) := by decide +kernel
theorem dX3_reckon_3 : decode cX3_reckon 3 = .ok (.istore 4, 2) := by decide +kernel
theorem dX3_reckon_5 : decode cX3_reckon 5 = .ok (.iconst 0, 1) := by decide +kernel
theorem dX3_reckon_6 : decode cX3_reckon 6 = .ok (.istore 5, 2) := by decide +kernel
theorem dX3_reckon_8 : decode cX3_reckon 8 = .ok (.iload 5, 2) := by decide +kernel
theorem dX3_reckon_10 : decode cX3_reckon 10 = .ok (.sipush 240, 3) := by decide +kernel
theorem dX3_reckon_13 : decode cX3_reckon 13 = .ok (.if_icmp .ge 303, 3) := by decide +kernel
theorem dX3_reckon_16 : decode cX3_reckon 16 = .ok (.iload 4, 2) := by decide +kernel
theorem dX3_reckon_18 : decode cX3_reckon 18 = .ok (.ifCond .lt 298, 3) := by decide +kernel
theorem dX3_reckon_21 : decode cX3_reckon 21 = .ok (.iload 4, 2) := by decide +kernel
theorem dX3_reckon_23 : decode cX3_reckon 23 = .ok (.iload_n 2, 1) := by decide +kernel
theorem dX3_reckon_24 : decode cX3_reckon 24 = .ok (.if_icmp .ge 292, 3) := by decide +kernel
theorem dX3_reckon_27 : decode cX3_reckon 27 = .ok (.iload 4, 2) := by decide +kernel
theorem dX3_reckon_29 : decode cX3_reckon 29 = .ok (.sipush 240, 3) := by decide +kernel
theorem dX3_reckon_32 : decode cX3_reckon 32 = .ok (.if_icmp .ge 284, 3) := by decide +kernel
theorem dX3_reckon_35 : decode cX3_reckon 35 = .ok (.aload_n 0, 1) := by decide +kernel
theorem dX3_reckon_36 : decode cX3_reckon 36 = .ok (.getfield 9, 3) := by decide +kernel
theorem dX3_reckon_39 : decode cX3_reckon 39 = .ok (.iload 4, 2) := by decide +kernel
theorem dX3_reckon_41 : decode cX3_reckon 41 = .ok (.iaload, 1) := by decide +kernel
theorem dX3_reckon_42 : decode cX3_reckon 42 = .ok (.sipush 255, 3) := by decide +kernel
theorem dX3_reckon_45 : decode cX3_reckon 45 = .ok (.iand, 1) := by decide +kernel
theorem dX3_reckon_46 : decode cX3_reckon 46 = .ok (.istore 6, 2) := by decide +kernel
theorem dX3_reckon_48 : decode cX3_reckon 48 = .ok (.aload_n 0, 1) := by decide +kernel
theorem dX3_reckon_49 : decode cX3_reckon 49 = .ok (.getfield 9, 3) := by decide +kernel
theorem dX3_reckon_52 : decode cX3_reckon 52 = .ok (.iload 4, 2) := by decide +kernel
theorem dX3_reckon_54 : decode cX3_reckon 54 = .ok (.iaload, 1) := by decide +kernel
theorem dX3_reckon_55 : decode cX3_reckon 55 = .ok (.bipush 8, 2) := by decide +kernel
theorem dX3_reckon_57 : decode cX3_reckon 57 = .ok (.iushr, 1) := by decide +kernel
theorem dX3_reckon_58 : decode cX3_reckon 58 = .ok (.istore 7, 2) := by decide +kernel
theorem dX3_reckon_60 : decode cX3_reckon 60 = .ok (.iinc 4 1, 3) := by decide +kernel
theorem dX3_reckon_63 : decode cX3_reckon 63 = .ok (.iload 6, 2) := by decide +kernel
theorem dX3_reckon_65 : decode cX3_reckon 65 = .ok (.bipush 78, 2) := by decide +kernel
theorem dX3_reckon_67 : decode cX3_reckon 67 = .ok (.if_icmp .eq 10, 3) := by decide +kernel
theorem dX3_reckon_70 : decode cX3_reckon 70 = .ok (.iload 6, 2) := by decide +kernel
theorem dX3_reckon_72 : decode cX3_reckon 72 = .ok (.bipush 75, 2) := by decide +kernel
theorem dX3_reckon_74 : decode cX3_reckon 74 = .ok (.if_icmp .ne 59, 3) := by decide +kernel
theorem dX3_reckon_77 : decode cX3_reckon 77 = .ok (.iload_n 3, 1) := by decide +kernel
theorem dX3_reckon_78 : decode cX3_reckon 78 = .ok (.bipush 32, 2) := by decide +kernel
theorem dX3_reckon_80 : decode cX3_reckon 80 = .ok (.if_icmp .ge 20, 3) := by decide +kernel
theorem dX3_reckon_83 : decode cX3_reckon 83 = .ok (.iload 6, 2) := by decide +kernel
theorem dX3_reckon_85 : decode cX3_reckon 85 = .ok (.bipush 75, 2) := by decide +kernel
theorem dX3_reckon_87 : decode cX3_reckon 87 = .ok (.if_icmp .ne 15, 3) := by decide +kernel
theorem dX3_reckon_90 : decode cX3_reckon 90 = .ok (.iload 7, 2) := by decide +kernel
theorem dX3_reckon_92 : decode cX3_reckon 92 = .ok (.aload_n 0, 1) := by decide +kernel
theorem dX3_reckon_93 : decode cX3_reckon 93 = .ok (.getfield 35, 3) := by decide +kernel
theorem dX3_reckon_96 : decode cX3_reckon 96 = .ok (.arraylength, 1) := by decide +kernel
theorem dX3_reckon_97 : decode cX3_reckon 97 = .ok (.if_icmp .lt 5, 3) := by decide +kernel
theorem dX3_reckon_100 : decode cX3_reckon 100 = .ok (.iconst 0, 1) := by decide +kernel
theorem dX3_reckon_101 : decode cX3_reckon 101 = .ok (.ireturn, 1) := by decide +kernel
theorem dX3_reckon_102 : decode cX3_reckon 102 = .ok (.aload_n 0, 1) := by decide +kernel
theorem dX3_reckon_103 : decode cX3_reckon 103 = .ok (.getfield 38, 3) := by decide +kernel
theorem dX3_reckon_106 : decode cX3_reckon 106 = .ok (.iload_n 3, 1) := by decide +kernel
theorem dX3_reckon_107 : decode cX3_reckon 107 = .ok (.iload 6, 2) := by decide +kernel
theorem dX3_reckon_109 : decode cX3_reckon 109 = .ok (.bipush 78, 2) := by decide +kernel
theorem dX3_reckon_111 : decode cX3_reckon 111 = .ok (.if_icmp .ne 8, 3) := by decide +kernel
theorem dX3_reckon_114 : decode cX3_reckon 114 = .ok (.iload 7, 2) := by decide +kernel
theorem dX3_reckon_116 : decode cX3_reckon 116 = .ok (.goto 10, 3) := by decide +kernel
theorem dX3_reckon_119 : decode cX3_reckon 119 = .ok (.aload_n 0, 1) := by decide +kernel
theorem dX3_reckon_120 : decode cX3_reckon 120 = .ok (.getfield 35, 3) := by decide +kernel
theorem dX3_reckon_123 : decode cX3_reckon 123 = .ok (.iload 7, 2) := by decide +kernel
theorem dX3_reckon_125 : decode cX3_reckon 125 = .ok (.iaload, 1) := by decide +kernel
theorem dX3_reckon_126 : decode cX3_reckon 126 = .ok (.iastore, 1) := by decide +kernel
theorem dX3_reckon_127 : decode cX3_reckon 127 = .ok (.iinc 3 1, 3) := by decide +kernel
theorem dX3_reckon_130 : decode cX3_reckon 130 = .ok (.goto 180, 3) := by decide +kernel
theorem dX3_reckon_133 : decode cX3_reckon 133 = .ok (.iload_n 3, 1) := by decide +kernel
theorem dX3_reckon_134 : decode cX3_reckon 134 = .ok (.iconst 1, 1) := by decide +kernel
theorem dX3_reckon_135 : decode cX3_reckon 135 = .ok (.if_icmp .ge 5, 3) := by decide +kernel
theorem dX3_reckon_138 : decode cX3_reckon 138 = .ok (.iconst 0, 1) := by decide +kernel
theorem dX3_reckon_139 : decode cX3_reckon 139 = .ok (.ireturn, 1) := by decide +kernel
theorem dX3_reckon_140 : decode cX3_reckon 140 = .ok (.iload 6, 2) := by decide +kernel
theorem dX3_reckon_142 : decode cX3_reckon 142 = .ok (.bipush 33, 2) := by decide +kernel
theorem dX3_reckon_144 : decode cX3_reckon 144 = .ok (.if_icmp .ne 30, 3) := by decide +kernel
theorem dX3_reckon_147 : decode cX3_reckon 147 = .ok (.aload_n 0, 1) := by decide +kernel
theorem dX3_reckon_148 : decode cX3_reckon 148 = .ok (.getfield 38, 3) := by decide +kernel
theorem dX3_reckon_151 : decode cX3_reckon 151 = .ok (.iload_n 3, 1) := by decide +kernel
theorem dX3_reckon_152 : decode cX3_reckon 152 = .ok (.iconst 1, 1) := by decide +kernel
theorem dX3_reckon_153 : decode cX3_reckon 153 = .ok (.isub, 1) := by decide +kernel
theorem dX3_reckon_154 : decode cX3_reckon 154 = .ok (.aload_n 0, 1) := by decide +kernel
theorem dX3_reckon_155 : decode cX3_reckon 155 = .ok (.getfield 38, 3) := by decide +kernel
theorem dX3_reckon_158 : decode cX3_reckon 158 = .ok (.iload_n 3, 1) := by decide +kernel
theorem dX3_reckon_159 : decode cX3_reckon 159 = .ok (.iconst 1, 1) := by decide +kernel
theorem dX3_reckon_160 : decode cX3_reckon 160 = .ok (.isub, 1) := by decide +kernel
theorem dX3_reckon_161 : decode cX3_reckon 161 = .ok (.iaload, 1) := by decide +kernel
theorem dX3_reckon_162 : decode cX3_reckon 162 = .ok (.ifCond .ne 7, 3) := by decide +kernel
theorem dX3_reckon_165 : decode cX3_reckon 165 = .ok (.iconst 1, 1) := by decide +kernel
theorem dX3_reckon_166 : decode cX3_reckon 166 = .ok (.goto 4, 3) := by decide +kernel
theorem dX3_reckon_169 : decode cX3_reckon 169 = .ok (.iconst 0, 1) := by decide +kernel
theorem dX3_reckon_170 : decode cX3_reckon 170 = .ok (.iastore, 1) := by decide +kernel
theorem dX3_reckon_171 : decode cX3_reckon 171 = .ok (.goto 139, 3) := by decide +kernel
theorem dX3_reckon_174 : decode cX3_reckon 174 = .ok (.iload 6, 2) := by decide +kernel
theorem dX3_reckon_176 : decode cX3_reckon 176 = .ok (.bipush 124, 2) := by decide +kernel
theorem dX3_reckon_178 : decode cX3_reckon 178 = .ok (.if_icmp .eq 10, 3) := by decide +kernel
theorem dX3_reckon_181 : decode cX3_reckon 181 = .ok (.iload 6, 2) := by decide +kernel
theorem dX3_reckon_183 : decode cX3_reckon 183 = .ok (.bipush 38, 2) := by decide +kernel
theorem dX3_reckon_185 : decode cX3_reckon 185 = .ok (.if_icmp .ne 51, 3) := by decide +kernel
theorem dX3_reckon_188 : decode cX3_reckon 188 = .ok (.aload_n 0, 1) := by decide +kernel
theorem dX3_reckon_189 : decode cX3_reckon 189 = .ok (.getfield 38, 3) := by decide +kernel
theorem dX3_reckon_192 : decode cX3_reckon 192 = .ok (.iload_n 3, 1) := by decide +kernel
theorem dX3_reckon_193 : decode cX3_reckon 193 = .ok (.iconst 1, 1) := by decide +kernel
theorem dX3_reckon_194 : decode cX3_reckon 194 = .ok (.isub, 1) := by decide +kernel
theorem dX3_reckon_195 : decode cX3_reckon 195 = .ok (.iaload, 1) := by decide +kernel
theorem dX3_reckon_196 : decode cX3_reckon 196 = .ok (.ifCond .eq 7, 3) := by decide +kernel
theorem dX3_reckon_199 : decode cX3_reckon 199 = .ok (.iconst 1, 1) := by decide +kernel
theorem dX3_reckon_200 : decode cX3_reckon 200 = .ok (.goto 4, 3) := by decide +kernel
theorem dX3_reckon_203 : decode cX3_reckon 203 = .ok (.iconst 0, 1) := by decide +kernel
theorem dX3_reckon_204 : decode cX3_reckon 204 = .ok (.istore 8, 2) := by decide +kernel
theorem dX3_reckon_206 : decode cX3_reckon 206 = .ok (.iload 8, 2) := by decide +kernel
theorem dX3_reckon_208 : decode cX3_reckon 208 = .ok (.iload 6, 2) := by decide +kernel
theorem dX3_reckon_210 : decode cX3_reckon 210 = .ok (.bipush 124, 2) := by decide +kernel
theorem dX3_reckon_212 : decode cX3_reckon 212 = .ok (.if_icmp .ne 7, 3) := by decide +kernel
theorem dX3_reckon_215 : decode cX3_reckon 215 = .ok (.iconst 1, 1) := by decide +kernel
theorem dX3_reckon_216 : decode cX3_reckon 216 = .ok (.goto 4, 3) := by decide +kernel
theorem dX3_reckon_219 : decode cX3_reckon 219 = .ok (.iconst 0, 1) := by decide +kernel
theorem dX3_reckon_220 : decode cX3_reckon 220 = .ok (.if_icmp .ne 10, 3) := by decide +kernel
theorem dX3_reckon_223 : decode cX3_reckon 223 = .ok (.iload 7, 2) := by decide +kernel
theorem dX3_reckon_225 : decode cX3_reckon 225 = .ok (.istore 4, 2) := by decide +kernel
theorem dX3_reckon_227 : decode cX3_reckon 227 = .ok (.goto 6, 3) := by decide +kernel
theorem dX3_reckon_230 : decode cX3_reckon 230 = .ok (.iinc 3 (-1), 3) := by decide +kernel
theorem dX3_reckon_233 : decode cX3_reckon 233 = .ok (.goto 77, 3) := by decide +kernel
theorem dX3_reckon_236 : decode cX3_reckon 236 = .ok (.iload 6, 2) := by decide +kernel
theorem dX3_reckon_238 : decode cX3_reckon 238 = .ok (.bipush 47, 2) := by decide +kernel
theorem dX3_reckon_240 : decode cX3_reckon 240 = .ok (.if_icmp .eq 10, 3) := by decide +kernel
theorem dX3_reckon_243 : decode cX3_reckon 243 = .ok (.iload 6, 2) := by decide +kernel
theorem dX3_reckon_245 : decode cX3_reckon 245 = .ok (.bipush 37, 2) := by decide +kernel
theorem dX3_reckon_247 : decode cX3_reckon 247 = .ok (.if_icmp .ne 18, 3) := by decide +kernel
theorem dX3_reckon_250 : decode cX3_reckon 250 = .ok (.aload_n 0, 1) := by decide +kernel
theorem dX3_reckon_251 : decode cX3_reckon 251 = .ok (.getfield 38, 3) := by decide +kernel
theorem dX3_reckon_254 : decode cX3_reckon 254 = .ok (.iload_n 3, 1) := by decide +kernel
theorem dX3_reckon_255 : decode cX3_reckon 255 = .ok (.iconst 1, 1) := by decide +kernel
theorem dX3_reckon_256 : decode cX3_reckon 256 = .ok (.isub, 1) := by decide +kernel
theorem dX3_reckon_257 : decode cX3_reckon 257 = .ok (.iaload, 1) := by decide +kernel
theorem dX3_reckon_258 : decode cX3_reckon 258 = .ok (.ifCond .ne 7, 3) := by decide +kernel
theorem dX3_reckon_261 : decode cX3_reckon 261 = .ok (.iconst 1, 1) := by decide +kernel
theorem dX3_reckon_262 : decode cX3_reckon 262 = .ok (.goto 4, 3) := by decide +kernel
theorem dX3_reckon_265 : decode cX3_reckon 265 = .ok (.iconst 0, 1) := by decide +kernel
theorem dX3_reckon_266 : decode cX3_reckon 266 = .ok (.istore 8, 2) := by decide +kernel
theorem dX3_reckon_268 : decode cX3_reckon 268 = .ok (.iload_n 3, 1) := by decide +kernel
theorem dX3_reckon_269 : decode cX3_reckon 269 = .ok (.iconst 2, 1) := by decide +kernel
theorem dX3_reckon_270 : decode cX3_reckon 270 = .ok (.if_icmp .lt 8, 3) := by decide +kernel
theorem dX3_reckon_273 : decode cX3_reckon 273 = .ok (.iload 8, 2) := by decide +kernel
theorem dX3_reckon_275 : decode cX3_reckon 275 = .ok (.ifCond .eq 5, 3) := by decide +kernel
theorem dX3_reckon_278 : decode cX3_reckon 278 = .ok (.iconst 0, 1) := by decide +kernel
theorem dX3_reckon_279 : decode cX3_reckon 279 = .ok (.ireturn, 1) := by decide +kernel
theorem dX3_reckon_280 : decode cX3_reckon 280 = .ok (.iinc 3 (-1), 3) := by decide +kernel
theorem dX3_reckon_283 : decode cX3_reckon 283 = .ok (.aload_n 0, 1) := by decide +kernel
theorem dX3_reckon_284 : decode cX3_reckon 284 = .ok (.getfield 38, 3) := by decide +kernel
theorem dX3_reckon_287 : decode cX3_reckon 287 = .ok (.iload_n 3, 1) := by decide +kernel
theorem dX3_reckon_288 : decode cX3_reckon 288 = .ok (.iconst 1, 1) := by decide +kernel
theorem dX3_reckon_289 : decode cX3_reckon 289 = .ok (.isub, 1) := by decide +kernel
theorem dX3_reckon_290 : decode cX3_reckon 290 = .ok (.iload 6, 2) := by decide +kernel
theorem dX3_reckon_292 : decode cX3_reckon 292 = .ok (.aload_n 0, 1) := by decide +kernel
theorem dX3_reckon_293 : decode cX3_reckon 293 = .ok (.getfield 38, 3) := by decide +kernel
theorem dX3_reckon_296 : decode cX3_reckon 296 = .ok (.iload_n 3, 1) := by decide +kernel
theorem dX3_reckon_297 : decode cX3_reckon 297 = .ok (.iconst 1, 1) := by decide +kernel
theorem dX3_reckon_298 : decode cX3_reckon 298 = .ok (.isub, 1) := by decide +kernel
theorem dX3_reckon_299 : decode cX3_reckon 299 = .ok (.iaload, 1) := by decide +kernel
theorem dX3_reckon_300 : decode cX3_reckon 300 = .ok (.aload_n 0, 1) := by decide +kernel
theorem dX3_reckon_301 : decode cX3_reckon 301 = .ok (.getfield 38, 3) := by decide +kernel
theorem dX3_reckon_304 : decode cX3_reckon 304 = .ok (.iload_n 3, 1) := by decide +kernel
theorem dX3_reckon_305 : decode cX3_reckon 305 = .ok (.iaload, 1) := by decide +kernel
theorem dX3_reckon_306 : decode cX3_reckon 306 = .ok (.invokestatic 63, 3) := by decide +kernel
theorem dX3_reckon_309 : decode cX3_reckon 309 = .ok (.iastore, 1) := by decide +kernel
theorem dX3_reckon_310 : decode cX3_reckon 310 = .ok (.iinc 5 1, 3) := by decide +kernel
theorem dX3_reckon_313 : decode cX3_reckon 313 = .ok (.goto (-305), 3) := by decide +kernel
theorem dX3_reckon_316 : decode cX3_reckon 316 = .ok (.iload_n 3, 1) := by decide +kernel
theorem dX3_reckon_317 : decode cX3_reckon 317 = .ok (.ifCond .le 14, 3) := by decide +kernel
theorem dX3_reckon_320 : decode cX3_reckon 320 = .ok (.aload_n 0, 1) := by decide +kernel
theorem dX3_reckon_321 : decode cX3_reckon 321 = .ok (.getfield 38, 3) := by decide +kernel
theorem dX3_reckon_324 : decode cX3_reckon 324 = .ok (.iload_n 3, 1) := by decide +kernel
theorem dX3_reckon_325 : decode cX3_reckon 325 = .ok (.iconst 1, 1) := by decide +kernel
theorem dX3_reckon_326 : decode cX3_reckon 326 = .ok (.isub, 1) := by decide +kernel
theorem dX3_reckon_327 : decode cX3_reckon 327 = .ok (.iaload, 1) := by decide +kernel
theorem dX3_reckon_328 : decode cX3_reckon 328 = .ok (.goto 4, 3) := by decide +kernel
theorem dX3_reckon_331 : decode cX3_reckon 331 = .ok (.iconst 0, 1) := by decide +kernel
theorem dX3_reckon_332 : decode cX3_reckon 332 = .ok (.ireturn, 1) := by decide +kernel
theorem dX3_joined_0 : decode cX3_joined 0 = .ok (.iload_n 0, 1) := by decide +kernel
theorem dX3_joined_1 : decode cX3_joined 1 = .ok (.lookupswitch 125 #[(37, 91), (42, 75), (43, 67), (45, 71), (47, 79), (60, 103), (62, 114)], 67) := by decide +kernel
theorem dX3_joined_68 : decode cX3_joined 68 = .ok (.iload_n 1, 1) := by decide +kernel
theorem dX3_joined_69 : decode cX3_joined 69 = .ok (.iload_n 2, 1) := by decide +kernel
theorem dX3_joined_70 : decode cX3_joined 70 = .ok (.iadd, 1) := by decide +kernel
theorem dX3_joined_71 : decode cX3_joined 71 = .ok (.ireturn, 1) := by decide +kernel
theorem dX3_joined_72 : decode cX3_joined 72 = .ok (.iload_n 1, 1) := by decide +kernel
theorem dX3_joined_73 : decode cX3_joined 73 = .ok (.iload_n 2, 1) := by decide +kernel
theorem dX3_joined_74 : decode cX3_joined 74 = .ok (.isub, 1) := by decide +kernel
theorem dX3_joined_75 : decode cX3_joined 75 = .ok (.ireturn, 1) := by decide +kernel
theorem dX3_joined_76 : decode cX3_joined 76 = .ok (.iload_n 1, 1) := by decide +kernel
theorem dX3_joined_77 : decode cX3_joined 77 = .ok (.iload_n 2, 1) := by decide +kernel
theorem dX3_joined_78 : decode cX3_joined 78 = .ok (.imul, 1) := by decide +kernel
theorem dX3_joined_79 : decode cX3_joined 79 = .ok (.ireturn, 1) := by decide +kernel
theorem dX3_joined_80 : decode cX3_joined 80 = .ok (.iload_n 2, 1) := by decide +kernel
theorem dX3_joined_81 : decode cX3_joined 81 = .ok (.ifCond .ne 7, 3) := by decide +kernel
theorem dX3_joined_84 : decode cX3_joined 84 = .ok (.iconst 0, 1) := by decide +kernel
theorem dX3_joined_85 : decode cX3_joined 85 = .ok (.goto 6, 3) := by decide +kernel
theorem dX3_joined_88 : decode cX3_joined 88 = .ok (.iload_n 1, 1) := by decide +kernel
theorem dX3_joined_89 : decode cX3_joined 89 = .ok (.iload_n 2, 1) := by decide +kernel
theorem dX3_joined_90 : decode cX3_joined 90 = .ok (.idiv, 1) := by decide +kernel
theorem dX3_joined_91 : decode cX3_joined 91 = .ok (.ireturn, 1) := by decide +kernel
theorem dX3_joined_92 : decode cX3_joined 92 = .ok (.iload_n 2, 1) := by decide +kernel
theorem dX3_joined_93 : decode cX3_joined 93 = .ok (.ifCond .ne 7, 3) := by decide +kernel
theorem dX3_joined_96 : decode cX3_joined 96 = .ok (.iconst 0, 1) := by decide +kernel
theorem dX3_joined_97 : decode cX3_joined 97 = .ok (.goto 6, 3) := by decide +kernel
theorem dX3_joined_100 : decode cX3_joined 100 = .ok (.iload_n 1, 1) := by decide +kernel
theorem dX3_joined_101 : decode cX3_joined 101 = .ok (.iload_n 2, 1) := by decide +kernel
theorem dX3_joined_102 : decode cX3_joined 102 = .ok (.irem, 1) := by decide +kernel
theorem dX3_joined_103 : decode cX3_joined 103 = .ok (.ireturn, 1) := by decide +kernel
theorem dX3_joined_104 : decode cX3_joined 104 = .ok (.iload_n 1, 1) := by decide +kernel
theorem dX3_joined_105 : decode cX3_joined 105 = .ok (.iload_n 2, 1) := by decide +kernel
theorem dX3_joined_106 : decode cX3_joined 106 = .ok (.if_icmp .ge 7, 3) := by decide +kernel
theorem dX3_joined_109 : decode cX3_joined 109 = .ok (.iconst 1, 1) := by decide +kernel
theorem dX3_joined_110 : decode cX3_joined 110 = .ok (.goto 4, 3) := by decide +kernel
theorem dX3_joined_113 : decode cX3_joined 113 = .ok (.iconst 0, 1) := by decide +kernel
theorem dX3_joined_114 : decode cX3_joined 114 = .ok (.ireturn, 1) := by decide +kernel
theorem dX3_joined_115 : decode cX3_joined 115 = .ok (.iload_n 1, 1) := by decide +kernel
theorem dX3_joined_116 : decode cX3_joined 116 = .ok (.iload_n 2, 1) := by decide +kernel
theorem dX3_joined_117 : decode cX3_joined 117 = .ok (.if_icmp .le 7, 3) := by decide +kernel
theorem dX3_joined_120 : decode cX3_joined 120 = .ok (.iconst 1, 1) := by decide +kernel
theorem dX3_joined_121 : decode cX3_joined 121 = .ok (.goto 4, 3) := by decide +kernel
theorem dX3_joined_124 : decode cX3_joined 124 = .ok (.iconst 0, 1) := by decide +kernel
theorem dX3_joined_125 : decode cX3_joined 125 = .ok (.ireturn, 1) := by decide +kernel
theorem dX3_joined_126 : decode cX3_joined 126 = .ok (.iload_n 1, 1) := by decide +kernel
theorem dX3_joined_127 : decode cX3_joined 127 = .ok (.iload_n 2, 1) := by decide +kernel
theorem dX3_joined_128 : decode cX3_joined 128 = .ok (.if_icmp .ne 7, 3) := by decide +kernel
theorem dX3_joined_131 : decode cX3_joined 131 = .ok (.iconst 1, 1) := by decide +kernel
theorem dX3_joined_132 : decode cX3_joined 132 = .ok (.goto 4, 3) := by decide +kernel
theorem dX3_joined_135 : decode cX3_joined 135 = .ok (.iconst 0, 1) := by decide +kernel
theorem dX3_joined_136 : decode cX3_joined 136 = .ok (.ireturn, 1) := by decide +kernel
theorem dX4_init_0 : decode cX4_init 0 = .ok (.aload_n 0, 1) := by decide +kernel
theorem dX4_init_1 : decode cX4_init 1 = .ok (.invokespecial 3, 3) := by decide +kernel
theorem dX4_init_4 : decode cX4_init 4 = .ok (.aload_n 0, 1) := by decide +kernel
theorem dX4_init_5 : decode cX4_init 5 = .ok (.new 9, 3) := by decide +kernel
theorem dX4_init_8 : decode cX4_init 8 = .ok (.dup, 1) := by decide +kernel
theorem dX4_init_9 : decode cX4_init 9 = .ok (.invokespecial 11, 3) := by decide +kernel
theorem dX4_init_12 : decode cX4_init 12 = .ok (.putfield 12, 3) := by decide +kernel
theorem dX4_init_15 : decode cX4_init 15 = .ok (.aload_n 0, 1) := by decide +kernel
theorem dX4_init_16 : decode cX4_init 16 = .ok (.aload_n 0, 1) := by decide +kernel
theorem dX4_init_17 : decode cX4_init 17 = .ok (.getfield 12, 3) := by decide +kernel
theorem dX4_init_20 : decode cX4_init 20 = .ok (.getfield 18, 3) := by decide +kernel
theorem dX4_init_23 : decode cX4_init 23 = .ok (.putfield 22, 3) := by decide +kernel
theorem dX4_init_26 : decode cX4_init 26 = .ok (.aload_n 0, 1) := by decide +kernel
theorem dX4_init_27 : decode cX4_init 27 = .ok (.iconst 0, 1) := by decide +kernel
theorem dX4_init_28 : decode cX4_init 28 = .ok (.putfield 25, 3) := by decide +kernel
theorem dX4_init_31 : decode cX4_init 31 = .ok (.aload_n 0, 1) := by decide +kernel
theorem dX4_init_32 : decode cX4_init 32 = .ok (.iconst 0, 1) := by decide +kernel
theorem dX4_init_33 : decode cX4_init 33 = .ok (.putfield 29, 3) := by decide +kernel
theorem dX4_init_36 : decode cX4_init 36 = .ok (.aload_n 0, 1) := by decide +kernel
theorem dX4_init_37 : decode cX4_init 37 = .ok (.iconst 0, 1) := by decide +kernel
theorem dX4_init_38 : decode cX4_init 38 = .ok (.putfield 32, 3) := by decide +kernel
theorem dX4_init_41 : decode cX4_init 41 = .ok (.aload_n 0, 1) := by decide +kernel
theorem dX4_init_42 : decode cX4_init 42 = .ok (.iconst 0, 1) := by decide +kernel
theorem dX4_init_43 : decode cX4_init 43 = .ok (.putfield 35, 3) := by decide +kernel
theorem dX4_init_46 : decode cX4_init 46 = .ok (.return_, 1) := by decide +kernel
theorem dX4_read_0 : decode cX4_read 0 = .ok (.aload_n 0, 1) := by decide +kernel
theorem dX4_read_1 : decode cX4_read 1 = .ok (.aload_n 1, 1) := by decide +kernel
theorem dX4_read_2 : decode cX4_read 2 = .ok (.putfield 22, 3) := by decide +kernel
theorem dX4_read_5 : decode cX4_read 5 = .ok (.aload_n 0, 1) := by decide +kernel
theorem dX4_read_6 : decode cX4_read 6 = .ok (.iload_n 2, 1) := by decide +kernel
theorem dX4_read_7 : decode cX4_read 7 = .ok (.aload_n 1, 1) := by decide +kernel
theorem dX4_read_8 : decode cX4_read 8 = .ok (.arraylength, 1) := by decide +kernel
theorem dX4_read_9 : decode cX4_read 9 = .ok (.invokestatic 38, 3) := by decide +kernel
theorem dX4_read_12 : decode cX4_read 12 = .ok (.putfield 25, 3) := by decide +kernel
theorem dX4_read_15 : decode cX4_read 15 = .ok (.aload_n 0, 1) := by decide +kernel
theorem dX4_read_16 : decode cX4_read 16 = .ok (.iconst 0, 1) := by decide +kernel
theorem dX4_read_17 : decode cX4_read 17 = .ok (.putfield 29, 3) := by decide +kernel
theorem dX4_read_20 : decode cX4_read 20 = .ok (.aload_n 0, 1) := by decide +kernel
theorem dX4_read_21 : decode cX4_read 21 = .ok (.iconst 0, 1) := by decide +kernel
theorem dX4_read_22 : decode cX4_read 22 = .ok (.putfield 32, 3) := by decide +kernel
theorem dX4_read_25 : decode cX4_read 25 = .ok (.aload_n 0, 1) := by decide +kernel
theorem dX4_read_26 : decode cX4_read 26 = .ok (.iconst 0, 1) := by decide +kernel
theorem dX4_read_27 : decode cX4_read 27 = .ok (.putfield 35, 3) := by decide +kernel
theorem dX4_read_30 : decode cX4_read 30 = .ok (.aload_n 0, 1) := by decide +kernel
theorem dX4_read_31 : decode cX4_read 31 = .ok (.getfield 12, 3) := by decide +kernel
theorem dX4_read_34 : decode cX4_read 34 = .ok (.iconst 0, 1) := by decide +kernel
theorem dX4_read_35 : decode cX4_read 35 = .ok (.putfield 44, 3) := by decide +kernel
theorem dX4_read_38 : decode cX4_read 38 = .ok (.iconst 0, 1) := by decide +kernel
theorem dX4_read_39 : decode cX4_read 39 = .ok (.istore_n 3, 1) := by decide +kernel
theorem dX4_read_40 : decode cX4_read 40 = .ok (.iload_n 3, 1) := by decide +kernel
theorem dX4_read_41 : decode cX4_read 41 = .ok (.bipush 16, 2) := by decide +kernel
theorem dX4_read_43 : decode cX4_read 43 = .ok (.if_icmp .gt 51, 3) := by decide +kernel
theorem dX4_read_46 : decode cX4_read 46 = .ok (.aload_n 0, 1) := by decide +kernel
theorem dX4_read_47 : decode cX4_read 47 = .ok (.invokevirtual 47, 3) := by decide +kernel
theorem dX4_read_50 : decode cX4_read 50 = .ok (.ifCond .ne 8, 3) := by decide +kernel
theorem dX4_read_53 : decode cX4_read 53 = .ok (.aload_n 0, 1) := by decide +kernel
theorem dX4_read_54 : decode cX4_read 54 = .ok (.getfield 35, 3) := by decide +kernel
theorem dX4_read_57 : decode cX4_read 57 = .ok (.ireturn, 1) := by decide +kernel
theorem dX4_read_58 : decode cX4_read 58 = .ok (.aload_n 0, 1) := by decide +kernel
theorem dX4_read_59 : decode cX4_read 59 = .ok (.invokevirtual 51, 3) := by decide +kernel
theorem dX4_read_62 : decode cX4_read 62 = .ok (.iconst (-1), 1) := by decide +kernel
theorem dX4_read_63 : decode cX4_read 63 = .ok (.if_icmp .ne 11, 3) := by decide +kernel
theorem dX4_read_66 : decode cX4_read 66 = .ok (.aload_n 0, 1) := by decide +kernel
theorem dX4_read_67 : decode cX4_read 67 = .ok (.getfield 12, 3) := by decide +kernel
theorem dX4_read_70 : decode cX4_read 70 = .ok (.getfield 44, 3) := by decide +kernel
theorem dX4_read_73 : decode cX4_read 73 = .ok (.ireturn, 1) := by decide +kernel
theorem dX4_read_74 : decode cX4_read 74 = .ok (.aload_n 0, 1) := by decide +kernel
theorem dX4_read_75 : decode cX4_read 75 = .ok (.bipush 59, 2) := by decide +kernel
theorem dX4_read_77 : decode cX4_read 77 = .ok (.invokevirtual 55, 3) := by decide +kernel
theorem dX4_read_80 : decode cX4_read 80 = .ok (.ifCond .ne 8, 3) := by decide +kernel
theorem dX4_read_83 : decode cX4_read 83 = .ok (.aload_n 0, 1) := by decide +kernel
theorem dX4_read_84 : decode cX4_read 84 = .ok (.getfield 35, 3) := by decide +kernel
theorem dX4_read_87 : decode cX4_read 87 = .ok (.ireturn, 1) := by decide +kernel
theorem dX4_read_88 : decode cX4_read 88 = .ok (.iinc 3 1, 3) := by decide +kernel
theorem dX4_read_91 : decode cX4_read 91 = .ok (.goto (-51), 3) := by decide +kernel
theorem dX4_read_94 : decode cX4_read 94 = .ok (.aload_n 0, 1) := by decide +kernel
theorem dX4_read_95 : decode cX4_read 95 = .ok (.getfield 35, 3) := by decide +kernel
theorem dX4_read_98 : decode cX4_read 98 = .ok (.ireturn, 1) := by decide +kernel
theorem dX4_next_0 : decode cX4_next 0 = .ok (.aload_n 0, 1) := by decide +kernel
theorem dX4_next_1 : decode cX4_next 1 = .ok (.getfield 29, 3) := by decide +kernel
theorem dX4_next_4 : decode cX4_next 4 = .ok (.ifCond .lt 26, 3) := by decide +kernel
theorem dX4_next_7 : decode cX4_next 7 = .ok (.aload_n 0, 1) := by decide +kernel
theorem dX4_next_8 : decode cX4_next 8 = .ok (.getfield 29, 3) := by decide +kernel
theorem dX4_next_11 : decode cX4_next 11 = .ok (.aload_n 0, 1) := by decide +kernel
theorem dX4_next_12 : decode cX4_next 12 = .ok (.getfield 25, 3) := by decide +kernel
theorem dX4_next_15 : decode cX4_next 15 = .ok (.if_icmp .ge 15, 3) := by decide +kernel
theorem dX4_next_18 : decode cX4_next 18 = .ok (.aload_n 0, 1) := by decide +kernel
theorem dX4_next_19 : decode cX4_next 19 = .ok (.getfield 22, 3) := by decide +kernel
theorem dX4_next_22 : decode cX4_next 22 = .ok (.aload_n 0, 1) := by decide +kernel
theorem dX4_next_23 : decode cX4_next 23 = .ok (.getfield 29, 3) := by decide +kernel
theorem dX4_next_26 : decode cX4_next 26 = .ok (.iaload, 1) := by decide +kernel
theorem dX4_next_27 : decode cX4_next 27 = .ok (.goto 4, 3) := by decide +kernel
theorem dX4_next_30 : decode cX4_next 30 = .ok (.iconst (-1), 1) := by decide +kernel
theorem dX4_next_31 : decode cX4_next 31 = .ok (.ireturn, 1) := by decide +kernel
theorem dX4_fails_0 : decode cX4_fails 0 = .ok (.aload_n 0, 1) := by decide +kernel
theorem dX4_fails_1 : decode cX4_fails 1 = .ok (.sipush (-1000), 3) := by decide +kernel
theorem dX4_fails_4 : decode cX4_fails 4 = .ok (.iload_n 1, 1) := by decide +kernel
theorem dX4_fails_5 : decode cX4_fails 5 = .ok (.imul, 1) := by decide +kernel
theorem dX4_fails_6 : decode cX4_fails 6 = .ok (.aload_n 0, 1) := by decide +kernel
theorem dX4_fails_7 : decode cX4_fails 7 = .ok (.getfield 29, 3) := by decide +kernel
theorem dX4_fails_10 : decode cX4_fails 10 = .ok (.isub, 1) := by decide +kernel
theorem dX4_fails_11 : decode cX4_fails 11 = .ok (.putfield 35, 3) := by decide +kernel
theorem dX4_fails_14 : decode cX4_fails 14 = .ok (.iconst 0, 1) := by decide +kernel
theorem dX4_fails_15 : decode cX4_fails 15 = .ok (.ireturn, 1) := by decide +kernel
theorem dX4_passes_0 : decode cX4_passes 0 = .ok (.aload_n 0, 1) := by decide +kernel
theorem dX4_passes_1 : decode cX4_passes 1 = .ok (.invokevirtual 51, 3) := by decide +kernel
theorem dX4_passes_4 : decode cX4_passes 4 = .ok (.iload_n 1, 1) := by decide +kernel
theorem dX4_passes_5 : decode cX4_passes 5 = .ok (.if_icmp .eq 9, 3) := by decide +kernel
theorem dX4_passes_8 : decode cX4_passes 8 = .ok (.aload_n 0, 1) := by decide +kernel
theorem dX4_passes_9 : decode cX4_passes 9 = .ok (.iconst 1, 1) := by decide +kernel
theorem dX4_passes_10 : decode cX4_passes 10 = .ok (.invokevirtual 59, 3) := by decide +kernel
theorem dX4_passes_13 : decode cX4_passes 13 = .ok (.ireturn, 1) := by decide +kernel
theorem dX4_passes_14 : decode cX4_passes 14 = .ok (.aload_n 0, 1) := by decide +kernel
theorem dX4_passes_15 : decode cX4_passes 15 = .ok (.dup, 1) := by decide +kernel
theorem dX4_passes_16 : decode cX4_passes 16 = .ok (.getfield 29, 3) := by decide +kernel
theorem dX4_passes_19 : decode cX4_passes 19 = .ok (.iconst 1, 1) := by decide +kernel
theorem dX4_passes_20 : decode cX4_passes 20 = .ok (.iadd, 1) := by decide +kernel
theorem dX4_passes_21 : decode cX4_passes 21 = .ok (.putfield 29, 3) := by decide +kernel
theorem dX4_passes_24 : decode cX4_passes 24 = .ok (.iconst 1, 1) := by decide +kernel
theorem dX4_passes_25 : decode cX4_passes 25 = .ok (.ireturn, 1) := by decide +kernel
theorem dX4_rule_0 : decode cX4_rule 0 = .ok (.aload_n 0, 1) := by decide +kernel
theorem dX4_rule_1 : decode cX4_rule 1 = .ok (.invokevirtual 51, 3) := by decide +kernel
theorem dX4_rule_4 : decode cX4_rule 4 = .ok (.istore_n 1, 1) := by decide +kernel
theorem dX4_rule_5 : decode cX4_rule 5 = .ok (.ldc 62, 2) := by decide +kernel
theorem dX4_rule_7 : decode cX4_rule 7 = .ok (.iload_n 1, 1) := by decide +kernel
theorem dX4_rule_8 : decode cX4_rule 8 = .ok (.invokestatic 64, 3) := by decide +kernel
theorem dX4_rule_11 : decode cX4_rule 11 = .ok (.ifCond .ge 9, 3) := by decide +kernel
theorem dX4_rule_14 : decode cX4_rule 14 = .ok (.aload_n 0, 1) := by decide +kernel
theorem dX4_rule_15 : decode cX4_rule 15 = .ok (.iconst 1, 1) := by decide +kernel
theorem dX4_rule_16 : decode cX4_rule 16 = .ok (.invokevirtual 59, 3) := by decide +kernel
theorem dX4_rule_19 : decode cX4_rule 19 = .ok (.ireturn, 1) := by decide +kernel
theorem dX4_rule_20 : decode cX4_rule 20 = .ok (.aload_n 0, 1) := by decide +kernel
theorem dX4_rule_21 : decode cX4_rule 21 = .ok (.getfield 12, 3) := by decide +kernel
theorem dX4_rule_24 : decode cX4_rule 24 = .ok (.getfield 44, 3) := by decide +kernel
theorem dX4_rule_27 : decode cX4_rule 27 = .ok (.istore_n 2, 1) := by decide +kernel
theorem dX4_rule_28 : decode cX4_rule 28 = .ok (.iload_n 2, 1) := by decide +kernel
theorem dX4_rule_29 : decode cX4_rule 29 = .ok (.ifCond .lt 9, 3) := by decide +kernel
theorem dX4_rule_32 : decode cX4_rule 32 = .ok (.iload_n 2, 1) := by decide +kernel
theorem dX4_rule_33 : decode cX4_rule 33 = .ok (.bipush 16, 2) := by decide +kernel
theorem dX4_rule_35 : decode cX4_rule 35 = .ok (.if_icmp .lt 9, 3) := by decide +kernel
theorem dX4_rule_38 : decode cX4_rule 38 = .ok (.aload_n 0, 1) := by decide +kernel
theorem dX4_rule_39 : decode cX4_rule 39 = .ok (.iconst 4, 1) := by decide +kernel
theorem dX4_rule_40 : decode cX4_rule 40 = .ok (.invokevirtual 59, 3) := by decide +kernel
theorem dX4_rule_43 : decode cX4_rule 43 = .ok (.ireturn, 1) := by decide +kernel
theorem dX4_rule_44 : decode cX4_rule 44 = .ok (.aload_n 0, 1) := by decide +kernel
theorem dX4_rule_45 : decode cX4_rule 45 = .ok (.dup, 1) := by decide +kernel
theorem dX4_rule_46 : decode cX4_rule 46 = .ok (.getfield 29, 3) := by decide +kernel
theorem dX4_rule_49 : decode cX4_rule 49 = .ok (.iconst 1, 1) := by decide +kernel
theorem dX4_rule_50 : decode cX4_rule 50 = .ok (.iadd, 1) := by decide +kernel
theorem dX4_rule_51 : decode cX4_rule 51 = .ok (.putfield 29, 3) := by decide +kernel
theorem dX4_rule_54 : decode cX4_rule 54 = .ok (.aload_n 0, 1) := by decide +kernel
theorem dX4_rule_55 : decode cX4_rule 55 = .ok (.getfield 12, 3) := by decide +kernel
theorem dX4_rule_58 : decode cX4_rule 58 = .ok (.getfield 68, 3) := by decide +kernel
theorem dX4_rule_61 : decode cX4_rule 61 = .ok (.iload_n 2, 1) := by decide +kernel
theorem dX4_rule_62 : decode cX4_rule 62 = .ok (.iload_n 1, 1) := by decide +kernel
theorem dX4_rule_63 : decode cX4_rule 63 = .ok (.iastore, 1) := by decide +kernel
theorem dX4_rule_64 : decode cX4_rule 64 = .ok (.aload_n 0, 1) := by decide +kernel
theorem dX4_rule_65 : decode cX4_rule 65 = .ok (.getfield 12, 3) := by decide +kernel
theorem dX4_rule_68 : decode cX4_rule 68 = .ok (.getfield 71, 3) := by decide +kernel
theorem dX4_rule_71 : decode cX4_rule 71 = .ok (.iload_n 2, 1) := by decide +kernel
theorem dX4_rule_72 : decode cX4_rule 72 = .ok (.aload_n 0, 1) := by decide +kernel
theorem dX4_rule_73 : decode cX4_rule 73 = .ok (.getfield 32, 3) := by decide +kernel
theorem dX4_rule_76 : decode cX4_rule 76 = .ok (.iastore, 1) := by decide +kernel
theorem dX4_rule_77 : decode cX4_rule 77 = .ok (.iload_n 1, 1) := by decide +kernel
theorem dX4_rule_78 : decode cX4_rule 78 = .ok (.bipush 120, 2) := by decide +kernel
theorem dX4_rule_80 : decode cX4_rule 80 = .ok (.if_icmp .eq 13, 3) := by decide +kernel
theorem dX4_rule_83 : decode cX4_rule 83 = .ok (.aload_n 0, 1) := by decide +kernel
theorem dX4_rule_84 : decode cX4_rule 84 = .ok (.iconst 0, 1) := by decide +kernel
theorem dX4_rule_85 : decode cX4_rule 85 = .ok (.invokevirtual 74, 3) := by decide +kernel
theorem dX4_rule_88 : decode cX4_rule 88 = .ok (.ifCond .ne 5, 3) := by decide +kernel
theorem dX4_rule_91 : decode cX4_rule 91 = .ok (.iconst 0, 1) := by decide +kernel
theorem dX4_rule_92 : decode cX4_rule 92 = .ok (.ireturn, 1) := by decide +kernel
theorem dX4_rule_93 : decode cX4_rule 93 = .ok (.aload_n 0, 1) := by decide +kernel
theorem dX4_rule_94 : decode cX4_rule 94 = .ok (.getfield 12, 3) := by decide +kernel
theorem dX4_rule_97 : decode cX4_rule 97 = .ok (.getfield 77, 3) := by decide +kernel
theorem dX4_rule_100 : decode cX4_rule 100 = .ok (.iload_n 2, 1) := by decide +kernel
theorem dX4_rule_101 : decode cX4_rule 101 = .ok (.aload_n 0, 1) := by decide +kernel
theorem dX4_rule_102 : decode cX4_rule 102 = .ok (.getfield 32, 3) := by decide +kernel
theorem dX4_rule_105 : decode cX4_rule 105 = .ok (.iastore, 1) := by decide +kernel
theorem dX4_rule_106 : decode cX4_rule 106 = .ok (.aload_n 0, 1) := by decide +kernel
theorem dX4_rule_107 : decode cX4_rule 107 = .ok (.bipush 40, 2) := by decide +kernel
theorem dX4_rule_109 : decode cX4_rule 109 = .ok (.invokevirtual 55, 3) := by decide +kernel
theorem dX4_rule_112 : decode cX4_rule 112 = .ok (.ifCond .eq 20, 3) := by decide +kernel
theorem dX4_rule_115 : decode cX4_rule 115 = .ok (.aload_n 0, 1) := by decide +kernel
theorem dX4_rule_116 : decode cX4_rule 116 = .ok (.iconst 1, 1) := by decide +kernel
theorem dX4_rule_117 : decode cX4_rule 117 = .ok (.invokevirtual 80, 3) := by decide +kernel
theorem dX4_rule_120 : decode cX4_rule 120 = .ok (.ifCond .eq 12, 3) := by decide +kernel
theorem dX4_rule_123 : decode cX4_rule 123 = .ok (.aload_n 0, 1) := by decide +kernel
theorem dX4_rule_124 : decode cX4_rule 124 = .ok (.bipush 41, 2) := by decide +kernel
theorem dX4_rule_126 : decode cX4_rule 126 = .ok (.invokevirtual 55, 3) := by decide +kernel
theorem dX4_rule_129 : decode cX4_rule 129 = .ok (.ifCond .ne 5, 3) := by decide +kernel
theorem dX4_rule_132 : decode cX4_rule 132 = .ok (.iconst 0, 1) := by decide +kernel
theorem dX4_rule_133 : decode cX4_rule 133 = .ok (.ireturn, 1) := by decide +kernel
theorem dX4_rule_134 : decode cX4_rule 134 = .ok (.aload_n 0, 1) := by decide +kernel
theorem dX4_rule_135 : decode cX4_rule 135 = .ok (.getfield 12, 3) := by decide +kernel
theorem dX4_rule_138 : decode cX4_rule 138 = .ok (.getfield 83, 3) := by decide +kernel
theorem dX4_rule_141 : decode cX4_rule 141 = .ok (.iload_n 2, 1) := by decide +kernel
theorem dX4_rule_142 : decode cX4_rule 142 = .ok (.aload_n 0, 1) := by decide +kernel
theorem dX4_rule_143 : decode cX4_rule 143 = .ok (.getfield 32, 3) := by decide +kernel
theorem dX4_rule_146 : decode cX4_rule 146 = .ok (.iastore, 1) := by decide +kernel
theorem dX4_rule_147 : decode cX4_rule 147 = .ok (.aload_n 0, 1) := by decide +kernel
theorem dX4_rule_148 : decode cX4_rule 148 = .ok (.getfield 12, 3) := by decide +kernel
theorem dX4_rule_151 : decode cX4_rule 151 = .ok (.dup, 1) := by decide +kernel
theorem dX4_rule_152 : decode cX4_rule 152 = .ok (.getfield 44, 3) := by decide +kernel
theorem dX4_rule_155 : decode cX4_rule 155 = .ok (.iconst 1, 1) := by decide +kernel
theorem dX4_rule_156 : decode cX4_rule 156 = .ok (.iadd, 1) := by decide +kernel
theorem dX4_rule_157 : decode cX4_rule 157 = .ok (.putfield 44, 3) := by decide +kernel
theorem dX4_rule_160 : decode cX4_rule 160 = .ok (.iconst 1, 1) := by decide +kernel
theorem dX4_rule_161 : decode cX4_rule 161 = .ok (.ireturn, 1) := by decide +kernel
theorem dX4_choice_0 : decode cX4_choice 0 = .ok (.iconst (-1), 1) := by decide +kernel
theorem dX4_choice_1 : decode cX4_choice 1 = .ok (.istore_n 2, 1) := by decide +kernel
theorem dX4_choice_2 : decode cX4_choice 2 = .ok (.aload_n 0, 1) := by decide +kernel
theorem dX4_choice_3 : decode cX4_choice 3 = .ok (.iload_n 1, 1) := by decide +kernel
theorem dX4_choice_4 : decode cX4_choice 4 = .ok (.invokevirtual 86, 3) := by decide +kernel
theorem dX4_choice_7 : decode cX4_choice 7 = .ok (.ifCond .ne 5, 3) := by decide +kernel
theorem dX4_choice_10 : decode cX4_choice 10 = .ok (.iconst 0, 1) := by decide +kernel
theorem dX4_choice_11 : decode cX4_choice 11 = .ok (.ireturn, 1) := by decide +kernel
theorem dX4_choice_12 : decode cX4_choice 12 = .ok (.iconst 0, 1) := by decide +kernel
theorem dX4_choice_13 : decode cX4_choice 13 = .ok (.istore_n 3, 1) := by decide +kernel
theorem dX4_choice_14 : decode cX4_choice 14 = .ok (.iload_n 3, 1) := by decide +kernel
theorem dX4_choice_15 : decode cX4_choice 15 = .ok (.sipush 240, 3) := by decide +kernel
theorem dX4_choice_18 : decode cX4_choice 18 = .ok (.if_icmp .ge 93, 3) := by decide +kernel
theorem dX4_choice_21 : decode cX4_choice 21 = .ok (.aload_n 0, 1) := by decide +kernel
theorem dX4_choice_22 : decode cX4_choice 22 = .ok (.invokevirtual 51, 3) := by decide +kernel
theorem dX4_choice_25 : decode cX4_choice 25 = .ok (.bipush 124, 2) := by decide +kernel
theorem dX4_choice_27 : decode cX4_choice 27 = .ok (.if_icmp .eq 12, 3) := by decide +kernel
theorem dX4_choice_30 : decode cX4_choice 30 = .ok (.aload_n 0, 1) := by decide +kernel
theorem dX4_choice_31 : decode cX4_choice 31 = .ok (.invokevirtual 51, 3) := by decide +kernel
theorem dX4_choice_34 : decode cX4_choice 34 = .ok (.bipush 38, 2) := by decide +kernel
theorem dX4_choice_36 : decode cX4_choice 36 = .ok (.if_icmp .ne 75, 3) := by decide +kernel
theorem dX4_choice_39 : decode cX4_choice 39 = .ok (.aload_n 0, 1) := by decide +kernel
theorem dX4_choice_40 : decode cX4_choice 40 = .ok (.invokevirtual 51, 3) := by decide +kernel
theorem dX4_choice_43 : decode cX4_choice 43 = .ok (.istore 4, 2) := by decide +kernel
theorem dX4_choice_45 : decode cX4_choice 45 = .ok (.aload_n 0, 1) := by decide +kernel
theorem dX4_choice_46 : decode cX4_choice 46 = .ok (.dup, 1) := by decide +kernel
theorem dX4_choice_47 : decode cX4_choice 47 = .ok (.getfield 29, 3) := by decide +kernel
theorem dX4_choice_50 : decode cX4_choice 50 = .ok (.iconst 1, 1) := by decide +kernel
theorem dX4_choice_51 : decode cX4_choice 51 = .ok (.iadd, 1) := by decide +kernel
theorem dX4_choice_52 : decode cX4_choice 52 = .ok (.putfield 29, 3) := by decide +kernel
theorem dX4_choice_55 : decode cX4_choice 55 = .ok (.iload 4, 2) := by decide +kernel
theorem dX4_choice_57 : decode cX4_choice 57 = .ok (.bipush 124, 2) := by decide +kernel
theorem dX4_choice_59 : decode cX4_choice 59 = .ok (.if_icmp .ne 8, 3) := by decide +kernel
theorem dX4_choice_62 : decode cX4_choice 62 = .ok (.aload_n 0, 1) := by decide +kernel
theorem dX4_choice_63 : decode cX4_choice 63 = .ok (.iload_n 2, 1) := by decide +kernel
theorem dX4_choice_64 : decode cX4_choice 64 = .ok (.invokevirtual 89, 3) := by decide +kernel
theorem dX4_choice_67 : decode cX4_choice 67 = .ok (.aload_n 0, 1) := by decide +kernel
theorem dX4_choice_68 : decode cX4_choice 68 = .ok (.iload 4, 2) := by decide +kernel
theorem dX4_choice_70 : decode cX4_choice 70 = .ok (.iconst 0, 1) := by decide +kernel
theorem dX4_choice_71 : decode cX4_choice 71 = .ok (.invokevirtual 93, 3) := by decide +kernel
theorem dX4_choice_74 : decode cX4_choice 74 = .ok (.istore 5, 2) := by decide +kernel
theorem dX4_choice_76 : decode cX4_choice 76 = .ok (.aload_n 0, 1) := by decide +kernel
theorem dX4_choice_77 : decode cX4_choice 77 = .ok (.iload_n 1, 1) := by decide +kernel
theorem dX4_choice_78 : decode cX4_choice 78 = .ok (.invokevirtual 86, 3) := by decide +kernel
theorem dX4_choice_81 : decode cX4_choice 81 = .ok (.ifCond .ne 5, 3) := by decide +kernel
theorem dX4_choice_84 : decode cX4_choice 84 = .ok (.iconst 0, 1) := by decide +kernel
theorem dX4_choice_85 : decode cX4_choice 85 = .ok (.ireturn, 1) := by decide +kernel
theorem dX4_choice_86 : decode cX4_choice 86 = .ok (.iload 4, 2) := by decide +kernel
theorem dX4_choice_88 : decode cX4_choice 88 = .ok (.bipush 124, 2) := by decide +kernel
theorem dX4_choice_90 : decode cX4_choice 90 = .ok (.if_icmp .ne 9, 3) := by decide +kernel
theorem dX4_choice_93 : decode cX4_choice 93 = .ok (.iload 5, 2) := by decide +kernel
theorem dX4_choice_95 : decode cX4_choice 95 = .ok (.istore_n 2, 1) := by decide +kernel
theorem dX4_choice_96 : decode cX4_choice 96 = .ok (.goto 9, 3) := by decide +kernel
theorem dX4_choice_99 : decode cX4_choice 99 = .ok (.aload_n 0, 1) := by decide +kernel
theorem dX4_choice_100 : decode cX4_choice 100 = .ok (.iload 5, 2) := by decide +kernel
theorem dX4_choice_102 : decode cX4_choice 102 = .ok (.invokevirtual 89, 3) := by decide +kernel
theorem dX4_choice_105 : decode cX4_choice 105 = .ok (.iinc 3 1, 3) := by decide +kernel
theorem dX4_choice_108 : decode cX4_choice 108 = .ok (.goto (-94), 3) := by decide +kernel
theorem dX4_choice_111 : decode cX4_choice 111 = .ok (.aload_n 0, 1) := by decide +kernel
theorem dX4_choice_112 : decode cX4_choice 112 = .ok (.iload_n 2, 1) := by decide +kernel
theorem dX4_choice_113 : decode cX4_choice 113 = .ok (.invokevirtual 89, 3) := by decide +kernel
theorem dX4_choice_116 : decode cX4_choice 116 = .ok (.iconst 1, 1) := by decide +kernel
theorem dX4_choice_117 : decode cX4_choice 117 = .ok (.ireturn, 1) := by decide +kernel
theorem dX4_test_0 : decode cX4_test 0 = .ok (.aload_n 0, 1) := by decide +kernel
theorem dX4_test_1 : decode cX4_test 1 = .ok (.invokevirtual 51, 3) := by decide +kernel
theorem dX4_test_4 : decode cX4_test 4 = .ok (.istore_n 2, 1) := by decide +kernel
theorem dX4_test_5 : decode cX4_test 5 = .ok (.iload_n 2, 1) := by decide +kernel
theorem dX4_test_6 : decode cX4_test 6 = .ok (.bipush 33, 2) := by decide +kernel
theorem dX4_test_8 : decode cX4_test 8 = .ok (.if_icmp .eq 9, 3) := by decide +kernel
theorem dX4_test_11 : decode cX4_test 11 = .ok (.iload_n 2, 1) := by decide +kernel
theorem dX4_test_12 : decode cX4_test 12 = .ok (.bipush 40, 2) := by decide +kernel
theorem dX4_test_14 : decode cX4_test 14 = .ok (.if_icmp .ne 78, 3) := by decide +kernel
theorem dX4_test_17 : decode cX4_test 17 = .ok (.iload_n 1, 1) := by decide +kernel
theorem dX4_test_18 : decode cX4_test 18 = .ok (.bipush 6, 2) := by decide +kernel
theorem dX4_test_20 : decode cX4_test 20 = .ok (.if_icmp .lt 9, 3) := by decide +kernel
theorem dX4_test_23 : decode cX4_test 23 = .ok (.aload_n 0, 1) := by decide +kernel
theorem dX4_test_24 : decode cX4_test 24 = .ok (.iconst 5, 1) := by decide +kernel
theorem dX4_test_25 : decode cX4_test 25 = .ok (.invokevirtual 59, 3) := by decide +kernel
theorem dX4_test_28 : decode cX4_test 28 = .ok (.ireturn, 1) := by decide +kernel
theorem dX4_test_29 : decode cX4_test 29 = .ok (.aload_n 0, 1) := by decide +kernel
theorem dX4_test_30 : decode cX4_test 30 = .ok (.dup, 1) := by decide +kernel
theorem dX4_test_31 : decode cX4_test 31 = .ok (.getfield 29, 3) := by decide +kernel
theorem dX4_test_34 : decode cX4_test 34 = .ok (.iconst 1, 1) := by decide +kernel
theorem dX4_test_35 : decode cX4_test 35 = .ok (.iadd, 1) := by decide +kernel
theorem dX4_test_36 : decode cX4_test 36 = .ok (.putfield 29, 3) := by decide +kernel
theorem dX4_test_39 : decode cX4_test 39 = .ok (.iload_n 2, 1) := by decide +kernel
theorem dX4_test_40 : decode cX4_test 40 = .ok (.bipush 40, 2) := by decide +kernel
theorem dX4_test_42 : decode cX4_test 42 = .ok (.if_icmp .ne 28, 3) := by decide +kernel
theorem dX4_test_45 : decode cX4_test 45 = .ok (.aload_n 0, 1) := by decide +kernel
theorem dX4_test_46 : decode cX4_test 46 = .ok (.iload_n 1, 1) := by decide +kernel
theorem dX4_test_47 : decode cX4_test 47 = .ok (.iconst 1, 1) := by decide +kernel
theorem dX4_test_48 : decode cX4_test 48 = .ok (.iadd, 1) := by decide +kernel
theorem dX4_test_49 : decode cX4_test 49 = .ok (.invokevirtual 80, 3) := by decide +kernel
theorem dX4_test_52 : decode cX4_test 52 = .ok (.ifCond .eq 16, 3) := by decide +kernel
theorem dX4_test_55 : decode cX4_test 55 = .ok (.aload_n 0, 1) := by decide +kernel
theorem dX4_test_56 : decode cX4_test 56 = .ok (.bipush 41, 2) := by decide +kernel
theorem dX4_test_58 : decode cX4_test 58 = .ok (.invokevirtual 55, 3) := by decide +kernel
theorem dX4_test_61 : decode cX4_test 61 = .ok (.ifCond .eq 7, 3) := by decide +kernel
theorem dX4_test_64 : decode cX4_test 64 = .ok (.iconst 1, 1) := by decide +kernel
theorem dX4_test_65 : decode cX4_test 65 = .ok (.goto 4, 3) := by decide +kernel
theorem dX4_test_68 : decode cX4_test 68 = .ok (.iconst 0, 1) := by decide +kernel
theorem dX4_test_69 : decode cX4_test 69 = .ok (.ireturn, 1) := by decide +kernel
theorem dX4_test_70 : decode cX4_test 70 = .ok (.aload_n 0, 1) := by decide +kernel
theorem dX4_test_71 : decode cX4_test 71 = .ok (.iload_n 1, 1) := by decide +kernel
theorem dX4_test_72 : decode cX4_test 72 = .ok (.iconst 1, 1) := by decide +kernel
theorem dX4_test_73 : decode cX4_test 73 = .ok (.iadd, 1) := by decide +kernel
theorem dX4_test_74 : decode cX4_test 74 = .ok (.invokevirtual 86, 3) := by decide +kernel
theorem dX4_test_77 : decode cX4_test 77 = .ok (.ifCond .ne 5, 3) := by decide +kernel
theorem dX4_test_80 : decode cX4_test 80 = .ok (.iconst 0, 1) := by decide +kernel
theorem dX4_test_81 : decode cX4_test 81 = .ok (.ireturn, 1) := by decide +kernel
theorem dX4_test_82 : decode cX4_test 82 = .ok (.aload_n 0, 1) := by decide +kernel
theorem dX4_test_83 : decode cX4_test 83 = .ok (.bipush 33, 2) := by decide +kernel
theorem dX4_test_85 : decode cX4_test 85 = .ok (.iconst 0, 1) := by decide +kernel
theorem dX4_test_86 : decode cX4_test 86 = .ok (.invokevirtual 93, 3) := by decide +kernel
theorem dX4_test_89 : decode cX4_test 89 = .ok (.pop, 1) := by decide +kernel
theorem dX4_test_90 : decode cX4_test 90 = .ok (.iconst 1, 1) := by decide +kernel
theorem dX4_test_91 : decode cX4_test 91 = .ok (.ireturn, 1) := by decide +kernel
theorem dX4_test_92 : decode cX4_test 92 = .ok (.aload_n 0, 1) := by decide +kernel
theorem dX4_test_93 : decode cX4_test 93 = .ok (.iload_n 1, 1) := by decide +kernel
theorem dX4_test_94 : decode cX4_test 94 = .ok (.invokevirtual 74, 3) := by decide +kernel
theorem dX4_test_97 : decode cX4_test 97 = .ok (.ifCond .ne 5, 3) := by decide +kernel
theorem dX4_test_100 : decode cX4_test 100 = .ok (.iconst 0, 1) := by decide +kernel
theorem dX4_test_101 : decode cX4_test 101 = .ok (.ireturn, 1) := by decide +kernel
theorem dX4_test_102 : decode cX4_test 102 = .ok (.aload_n 0, 1) := by decide +kernel
theorem dX4_test_103 : decode cX4_test 103 = .ok (.invokevirtual 51, 3) := by decide +kernel
theorem dX4_test_106 : decode cX4_test 106 = .ok (.istore_n 3, 1) := by decide +kernel
theorem dX4_test_107 : decode cX4_test 107 = .ok (.iload_n 3, 1) := by decide +kernel
theorem dX4_test_108 : decode cX4_test 108 = .ok (.bipush 60, 2) := by decide +kernel
theorem dX4_test_110 : decode cX4_test 110 = .ok (.if_icmp .eq 21, 3) := by decide +kernel
theorem dX4_test_113 : decode cX4_test 113 = .ok (.iload_n 3, 1) := by decide +kernel
theorem dX4_test_114 : decode cX4_test 114 = .ok (.bipush 62, 2) := by decide +kernel
theorem dX4_test_116 : decode cX4_test 116 = .ok (.if_icmp .eq 15, 3) := by decide +kernel
theorem dX4_test_119 : decode cX4_test 119 = .ok (.iload_n 3, 1) := by decide +kernel
theorem dX4_test_120 : decode cX4_test 120 = .ok (.bipush 61, 2) := by decide +kernel
theorem dX4_test_122 : decode cX4_test 122 = .ok (.if_icmp .eq 9, 3) := by decide +kernel
theorem dX4_test_125 : decode cX4_test 125 = .ok (.aload_n 0, 1) := by decide +kernel
theorem dX4_test_126 : decode cX4_test 126 = .ok (.iconst 1, 1) := by decide +kernel
theorem dX4_test_127 : decode cX4_test 127 = .ok (.invokevirtual 59, 3) := by decide +kernel
theorem dX4_test_130 : decode cX4_test 130 = .ok (.ireturn, 1) := by decide +kernel
theorem dX4_test_131 : decode cX4_test 131 = .ok (.aload_n 0, 1) := by decide +kernel
theorem dX4_test_132 : decode cX4_test 132 = .ok (.dup, 1) := by decide +kernel
theorem dX4_test_133 : decode cX4_test 133 = .ok (.getfield 29, 3) := by decide +kernel
theorem dX4_test_136 : decode cX4_test 136 = .ok (.iconst 1, 1) := by decide +kernel
theorem dX4_test_137 : decode cX4_test 137 = .ok (.iadd, 1) := by decide +kernel
theorem dX4_test_138 : decode cX4_test 138 = .ok (.putfield 29, 3) := by decide +kernel
theorem dX4_test_141 : decode cX4_test 141 = .ok (.aload_n 0, 1) := by decide +kernel
theorem dX4_test_142 : decode cX4_test 142 = .ok (.iload_n 1, 1) := by decide +kernel
theorem dX4_test_143 : decode cX4_test 143 = .ok (.invokevirtual 74, 3) := by decide +kernel
theorem dX4_test_146 : decode cX4_test 146 = .ok (.ifCond .ne 5, 3) := by decide +kernel
theorem dX4_test_149 : decode cX4_test 149 = .ok (.iconst 0, 1) := by decide +kernel
theorem dX4_test_150 : decode cX4_test 150 = .ok (.ireturn, 1) := by decide +kernel
theorem dX4_test_151 : decode cX4_test 151 = .ok (.aload_n 0, 1) := by decide +kernel
theorem dX4_test_152 : decode cX4_test 152 = .ok (.iload_n 3, 1) := by decide +kernel
theorem dX4_test_153 : decode cX4_test 153 = .ok (.iconst 0, 1) := by decide +kernel
theorem dX4_test_154 : decode cX4_test 154 = .ok (.invokevirtual 93, 3) := by decide +kernel
theorem dX4_test_157 : decode cX4_test 157 = .ok (.pop, 1) := by decide +kernel
theorem dX4_test_158 : decode cX4_test 158 = .ok (.iconst 1, 1) := by decide +kernel
theorem dX4_test_159 : decode cX4_test 159 = .ok (.ireturn, 1) := by decide +kernel
theorem dX4_sum_0 : decode cX4_sum 0 = .ok (.iconst (-1), 1) := by decide +kernel
theorem dX4_sum_1 : decode cX4_sum 1 = .ok (.istore_n 2, 1) := by decide +kernel
theorem dX4_sum_2 : decode cX4_sum 2 = .ok (.aload_n 0, 1) := by decide +kernel
theorem dX4_sum_3 : decode cX4_sum 3 = .ok (.iload_n 1, 1) := by decide +kernel
theorem dX4_sum_4 : decode cX4_sum 4 = .ok (.invokevirtual 96, 3) := by decide +kernel
theorem dX4_sum_7 : decode cX4_sum 7 = .ok (.ifCond .ne 5, 3) := by decide +kernel
theorem dX4_sum_10 : decode cX4_sum 10 = .ok (.iconst 0, 1) := by decide +kernel
theorem dX4_sum_11 : decode cX4_sum 11 = .ok (.ireturn, 1) := by decide +kernel
theorem dX4_sum_12 : decode cX4_sum 12 = .ok (.iconst 0, 1) := by decide +kernel
theorem dX4_sum_13 : decode cX4_sum 13 = .ok (.istore_n 3, 1) := by decide +kernel
theorem dX4_sum_14 : decode cX4_sum 14 = .ok (.iload_n 3, 1) := by decide +kernel
theorem dX4_sum_15 : decode cX4_sum 15 = .ok (.sipush 240, 3) := by decide +kernel
theorem dX4_sum_18 : decode cX4_sum 18 = .ok (.if_icmp .ge 104, 3) := by decide +kernel
theorem dX4_sum_21 : decode cX4_sum 21 = .ok (.ldc 99, 2) := by decide +kernel
theorem dX4_sum_23 : decode cX4_sum 23 = .ok (.aload_n 0, 1) := by decide +kernel
theorem dX4_sum_24 : decode cX4_sum 24 = .ok (.invokevirtual 51, 3) := by decide +kernel
theorem dX4_sum_27 : decode cX4_sum 27 = .ok (.invokestatic 64, 3) := by decide +kernel
theorem dX4_sum_30 : decode cX4_sum 30 = .ok (.ifCond .lt 92, 3) := by decide +kernel
theorem dX4_sum_33 : decode cX4_sum 33 = .ok (.aload_n 0, 1) := by decide +kernel
theorem dX4_sum_34 : decode cX4_sum 34 = .ok (.invokevirtual 51, 3) := by decide +kernel
theorem dX4_sum_37 : decode cX4_sum 37 = .ok (.istore 4, 2) := by decide +kernel
theorem dX4_sum_39 : decode cX4_sum 39 = .ok (.aload_n 0, 1) := by decide +kernel
theorem dX4_sum_40 : decode cX4_sum 40 = .ok (.dup, 1) := by decide +kernel
theorem dX4_sum_41 : decode cX4_sum 41 = .ok (.getfield 29, 3) := by decide +kernel
theorem dX4_sum_44 : decode cX4_sum 44 = .ok (.iconst 1, 1) := by decide +kernel
theorem dX4_sum_45 : decode cX4_sum 45 = .ok (.iadd, 1) := by decide +kernel
theorem dX4_sum_46 : decode cX4_sum 46 = .ok (.putfield 29, 3) := by decide +kernel
theorem dX4_sum_49 : decode cX4_sum 49 = .ok (.iload 4, 2) := by decide +kernel
theorem dX4_sum_51 : decode cX4_sum 51 = .ok (.bipush 43, 2) := by decide +kernel
theorem dX4_sum_53 : decode cX4_sum 53 = .ok (.if_icmp .eq 10, 3) := by decide +kernel
theorem dX4_sum_56 : decode cX4_sum 56 = .ok (.iload 4, 2) := by decide +kernel
theorem dX4_sum_58 : decode cX4_sum 58 = .ok (.bipush 45, 2) := by decide +kernel
theorem dX4_sum_60 : decode cX4_sum 60 = .ok (.if_icmp .ne 7, 3) := by decide +kernel
theorem dX4_sum_63 : decode cX4_sum 63 = .ok (.iconst 1, 1) := by decide +kernel
theorem dX4_sum_64 : decode cX4_sum 64 = .ok (.goto 4, 3) := by decide +kernel
theorem dX4_sum_67 : decode cX4_sum 67 = .ok (.iconst 0, 1) := by decide +kernel
theorem dX4_sum_68 : decode cX4_sum 68 = .ok (.istore 5, 2) := by decide +kernel
theorem dX4_sum_70 : decode cX4_sum 70 = .ok (.iload 5, 2) := by decide +kernel
theorem dX4_sum_72 : decode cX4_sum 72 = .ok (.ifCond .eq 15, 3) := by decide +kernel
theorem dX4_sum_75 : decode cX4_sum 75 = .ok (.iload_n 2, 1) := by decide +kernel
theorem dX4_sum_76 : decode cX4_sum 76 = .ok (.iconst (-1), 1) := by decide +kernel
theorem dX4_sum_77 : decode cX4_sum 77 = .ok (.if_icmp .eq 10, 3) := by decide +kernel
theorem dX4_sum_80 : decode cX4_sum 80 = .ok (.aload_n 0, 1) := by decide +kernel
theorem dX4_sum_81 : decode cX4_sum 81 = .ok (.iload_n 2, 1) := by decide +kernel
theorem dX4_sum_82 : decode cX4_sum 82 = .ok (.iconst 0, 1) := by decide +kernel
theorem dX4_sum_83 : decode cX4_sum 83 = .ok (.invokevirtual 93, 3) := by decide +kernel
theorem dX4_sum_86 : decode cX4_sum 86 = .ok (.pop, 1) := by decide +kernel
theorem dX4_sum_87 : decode cX4_sum 87 = .ok (.aload_n 0, 1) := by decide +kernel
theorem dX4_sum_88 : decode cX4_sum 88 = .ok (.iload_n 1, 1) := by decide +kernel
theorem dX4_sum_89 : decode cX4_sum 89 = .ok (.invokevirtual 96, 3) := by decide +kernel
theorem dX4_sum_92 : decode cX4_sum 92 = .ok (.ifCond .ne 5, 3) := by decide +kernel
theorem dX4_sum_95 : decode cX4_sum 95 = .ok (.iconst 0, 1) := by decide +kernel
theorem dX4_sum_96 : decode cX4_sum 96 = .ok (.ireturn, 1) := by decide +kernel
theorem dX4_sum_97 : decode cX4_sum 97 = .ok (.iload 5, 2) := by decide +kernel
theorem dX4_sum_99 : decode cX4_sum 99 = .ok (.ifCond .eq 9, 3) := by decide +kernel
theorem dX4_sum_102 : decode cX4_sum 102 = .ok (.iload 4, 2) := by decide +kernel
theorem dX4_sum_104 : decode cX4_sum 104 = .ok (.istore_n 2, 1) := by decide +kernel
theorem dX4_sum_105 : decode cX4_sum 105 = .ok (.goto 11, 3) := by decide +kernel
theorem dX4_sum_108 : decode cX4_sum 108 = .ok (.aload_n 0, 1) := by decide +kernel
theorem dX4_sum_109 : decode cX4_sum 109 = .ok (.iload 4, 2) := by decide +kernel
theorem dX4_sum_111 : decode cX4_sum 111 = .ok (.iconst 0, 1) := by decide +kernel
theorem dX4_sum_112 : decode cX4_sum 112 = .ok (.invokevirtual 93, 3) := by decide +kernel
theorem dX4_sum_115 : decode cX4_sum 115 = .ok (.pop, 1) := by decide +kernel
theorem dX4_sum_116 : decode cX4_sum 116 = .ok (.iinc 3 1, 3) := by decide +kernel
theorem dX4_sum_119 : decode cX4_sum 119 = .ok (.goto (-105), 3) := by decide +kernel
theorem dX4_sum_122 : decode cX4_sum 122 = .ok (.iload_n 2, 1) := by decide +kernel
theorem dX4_sum_123 : decode cX4_sum 123 = .ok (.iconst (-1), 1) := by decide +kernel
theorem dX4_sum_124 : decode cX4_sum 124 = .ok (.if_icmp .eq 10, 3) := by decide +kernel
theorem dX4_sum_127 : decode cX4_sum 127 = .ok (.aload_n 0, 1) := by decide +kernel
theorem dX4_sum_128 : decode cX4_sum 128 = .ok (.iload_n 2, 1) := by decide +kernel
theorem dX4_sum_129 : decode cX4_sum 129 = .ok (.iconst 0, 1) := by decide +kernel
theorem dX4_sum_130 : decode cX4_sum 130 = .ok (.invokevirtual 93, 3) := by decide +kernel
theorem dX4_sum_133 : decode cX4_sum 133 = .ok (.pop, 1) := by decide +kernel
theorem dX4_sum_134 : decode cX4_sum 134 = .ok (.iconst 1, 1) := by decide +kernel
theorem dX4_sum_135 : decode cX4_sum 135 = .ok (.ireturn, 1) := by decide +kernel
theorem dX4_factor_0 : decode cX4_factor 0 = .ok (.aload_n 0, 1) := by decide +kernel
theorem dX4_factor_1 : decode cX4_factor 1 = .ok (.invokevirtual 51, 3) := by decide +kernel
theorem dX4_factor_4 : decode cX4_factor 4 = .ok (.istore_n 2, 1) := by decide +kernel
theorem dX4_factor_5 : decode cX4_factor 5 = .ok (.iload_n 2, 1) := by decide +kernel
theorem dX4_factor_6 : decode cX4_factor 6 = .ok (.bipush 91, 2) := by decide +kernel
theorem dX4_factor_8 : decode cX4_factor 8 = .ok (.if_icmp .ne 50, 3) := by decide +kernel
theorem dX4_factor_11 : decode cX4_factor 11 = .ok (.iload_n 1, 1) := by decide +kernel
theorem dX4_factor_12 : decode cX4_factor 12 = .ok (.bipush 6, 2) := by decide +kernel
theorem dX4_factor_14 : decode cX4_factor 14 = .ok (.if_icmp .lt 9, 3) := by decide +kernel
theorem dX4_factor_17 : decode cX4_factor 17 = .ok (.aload_n 0, 1) := by decide +kernel
theorem dX4_factor_18 : decode cX4_factor 18 = .ok (.iconst 5, 1) := by decide +kernel
theorem dX4_factor_19 : decode cX4_factor 19 = .ok (.invokevirtual 59, 3) := by decide +kernel
theorem dX4_factor_22 : decode cX4_factor 22 = .ok (.ireturn, 1) := by decide +kernel
theorem dX4_factor_23 : decode cX4_factor 23 = .ok (.aload_n 0, 1) := by decide +kernel
theorem dX4_factor_24 : decode cX4_factor 24 = .ok (.dup, 1) := by decide +kernel
theorem dX4_factor_25 : decode cX4_factor 25 = .ok (.getfield 29, 3) := by decide +kernel
theorem dX4_factor_28 : decode cX4_factor 28 = .ok (.iconst 1, 1) := by decide +kernel
theorem dX4_factor_29 : decode cX4_factor 29 = .ok (.iadd, 1) := by decide +kernel
theorem dX4_factor_30 : decode cX4_factor 30 = .ok (.putfield 29, 3) := by decide +kernel
theorem dX4_factor_33 : decode cX4_factor 33 = .ok (.aload_n 0, 1) := by decide +kernel
theorem dX4_factor_34 : decode cX4_factor 34 = .ok (.iload_n 1, 1) := by decide +kernel
theorem dX4_factor_35 : decode cX4_factor 35 = .ok (.iconst 1, 1) := by decide +kernel
theorem dX4_factor_36 : decode cX4_factor 36 = .ok (.iadd, 1) := by decide +kernel
theorem dX4_factor_37 : decode cX4_factor 37 = .ok (.invokevirtual 74, 3) := by decide +kernel
theorem dX4_factor_40 : decode cX4_factor 40 = .ok (.ifCond .eq 16, 3) := by decide +kernel
theorem dX4_factor_43 : decode cX4_factor 43 = .ok (.aload_n 0, 1) := by decide +kernel
theorem dX4_factor_44 : decode cX4_factor 44 = .ok (.bipush 93, 2) := by decide +kernel
theorem dX4_factor_46 : decode cX4_factor 46 = .ok (.invokevirtual 55, 3) := by decide +kernel
theorem dX4_factor_49 : decode cX4_factor 49 = .ok (.ifCond .eq 7, 3) := by decide +kernel
theorem dX4_factor_52 : decode cX4_factor 52 = .ok (.iconst 1, 1) := by decide +kernel
theorem dX4_factor_53 : decode cX4_factor 53 = .ok (.goto 4, 3) := by decide +kernel
theorem dX4_factor_56 : decode cX4_factor 56 = .ok (.iconst 0, 1) := by decide +kernel
theorem dX4_factor_57 : decode cX4_factor 57 = .ok (.ireturn, 1) := by decide +kernel
theorem dX4_factor_58 : decode cX4_factor 58 = .ok (.ldc 101, 2) := by decide +kernel
theorem dX4_factor_60 : decode cX4_factor 60 = .ok (.iload_n 2, 1) := by decide +kernel
theorem dX4_factor_61 : decode cX4_factor 61 = .ok (.invokestatic 64, 3) := by decide +kernel
theorem dX4_factor_64 : decode cX4_factor 64 = .ok (.istore_n 3, 1) := by decide +kernel
theorem dX4_factor_65 : decode cX4_factor 65 = .ok (.iload_n 3, 1) := by decide +kernel
theorem dX4_factor_66 : decode cX4_factor 66 = .ok (.ifCond .lt 23, 3) := by decide +kernel
theorem dX4_factor_69 : decode cX4_factor 69 = .ok (.aload_n 0, 1) := by decide +kernel
theorem dX4_factor_70 : decode cX4_factor 70 = .ok (.dup, 1) := by decide +kernel
theorem dX4_factor_71 : decode cX4_factor 71 = .ok (.getfield 29, 3) := by decide +kernel
theorem dX4_factor_74 : decode cX4_factor 74 = .ok (.iconst 1, 1) := by decide +kernel
theorem dX4_factor_75 : decode cX4_factor 75 = .ok (.iadd, 1) := by decide +kernel
theorem dX4_factor_76 : decode cX4_factor 76 = .ok (.putfield 29, 3) := by decide +kernel
theorem dX4_factor_79 : decode cX4_factor 79 = .ok (.aload_n 0, 1) := by decide +kernel
theorem dX4_factor_80 : decode cX4_factor 80 = .ok (.bipush 75, 2) := by decide +kernel
theorem dX4_factor_82 : decode cX4_factor 82 = .ok (.iload_n 3, 1) := by decide +kernel
theorem dX4_factor_83 : decode cX4_factor 83 = .ok (.invokevirtual 93, 3) := by decide +kernel
theorem dX4_factor_86 : decode cX4_factor 86 = .ok (.pop, 1) := by decide +kernel
theorem dX4_factor_87 : decode cX4_factor 87 = .ok (.iconst 1, 1) := by decide +kernel
theorem dX4_factor_88 : decode cX4_factor 88 = .ok (.ireturn, 1) := by decide +kernel
theorem dX4_factor_89 : decode cX4_factor 89 = .ok (.iload_n 2, 1) := by decide +kernel
theorem dX4_factor_90 : decode cX4_factor 90 = .ok (.invokestatic 103, 3) := by decide +kernel
theorem dX4_factor_93 : decode cX4_factor 93 = .ok (.ifCond .ne 9, 3) := by decide +kernel
theorem dX4_factor_96 : decode cX4_factor 96 = .ok (.aload_n 0, 1) := by decide +kernel
theorem dX4_factor_97 : decode cX4_factor 97 = .ok (.iconst 1, 1) := by decide +kernel
theorem dX4_factor_98 : decode cX4_factor 98 = .ok (.invokevirtual 59, 3) := by decide +kernel
theorem dX4_factor_101 : decode cX4_factor 101 = .ok (.ireturn, 1) := by decide +kernel
theorem dX4_factor_102 : decode cX4_factor 102 = .ok (.iconst 0, 1) := by decide +kernel
theorem dX4_factor_103 : decode cX4_factor 103 = .ok (.istore 4, 2) := by decide +kernel
theorem dX4_factor_105 : decode cX4_factor 105 = .ok (.iconst 0, 1) := by decide +kernel
theorem dX4_factor_106 : decode cX4_factor 106 = .ok (.istore 5, 2) := by decide +kernel
theorem dX4_factor_108 : decode cX4_factor 108 = .ok (.iload 5, 2) := by decide +kernel
theorem dX4_factor_110 : decode cX4_factor 110 = .ok (.iconst 5, 1) := by decide +kernel
theorem dX4_factor_111 : decode cX4_factor 111 = .ok (.if_icmp .ge 44, 3) := by decide +kernel
theorem dX4_factor_114 : decode cX4_factor 114 = .ok (.aload_n 0, 1) := by decide +kernel
theorem dX4_factor_115 : decode cX4_factor 115 = .ok (.invokevirtual 51, 3) := by decide +kernel
theorem dX4_factor_118 : decode cX4_factor 118 = .ok (.invokestatic 103, 3) := by decide +kernel
theorem dX4_factor_121 : decode cX4_factor 121 = .ok (.ifCond .eq 34, 3) := by decide +kernel
theorem dX4_factor_124 : decode cX4_factor 124 = .ok (.iload 4, 2) := by decide +kernel
theorem dX4_factor_126 : decode cX4_factor 126 = .ok (.bipush 10, 2) := by decide +kernel
theorem dX4_factor_128 : decode cX4_factor 128 = .ok (.imul, 1) := by decide +kernel
theorem dX4_factor_129 : decode cX4_factor 129 = .ok (.aload_n 0, 1) := by decide +kernel
theorem dX4_factor_130 : decode cX4_factor 130 = .ok (.invokevirtual 51, 3) := by decide +kernel
theorem dX4_factor_133 : decode cX4_factor 133 = .ok (.iadd, 1) := by decide +kernel
theorem dX4_factor_134 : decode cX4_factor 134 = .ok (.bipush 48, 2) := by decide +kernel
theorem dX4_factor_136 : decode cX4_factor 136 = .ok (.isub, 1) := by decide +kernel
theorem dX4_factor_137 : decode cX4_factor 137 = .ok (.istore 4, 2) := by decide +kernel
theorem dX4_factor_139 : decode cX4_factor 139 = .ok (.aload_n 0, 1) := by decide +kernel
theorem dX4_factor_140 : decode cX4_factor 140 = .ok (.dup, 1) := by decide +kernel
theorem dX4_factor_141 : decode cX4_factor 141 = .ok (.getfield 29, 3) := by decide +kernel
theorem dX4_factor_144 : decode cX4_factor 144 = .ok (.iconst 1, 1) := by decide +kernel
theorem dX4_factor_145 : decode cX4_factor 145 = .ok (.iadd, 1) := by decide +kernel
theorem dX4_factor_146 : decode cX4_factor 146 = .ok (.putfield 29, 3) := by decide +kernel
theorem dX4_factor_149 : decode cX4_factor 149 = .ok (.iinc 5 1, 3) := by decide +kernel
theorem dX4_factor_152 : decode cX4_factor 152 = .ok (.goto (-44), 3) := by decide +kernel
theorem dX4_factor_155 : decode cX4_factor 155 = .ok (.aload_n 0, 1) := by decide +kernel
theorem dX4_factor_156 : decode cX4_factor 156 = .ok (.invokevirtual 51, 3) := by decide +kernel
theorem dX4_factor_159 : decode cX4_factor 159 = .ok (.invokestatic 103, 3) := by decide +kernel
theorem dX4_factor_162 : decode cX4_factor 162 = .ok (.ifCond .eq 9, 3) := by decide +kernel
theorem dX4_factor_165 : decode cX4_factor 165 = .ok (.aload_n 0, 1) := by decide +kernel
theorem dX4_factor_166 : decode cX4_factor 166 = .ok (.iconst 2, 1) := by decide +kernel
theorem dX4_factor_167 : decode cX4_factor 167 = .ok (.invokevirtual 59, 3) := by decide +kernel
theorem dX4_factor_170 : decode cX4_factor 170 = .ok (.ireturn, 1) := by decide +kernel
theorem dX4_factor_171 : decode cX4_factor 171 = .ok (.aload_n 0, 1) := by decide +kernel
theorem dX4_factor_172 : decode cX4_factor 172 = .ok (.bipush 78, 2) := by decide +kernel
theorem dX4_factor_174 : decode cX4_factor 174 = .ok (.iload 4, 2) := by decide +kernel
theorem dX4_factor_176 : decode cX4_factor 176 = .ok (.invokevirtual 93, 3) := by decide +kernel
theorem dX4_factor_179 : decode cX4_factor 179 = .ok (.pop, 1) := by decide +kernel
theorem dX4_factor_180 : decode cX4_factor 180 = .ok (.iconst 1, 1) := by decide +kernel
theorem dX4_factor_181 : decode cX4_factor 181 = .ok (.ireturn, 1) := by decide +kernel
theorem dX4_emit_0 : decode cX4_emit 0 = .ok (.aload_n 0, 1) := by decide +kernel
theorem dX4_emit_1 : decode cX4_emit 1 = .ok (.getfield 32, 3) := by decide +kernel
theorem dX4_emit_4 : decode cX4_emit 4 = .ok (.istore_n 3, 1) := by decide +kernel
theorem dX4_emit_5 : decode cX4_emit 5 = .ok (.iload_n 3, 1) := by decide +kernel
theorem dX4_emit_6 : decode cX4_emit 6 = .ok (.ifCond .lt 35, 3) := by decide +kernel
theorem dX4_emit_9 : decode cX4_emit 9 = .ok (.iload_n 3, 1) := by decide +kernel
theorem dX4_emit_10 : decode cX4_emit 10 = .ok (.sipush 240, 3) := by decide +kernel
theorem dX4_emit_13 : decode cX4_emit 13 = .ok (.if_icmp .ge 28, 3) := by decide +kernel
theorem dX4_emit_16 : decode cX4_emit 16 = .ok (.aload_n 0, 1) := by decide +kernel
theorem dX4_emit_17 : decode cX4_emit 17 = .ok (.getfield 12, 3) := by decide +kernel
theorem dX4_emit_20 : decode cX4_emit 20 = .ok (.getfield 18, 3) := by decide +kernel
theorem dX4_emit_23 : decode cX4_emit 23 = .ok (.iload_n 3, 1) := by decide +kernel
theorem dX4_emit_24 : decode cX4_emit 24 = .ok (.iload_n 1, 1) := by decide +kernel
theorem dX4_emit_25 : decode cX4_emit 25 = .ok (.iload_n 2, 1) := by decide +kernel
theorem dX4_emit_26 : decode cX4_emit 26 = .ok (.bipush 8, 2) := by decide +kernel
theorem dX4_emit_28 : decode cX4_emit 28 = .ok (.ishl, 1) := by decide +kernel
theorem dX4_emit_29 : decode cX4_emit 29 = .ok (.ior, 1) := by decide +kernel
theorem dX4_emit_30 : decode cX4_emit 30 = .ok (.iastore, 1) := by decide +kernel
theorem dX4_emit_31 : decode cX4_emit 31 = .ok (.aload_n 0, 1) := by decide +kernel
theorem dX4_emit_32 : decode cX4_emit 32 = .ok (.dup, 1) := by decide +kernel
theorem dX4_emit_33 : decode cX4_emit 33 = .ok (.getfield 32, 3) := by decide +kernel
theorem dX4_emit_36 : decode cX4_emit 36 = .ok (.iconst 1, 1) := by decide +kernel
theorem dX4_emit_37 : decode cX4_emit 37 = .ok (.iadd, 1) := by decide +kernel
theorem dX4_emit_38 : decode cX4_emit 38 = .ok (.putfield 32, 3) := by decide +kernel
theorem dX4_emit_41 : decode cX4_emit 41 = .ok (.iload_n 3, 1) := by decide +kernel
theorem dX4_emit_42 : decode cX4_emit 42 = .ok (.ireturn, 1) := by decide +kernel
theorem dX4_land_0 : decode cX4_land 0 = .ok (.iload_n 1, 1) := by decide +kernel
theorem dX4_land_1 : decode cX4_land 1 = .ok (.ifCond .lt 40, 3) := by decide +kernel
theorem dX4_land_4 : decode cX4_land 4 = .ok (.iload_n 1, 1) := by decide +kernel
theorem dX4_land_5 : decode cX4_land 5 = .ok (.sipush 240, 3) := by decide +kernel
theorem dX4_land_8 : decode cX4_land 8 = .ok (.if_icmp .ge 33, 3) := by decide +kernel
theorem dX4_land_11 : decode cX4_land 11 = .ok (.aload_n 0, 1) := by decide +kernel
theorem dX4_land_12 : decode cX4_land 12 = .ok (.getfield 12, 3) := by decide +kernel
theorem dX4_land_15 : decode cX4_land 15 = .ok (.getfield 18, 3) := by decide +kernel
theorem dX4_land_18 : decode cX4_land 18 = .ok (.iload_n 1, 1) := by decide +kernel
theorem dX4_land_19 : decode cX4_land 19 = .ok (.aload_n 0, 1) := by decide +kernel
theorem dX4_land_20 : decode cX4_land 20 = .ok (.getfield 12, 3) := by decide +kernel
theorem dX4_land_23 : decode cX4_land 23 = .ok (.getfield 18, 3) := by decide +kernel
theorem dX4_land_26 : decode cX4_land 26 = .ok (.iload_n 1, 1) := by decide +kernel
theorem dX4_land_27 : decode cX4_land 27 = .ok (.iaload, 1) := by decide +kernel
theorem dX4_land_28 : decode cX4_land 28 = .ok (.sipush 255, 3) := by decide +kernel
theorem dX4_land_31 : decode cX4_land 31 = .ok (.iand, 1) := by decide +kernel
theorem dX4_land_32 : decode cX4_land 32 = .ok (.aload_n 0, 1) := by decide +kernel
theorem dX4_land_33 : decode cX4_land 33 = .ok (.getfield 32, 3) := by decide +kernel
theorem dX4_land_36 : decode cX4_land 36 = .ok (.bipush 8, 2) := by decide +kernel
theorem dX4_land_38 : decode cX4_land 38 = .ok (.ishl, 1) := by decide +kernel
theorem dX4_land_39 : decode cX4_land 39 = .ok (.ior, 1) := by decide +kernel
theorem dX4_land_40 : decode cX4_land 40 = .ok (.iastore, 1) := by decide +kernel
theorem dX4_land_41 : decode cX4_land 41 = .ok (.return_, 1) := by decide +kernel
theorem dX5_init_0 : decode cX5_init 0 = .ok (.aload_n 0, 1) := by decide +kernel
theorem dX5_init_1 : decode cX5_init 1 = .ok (.invokespecial 3, 3) := by decide +kernel
theorem dX5_init_4 : decode cX5_init 4 = .ok (.aload_n 0, 1) := by decide +kernel
theorem dX5_init_5 : decode cX5_init 5 = .ok (.sipush 256, 3) := by decide +kernel
theorem dX5_init_8 : decode cX5_init 8 = .ok (.newarray .int, 2) := by decide +kernel
theorem dX5_init_10 : decode cX5_init 10 = .ok (.putfield 9, 3) := by decide +kernel
theorem dX5_init_13 : decode cX5_init 13 = .ok (.aload_n 0, 1) := by decide +kernel
theorem dX5_init_14 : decode cX5_init 14 = .ok (.iconst 0, 1) := by decide +kernel
theorem dX5_init_15 : decode cX5_init 15 = .ok (.putfield 15, 3) := by decide +kernel
theorem dX5_init_18 : decode cX5_init 18 = .ok (.return_, 1) := by decide +kernel
theorem dX5_reckon_0 : decode cX5_reckon 0 = .ok (.aload_n 0, 1) := by decide +kernel
theorem dX5_reckon_1 : decode cX5_reckon 1 = .ok (.iconst 0, 1) := by decide +kernel
theorem dX5_reckon_2 : decode cX5_reckon 2 = .ok (.iload_n 1, 1) := by decide +kernel
theorem dX5_reckon_3 : decode cX5_reckon 3 = .ok (.bipush 8, 2) := by decide +kernel
theorem dX5_reckon_5 : decode cX5_reckon 5 = .ok (.invokestatic 19, 3) := by decide +kernel
theorem dX5_reckon_8 : decode cX5_reckon 8 = .ok (.invokestatic 25, 3) := by decide +kernel
theorem dX5_reckon_11 : decode cX5_reckon 11 = .ok (.putfield 15, 3) := by decide +kernel
theorem dX5_reckon_14 : decode cX5_reckon 14 = .ok (.iconst 1, 1) := by decide +kernel
theorem dX5_reckon_15 : decode cX5_reckon 15 = .ok (.aload_n 0, 1) := by decide +kernel
theorem dX5_reckon_16 : decode cX5_reckon 16 = .ok (.getfield 15, 3) := by decide +kernel
theorem dX5_reckon_19 : decode cX5_reckon 19 = .ok (.ishl, 1) := by decide +kernel
theorem dX5_reckon_20 : decode cX5_reckon 20 = .ok (.iconst 1, 1) := by decide +kernel
theorem dX5_reckon_21 : decode cX5_reckon 21 = .ok (.isub, 1) := by decide +kernel
theorem dX5_reckon_22 : decode cX5_reckon 22 = .ok (.istore_n 2, 1) := by decide +kernel
theorem dX5_reckon_23 : decode cX5_reckon 23 = .ok (.aload_n 0, 1) := by decide +kernel
theorem dX5_reckon_24 : decode cX5_reckon 24 = .ok (.getfield 9, 3) := by decide +kernel
theorem dX5_reckon_27 : decode cX5_reckon 27 = .ok (.iload_n 2, 1) := by decide +kernel
theorem dX5_reckon_28 : decode cX5_reckon 28 = .ok (.iconst 0, 1) := by decide +kernel
theorem dX5_reckon_29 : decode cX5_reckon 29 = .ok (.iastore, 1) := by decide +kernel
theorem dX5_reckon_30 : decode cX5_reckon 30 = .ok (.iload_n 2, 1) := by decide +kernel
theorem dX5_reckon_31 : decode cX5_reckon 31 = .ok (.iconst 1, 1) := by decide +kernel
theorem dX5_reckon_32 : decode cX5_reckon 32 = .ok (.isub, 1) := by decide +kernel
theorem dX5_reckon_33 : decode cX5_reckon 33 = .ok (.istore_n 3, 1) := by decide +kernel
theorem dX5_reckon_34 : decode cX5_reckon 34 = .ok (.iload_n 3, 1) := by decide +kernel
theorem dX5_reckon_35 : decode cX5_reckon 35 = .ok (.ifCond .lt 41, 3) := by decide +kernel
theorem dX5_reckon_38 : decode cX5_reckon 38 = .ok (.aload_n 0, 1) := by decide +kernel
theorem dX5_reckon_39 : decode cX5_reckon 39 = .ok (.iload_n 3, 1) := by decide +kernel
theorem dX5_reckon_40 : decode cX5_reckon 40 = .ok (.invokevirtual 28, 3) := by decide +kernel
theorem dX5_reckon_43 : decode cX5_reckon 43 = .ok (.istore 4, 2) := by decide +kernel
theorem dX5_reckon_45 : decode cX5_reckon 45 = .ok (.aload_n 0, 1) := by decide +kernel
theorem dX5_reckon_46 : decode cX5_reckon 46 = .ok (.getfield 9, 3) := by decide +kernel
theorem dX5_reckon_49 : decode cX5_reckon 49 = .ok (.iload_n 3, 1) := by decide +kernel
theorem dX5_reckon_50 : decode cX5_reckon 50 = .ok (.aload_n 0, 1) := by decide +kernel
theorem dX5_reckon_51 : decode cX5_reckon 51 = .ok (.iload_n 3, 1) := by decide +kernel
theorem dX5_reckon_52 : decode cX5_reckon 52 = .ok (.iload 4, 2) := by decide +kernel
theorem dX5_reckon_54 : decode cX5_reckon 54 = .ok (.invokevirtual 32, 3) := by decide +kernel
theorem dX5_reckon_57 : decode cX5_reckon 57 = .ok (.aload_n 0, 1) := by decide +kernel
theorem dX5_reckon_58 : decode cX5_reckon 58 = .ok (.getfield 9, 3) := by decide +kernel
theorem dX5_reckon_61 : decode cX5_reckon 61 = .ok (.iload_n 3, 1) := by decide +kernel
theorem dX5_reckon_62 : decode cX5_reckon 62 = .ok (.iconst 1, 1) := by decide +kernel
theorem dX5_reckon_63 : decode cX5_reckon 63 = .ok (.iload 4, 2) := by decide +kernel
theorem dX5_reckon_65 : decode cX5_reckon 65 = .ok (.ishl, 1) := by decide +kernel
theorem dX5_reckon_66 : decode cX5_reckon 66 = .ok (.ior, 1) := by decide +kernel
theorem dX5_reckon_67 : decode cX5_reckon 67 = .ok (.iaload, 1) := by decide +kernel
theorem dX5_reckon_68 : decode cX5_reckon 68 = .ok (.iadd, 1) := by decide +kernel
theorem dX5_reckon_69 : decode cX5_reckon 69 = .ok (.iastore, 1) := by decide +kernel
theorem dX5_reckon_70 : decode cX5_reckon 70 = .ok (.iinc 3 (-1), 3) := by decide +kernel
theorem dX5_reckon_73 : decode cX5_reckon 73 = .ok (.goto (-39), 3) := by decide +kernel
theorem dX5_reckon_76 : decode cX5_reckon 76 = .ok (.return_, 1) := by decide +kernel
theorem dX5_price_0 : decode cX5_price 0 = .ok (.aload_n 0, 1) := by decide +kernel
theorem dX5_price_1 : decode cX5_price 1 = .ok (.getfield 9, 3) := by decide +kernel
theorem dX5_price_4 : decode cX5_price 4 = .ok (.iconst 0, 1) := by decide +kernel
theorem dX5_price_5 : decode cX5_price 5 = .ok (.iaload, 1) := by decide +kernel
theorem dX5_price_6 : decode cX5_price 6 = .ok (.ireturn, 1) := by decide +kernel
theorem dX5_standsAt_0 : decode cX5_standsAt 0 = .ok (.iconst 0, 1) := by decide +kernel
theorem dX5_standsAt_1 : decode cX5_standsAt 1 = .ok (.istore_n 2, 1) := by decide +kernel
theorem dX5_standsAt_2 : decode cX5_standsAt 2 = .ok (.iconst 0, 1) := by decide +kernel
theorem dX5_standsAt_3 : decode cX5_standsAt 3 = .ok (.istore_n 3, 1) := by decide +kernel
theorem dX5_standsAt_4 : decode cX5_standsAt 4 = .ok (.iconst 0, 1) := by decide +kernel
theorem dX5_standsAt_5 : decode cX5_standsAt 5 = .ok (.istore 4, 2) := by decide +kernel
theorem dX5_standsAt_7 : decode cX5_standsAt 7 = .ok (.iload 4, 2) := by decide +kernel
theorem dX5_standsAt_9 : decode cX5_standsAt 9 = .ok (.iload_n 1, 1) := by decide +kernel
theorem dX5_standsAt_10 : decode cX5_standsAt 10 = .ok (.if_icmp .gt 30, 3) := by decide +kernel
theorem dX5_standsAt_13 : decode cX5_standsAt 13 = .ok (.iload 4, 2) := by decide +kernel
theorem dX5_standsAt_15 : decode cX5_standsAt 15 = .ok (.aload_n 0, 1) := by decide +kernel
theorem dX5_standsAt_16 : decode cX5_standsAt 16 = .ok (.getfield 15, 3) := by decide +kernel
theorem dX5_standsAt_19 : decode cX5_standsAt 19 = .ok (.if_icmp .ge 21, 3) := by decide +kernel
theorem dX5_standsAt_22 : decode cX5_standsAt 22 = .ok (.aload_n 0, 1) := by decide +kernel
theorem dX5_standsAt_23 : decode cX5_standsAt 23 = .ok (.iload_n 2, 1) := by decide +kernel
theorem dX5_standsAt_24 : decode cX5_standsAt 24 = .ok (.invokevirtual 28, 3) := by decide +kernel
theorem dX5_standsAt_27 : decode cX5_standsAt 27 = .ok (.istore_n 3, 1) := by decide +kernel
theorem dX5_standsAt_28 : decode cX5_standsAt 28 = .ok (.iload_n 2, 1) := by decide +kernel
theorem dX5_standsAt_29 : decode cX5_standsAt 29 = .ok (.iconst 1, 1) := by decide +kernel
theorem dX5_standsAt_30 : decode cX5_standsAt 30 = .ok (.iload_n 3, 1) := by decide +kernel
theorem dX5_standsAt_31 : decode cX5_standsAt 31 = .ok (.ishl, 1) := by decide +kernel
theorem dX5_standsAt_32 : decode cX5_standsAt 32 = .ok (.ior, 1) := by decide +kernel
theorem dX5_standsAt_33 : decode cX5_standsAt 33 = .ok (.istore_n 2, 1) := by decide +kernel
theorem dX5_standsAt_34 : decode cX5_standsAt 34 = .ok (.iinc 4 1, 3) := by decide +kernel
theorem dX5_standsAt_37 : decode cX5_standsAt 37 = .ok (.goto (-30), 3) := by decide +kernel
theorem dX5_standsAt_40 : decode cX5_standsAt 40 = .ok (.iload_n 3, 1) := by decide +kernel
theorem dX5_standsAt_41 : decode cX5_standsAt 41 = .ok (.ireturn, 1) := by decide +kernel
theorem dX5_bestNext_0 : decode cX5_bestNext 0 = .ok (.iconst 0, 1) := by decide +kernel
theorem dX5_bestNext_1 : decode cX5_bestNext 1 = .ok (.istore_n 2, 1) := by decide +kernel
theorem dX5_bestNext_2 : decode cX5_bestNext 2 = .ok (.ldc 35, 2) := by decide +kernel
theorem dX5_bestNext_4 : decode cX5_bestNext 4 = .ok (.istore_n 3, 1) := by decide +kernel
theorem dX5_bestNext_5 : decode cX5_bestNext 5 = .ok (.iconst 0, 1) := by decide +kernel
theorem dX5_bestNext_6 : decode cX5_bestNext 6 = .ok (.istore 4, 2) := by decide +kernel
theorem dX5_bestNext_8 : decode cX5_bestNext 8 = .ok (.iload 4, 2) := by decide +kernel
theorem dX5_bestNext_10 : decode cX5_bestNext 10 = .ok (.aload_n 0, 1) := by decide +kernel
theorem dX5_bestNext_11 : decode cX5_bestNext 11 = .ok (.getfield 15, 3) := by decide +kernel
theorem dX5_bestNext_14 : decode cX5_bestNext 14 = .ok (.if_icmp .ge 51, 3) := by decide +kernel
theorem dX5_bestNext_17 : decode cX5_bestNext 17 = .ok (.iload_n 1, 1) := by decide +kernel
theorem dX5_bestNext_18 : decode cX5_bestNext 18 = .ok (.iload 4, 2) := by decide +kernel
theorem dX5_bestNext_20 : decode cX5_bestNext 20 = .ok (.ishr, 1) := by decide +kernel
theorem dX5_bestNext_21 : decode cX5_bestNext 21 = .ok (.iconst 1, 1) := by decide +kernel
theorem dX5_bestNext_22 : decode cX5_bestNext 22 = .ok (.iand, 1) := by decide +kernel
theorem dX5_bestNext_23 : decode cX5_bestNext 23 = .ok (.ifCond .ne 36, 3) := by decide +kernel
theorem dX5_bestNext_26 : decode cX5_bestNext 26 = .ok (.aload_n 0, 1) := by decide +kernel
theorem dX5_bestNext_27 : decode cX5_bestNext 27 = .ok (.iload_n 1, 1) := by decide +kernel
theorem dX5_bestNext_28 : decode cX5_bestNext 28 = .ok (.iload 4, 2) := by decide +kernel
theorem dX5_bestNext_30 : decode cX5_bestNext 30 = .ok (.invokevirtual 32, 3) := by decide +kernel
theorem dX5_bestNext_33 : decode cX5_bestNext 33 = .ok (.aload_n 0, 1) := by decide +kernel
theorem dX5_bestNext_34 : decode cX5_bestNext 34 = .ok (.getfield 9, 3) := by decide +kernel
theorem dX5_bestNext_37 : decode cX5_bestNext 37 = .ok (.iload_n 1, 1) := by decide +kernel
theorem dX5_bestNext_38 : decode cX5_bestNext 38 = .ok (.iconst 1, 1) := by decide +kernel
theorem dX5_bestNext_39 : decode cX5_bestNext 39 = .ok (.iload 4, 2) := by decide +kernel
theorem dX5_bestNext_41 : decode cX5_bestNext 41 = .ok (.ishl, 1) := by decide +kernel
theorem dX5_bestNext_42 : decode cX5_bestNext 42 = .ok (.ior, 1) := by decide +kernel
theorem dX5_bestNext_43 : decode cX5_bestNext 43 = .ok (.iaload, 1) := by decide +kernel
theorem dX5_bestNext_44 : decode cX5_bestNext 44 = .ok (.iadd, 1) := by decide +kernel
theorem dX5_bestNext_45 : decode cX5_bestNext 45 = .ok (.istore 5, 2) := by decide +kernel
theorem dX5_bestNext_47 : decode cX5_bestNext 47 = .ok (.iload 5, 2) := by decide +kernel
theorem dX5_bestNext_49 : decode cX5_bestNext 49 = .ok (.iload_n 3, 1) := by decide +kernel
theorem dX5_bestNext_50 : decode cX5_bestNext 50 = .ok (.if_icmp .ge 9, 3) := by decide +kernel
theorem dX5_bestNext_53 : decode cX5_bestNext 53 = .ok (.iload 5, 2) := by decide +kernel
theorem dX5_bestNext_55 : decode cX5_bestNext 55 = .ok (.istore_n 3, 1) := by decide +kernel
theorem dX5_bestNext_56 : decode cX5_bestNext 56 = .ok (.iload 4, 2) := by decide +kernel
theorem dX5_bestNext_58 : decode cX5_bestNext 58 = .ok (.istore_n 2, 1) := by decide +kernel
theorem dX5_bestNext_59 : decode cX5_bestNext 59 = .ok (.iinc 4 1, 3) := by decide +kernel
theorem dX5_bestNext_62 : decode cX5_bestNext 62 = .ok (.goto (-54), 3) := by decide +kernel
theorem dX5_bestNext_65 : decode cX5_bestNext 65 = .ok (.iload_n 2, 1) := by decide +kernel
theorem dX5_bestNext_66 : decode cX5_bestNext 66 = .ok (.ireturn, 1) := by decide +kernel
theorem dX6_init_0 : decode cX6_init 0 = .ok (.aload_n 0, 1) := by decide +kernel
theorem dX6_init_1 : decode cX6_init 1 = .ok (.invokespecial 5, 3) := by decide +kernel
theorem dX6_init_4 : decode cX6_init 4 = .ok (.aload_n 0, 1) := by decide +kernel
theorem dX6_init_5 : decode cX6_init 5 = .ok (.sipush 1547, 3) := by decide +kernel
theorem dX6_init_8 : decode cX6_init 8 = .ok (.newarray .int, 2) := by decide +kernel
theorem dX6_init_10 : decode cX6_init 10 = .ok (.putfield 11, 3) := by decide +kernel
theorem dX6_init_13 : decode cX6_init 13 = .ok (.aload_n 0, 1) := by decide +kernel
theorem dX6_init_14 : decode cX6_init 14 = .ok (.iconst 0, 1) := by decide +kernel
theorem dX6_init_15 : decode cX6_init 15 = .ok (.newarray .int, 2) := by decide +kernel
theorem dX6_init_17 : decode cX6_init 17 = .ok (.putfield 15, 3) := by decide +kernel
theorem dX6_init_20 : decode cX6_init 20 = .ok (.aload_n 0, 1) := by decide +kernel
theorem dX6_init_21 : decode cX6_init 21 = .ok (.iconst 0, 1) := by decide +kernel
theorem dX6_init_22 : decode cX6_init 22 = .ok (.putfield 18, 3) := by decide +kernel
theorem dX6_init_25 : decode cX6_init 25 = .ok (.aload_n 0, 1) := by decide +kernel
theorem dX6_init_26 : decode cX6_init 26 = .ok (.iconst 0, 1) := by decide +kernel
theorem dX6_init_27 : decode cX6_init 27 = .ok (.putfield 22, 3) := by decide +kernel
theorem dX6_init_30 : decode cX6_init 30 = .ok (.aload_n 0, 1) := by decide +kernel
theorem dX6_init_31 : decode cX6_init 31 = .ok (.iconst 0, 1) := by decide +kernel
theorem dX6_init_32 : decode cX6_init 32 = .ok (.putfield 25, 3) := by decide +kernel
theorem dX6_init_35 : decode cX6_init 35 = .ok (.return_, 1) := by decide +kernel
theorem dX6_seek_0 : decode cX6_seek 0 = .ok (.aload_n 0, 1) := by decide +kernel
theorem dX6_seek_1 : decode cX6_seek 1 = .ok (.getfield 15, 3) := by decide +kernel
theorem dX6_seek_4 : decode cX6_seek 4 = .ok (.arraylength, 1) := by decide +kernel
theorem dX6_seek_5 : decode cX6_seek 5 = .ok (.ifCond .ne 11, 3) := by decide +kernel
theorem dX6_seek_8 : decode cX6_seek 8 = .ok (.aload_n 0, 1) := by decide +kernel
theorem dX6_seek_9 : decode cX6_seek 9 = .ok (.ldc 28, 2) := by decide +kernel
theorem dX6_seek_11 : decode cX6_seek 11 = .ok (.newarray .int, 2) := by decide +kernel
theorem dX6_seek_13 : decode cX6_seek 13 = .ok (.putfield 15, 3) := by decide +kernel
theorem dX6_seek_16 : decode cX6_seek 16 = .ok (.aload_n 0, 1) := by decide +kernel
theorem dX6_seek_17 : decode cX6_seek 17 = .ok (.getfield 11, 3) := by decide +kernel
theorem dX6_seek_20 : decode cX6_seek 20 = .ok (.iconst 0, 1) := by decide +kernel
theorem dX6_seek_21 : decode cX6_seek 21 = .ok (.invokestatic 29, 3) := by decide +kernel
theorem dX6_seek_24 : decode cX6_seek 24 = .ok (.aload_n 0, 1) := by decide +kernel
theorem dX6_seek_25 : decode cX6_seek 25 = .ok (.iconst 0, 1) := by decide +kernel
theorem dX6_seek_26 : decode cX6_seek 26 = .ok (.putfield 18, 3) := by decide +kernel
theorem dX6_seek_29 : decode cX6_seek 29 = .ok (.aload_n 0, 1) := by decide +kernel
theorem dX6_seek_30 : decode cX6_seek 30 = .ok (.aload_n 1, 1) := by decide +kernel
theorem dX6_seek_31 : decode cX6_seek 31 = .ok (.getfield 35, 3) := by decide +kernel
theorem dX6_seek_34 : decode cX6_seek 34 = .ok (.invokestatic 41, 3) := by decide +kernel
theorem dX6_seek_37 : decode cX6_seek 37 = .ok (.iconst 0, 1) := by decide +kernel
theorem dX6_seek_38 : decode cX6_seek 38 = .ok (.invokevirtual 45, 3) := by decide +kernel
theorem dX6_seek_41 : decode cX6_seek 41 = .ok (.iconst 0, 1) := by decide +kernel
theorem dX6_seek_42 : decode cX6_seek 42 = .ok (.istore_n 3, 1) := by decide +kernel
theorem dX6_seek_43 : decode cX6_seek 43 = .ok (.iconst 1, 1) := by decide +kernel
theorem dX6_seek_44 : decode cX6_seek 44 = .ok (.istore 4, 2) := by decide +kernel
theorem dX6_seek_46 : decode cX6_seek 46 = .ok (.iload 4, 2) := by decide +kernel
theorem dX6_seek_48 : decode cX6_seek 48 = .ok (.bipush 20, 2) := by decide +kernel
theorem dX6_seek_50 : decode cX6_seek 50 = .ok (.if_icmp .gt 60, 3) := by decide +kernel
theorem dX6_seek_53 : decode cX6_seek 53 = .ok (.aload_n 0, 1) := by decide +kernel
theorem dX6_seek_54 : decode cX6_seek 54 = .ok (.getfield 18, 3) := by decide +kernel
theorem dX6_seek_57 : decode cX6_seek 57 = .ok (.aload_n 0, 1) := by decide +kernel
theorem dX6_seek_58 : decode cX6_seek 58 = .ok (.getfield 15, 3) := by decide +kernel
theorem dX6_seek_61 : decode cX6_seek 61 = .ok (.arraylength, 1) := by decide +kernel
theorem dX6_seek_62 : decode cX6_seek 62 = .ok (.invokestatic 49, 3) := by decide +kernel
theorem dX6_seek_65 : decode cX6_seek 65 = .ok (.istore 5, 2) := by decide +kernel
theorem dX6_seek_67 : decode cX6_seek 67 = .ok (.iload_n 3, 1) := by decide +kernel
theorem dX6_seek_68 : decode cX6_seek 68 = .ok (.iload 5, 2) := by decide +kernel
theorem dX6_seek_70 : decode cX6_seek 70 = .ok (.if_icmp .ge 34, 3) := by decide +kernel
theorem dX6_seek_73 : decode cX6_seek 73 = .ok (.aload_n 0, 1) := by decide +kernel
theorem dX6_seek_74 : decode cX6_seek 74 = .ok (.aload_n 1, 1) := by decide +kernel
theorem dX6_seek_75 : decode cX6_seek 75 = .ok (.aload_n 0, 1) := by decide +kernel
theorem dX6_seek_76 : decode cX6_seek 76 = .ok (.getfield 15, 3) := by decide +kernel
theorem dX6_seek_79 : decode cX6_seek 79 = .ok (.iload_n 3, 1) := by decide +kernel
theorem dX6_seek_80 : decode cX6_seek 80 = .ok (.iaload, 1) := by decide +kernel
theorem dX6_seek_81 : decode cX6_seek 81 = .ok (.iload 4, 2) := by decide +kernel
theorem dX6_seek_83 : decode cX6_seek 83 = .ok (.iload_n 2, 1) := by decide +kernel
theorem dX6_seek_84 : decode cX6_seek 84 = .ok (.invokevirtual 55, 3) := by decide +kernel
theorem dX6_seek_87 : decode cX6_seek 87 = .ok (.ifCond .eq 11, 3) := by decide +kernel
theorem dX6_seek_90 : decode cX6_seek 90 = .ok (.aload_n 0, 1) := by decide +kernel
theorem dX6_seek_91 : decode cX6_seek 91 = .ok (.iload 4, 2) := by decide +kernel
theorem dX6_seek_93 : decode cX6_seek 93 = .ok (.putfield 22, 3) := by decide +kernel
theorem dX6_seek_96 : decode cX6_seek 96 = .ok (.iconst 1, 1) := by decide +kernel
theorem dX6_seek_97 : decode cX6_seek 97 = .ok (.ireturn, 1) := by decide +kernel
theorem dX6_seek_98 : decode cX6_seek 98 = .ok (.iinc 3 1, 3) := by decide +kernel
theorem dX6_seek_101 : decode cX6_seek 101 = .ok (.goto (-34), 3) := by decide +kernel
theorem dX6_seek_104 : decode cX6_seek 104 = .ok (.iinc 4 1, 3) := by decide +kernel
theorem dX6_seek_107 : decode cX6_seek 107 = .ok (.goto (-61), 3) := by decide +kernel
theorem dX6_seek_110 : decode cX6_seek 110 = .ok (.iconst 0, 1) := by decide +kernel
theorem dX6_seek_111 : decode cX6_seek 111 = .ok (.ireturn, 1) := by decide +kernel
theorem dX6_spread_0 : decode cX6_spread 0 = .ok (.aload_n 1, 1) := by decide +kernel
theorem dX6_spread_1 : decode cX6_spread 1 = .ok (.getfield 35, 3) := by decide +kernel
theorem dX6_spread_4 : decode cX6_spread 4 = .ok (.astore 5, 2) := by decide +kernel
theorem dX6_spread_6 : decode cX6_spread 6 = .ok (.iconst 0, 1) := by decide +kernel
theorem dX6_spread_7 : decode cX6_spread 7 = .ok (.istore 6, 2) := by decide +kernel
theorem dX6_spread_9 : decode cX6_spread 9 = .ok (.iload 6, 2) := by decide +kernel
theorem dX6_spread_11 : decode cX6_spread 11 = .ok (.bipush 6, 2) := by decide +kernel
theorem dX6_spread_13 : decode cX6_spread 13 = .ok (.if_icmp .ge 84, 3) := by decide +kernel
theorem dX6_spread_16 : decode cX6_spread 16 = .ok (.iload_n 2, 1) := by decide +kernel
theorem dX6_spread_17 : decode cX6_spread 17 = .ok (.iconst 3, 1) := by decide +kernel
theorem dX6_spread_18 : decode cX6_spread 18 = .ok (.ishr, 1) := by decide +kernel
theorem dX6_spread_19 : decode cX6_spread 19 = .ok (.aload 5, 2) := by decide +kernel
theorem dX6_spread_21 : decode cX6_spread 21 = .ok (.invokestatic 59, 3) := by decide +kernel
theorem dX6_spread_24 : decode cX6_spread 24 = .ok (.aload_n 1, 1) := by decide +kernel
theorem dX6_spread_25 : decode cX6_spread 25 = .ok (.bipush 99, 2) := by decide +kernel
theorem dX6_spread_27 : decode cX6_spread 27 = .ok (.putfield 63, 3) := by decide +kernel
theorem dX6_spread_30 : decode cX6_spread 30 = .ok (.aload_n 1, 1) := by decide +kernel
theorem dX6_spread_31 : decode cX6_spread 31 = .ok (.iload 6, 2) := by decide +kernel
theorem dX6_spread_33 : decode cX6_spread 33 = .ok (.iconst 0, 1) := by decide +kernel
theorem dX6_spread_34 : decode cX6_spread 34 = .ok (.iconst 0, 1) := by decide +kernel
theorem dX6_spread_35 : decode cX6_spread 35 = .ok (.invokevirtual 66, 3) := by decide +kernel
theorem dX6_spread_38 : decode cX6_spread 38 = .ok (.iload_n 3, 1) := by decide +kernel
theorem dX6_spread_39 : decode cX6_spread 39 = .ok (.iconst 1, 1) := by decide +kernel
theorem dX6_spread_40 : decode cX6_spread 40 = .ok (.if_icmp .ne 8, 3) := by decide +kernel
theorem dX6_spread_43 : decode cX6_spread 43 = .ok (.iload 6, 2) := by decide +kernel
theorem dX6_spread_45 : decode cX6_spread 45 = .ok (.goto 7, 3) := by decide +kernel
theorem dX6_spread_48 : decode cX6_spread 48 = .ok (.iload_n 2, 1) := by decide +kernel
theorem dX6_spread_49 : decode cX6_spread 49 = .ok (.bipush 7, 2) := by decide +kernel
theorem dX6_spread_51 : decode cX6_spread 51 = .ok (.iand, 1) := by decide +kernel
theorem dX6_spread_52 : decode cX6_spread 52 = .ok (.istore 7, 2) := by decide +kernel
theorem dX6_spread_54 : decode cX6_spread 54 = .ok (.aload 5, 2) := by decide +kernel
theorem dX6_spread_56 : decode cX6_spread 56 = .ok (.getfield 70, 3) := by decide +kernel
theorem dX6_spread_59 : decode cX6_spread 59 = .ok (.iload 4, 2) := by decide +kernel
theorem dX6_spread_61 : decode cX6_spread 61 = .ok (.if_icmp .le 11, 3) := by decide +kernel
theorem dX6_spread_64 : decode cX6_spread 64 = .ok (.aload_n 0, 1) := by decide +kernel
theorem dX6_spread_65 : decode cX6_spread 65 = .ok (.iload 7, 2) := by decide +kernel
theorem dX6_spread_67 : decode cX6_spread 67 = .ok (.putfield 25, 3) := by decide +kernel
theorem dX6_spread_70 : decode cX6_spread 70 = .ok (.iconst 1, 1) := by decide +kernel
theorem dX6_spread_71 : decode cX6_spread 71 = .ok (.ireturn, 1) := by decide +kernel
theorem dX6_spread_72 : decode cX6_spread 72 = .ok (.aload 5, 2) := by decide +kernel
theorem dX6_spread_74 : decode cX6_spread 74 = .ok (.getfield 75, 3) := by decide +kernel
theorem dX6_spread_77 : decode cX6_spread 77 = .ok (.ifCond .ne 14, 3) := by decide +kernel
theorem dX6_spread_80 : decode cX6_spread 80 = .ok (.aload_n 0, 1) := by decide +kernel
theorem dX6_spread_81 : decode cX6_spread 81 = .ok (.aload 5, 2) := by decide +kernel
theorem dX6_spread_83 : decode cX6_spread 83 = .ok (.invokestatic 41, 3) := by decide +kernel
theorem dX6_spread_86 : decode cX6_spread 86 = .ok (.iload 7, 2) := by decide +kernel
theorem dX6_spread_88 : decode cX6_spread 88 = .ok (.invokevirtual 45, 3) := by decide +kernel
theorem dX6_spread_91 : decode cX6_spread 91 = .ok (.iinc 6 1, 3) := by decide +kernel
theorem dX6_spread_94 : decode cX6_spread 94 = .ok (.goto (-85), 3) := by decide +kernel
theorem dX6_spread_97 : decode cX6_spread 97 = .ok (.iconst 0, 1) := by decide +kernel
theorem dX6_spread_98 : decode cX6_spread 98 = .ok (.ireturn, 1) := by decide +kernel
theorem dX6_note_0 : decode cX6_note 0 = .ok (.iload_n 1, 1) := by decide +kernel
theorem dX6_note_1 : decode cX6_note 1 = .ok (.ifCond .lt 25, 3) := by decide +kernel
theorem dX6_note_4 : decode cX6_note 4 = .ok (.iload_n 1, 1) := by decide +kernel
theorem dX6_note_5 : decode cX6_note 5 = .ok (.ldc 28, 2) := by decide +kernel
theorem dX6_note_7 : decode cX6_note 7 = .ok (.if_icmp .ge 19, 3) := by decide +kernel
theorem dX6_note_10 : decode cX6_note 10 = .ok (.aload_n 0, 1) := by decide +kernel
theorem dX6_note_11 : decode cX6_note 11 = .ok (.getfield 18, 3) := by decide +kernel
theorem dX6_note_14 : decode cX6_note 14 = .ok (.aload_n 0, 1) := by decide +kernel
theorem dX6_note_15 : decode cX6_note 15 = .ok (.getfield 15, 3) := by decide +kernel
theorem dX6_note_18 : decode cX6_note 18 = .ok (.arraylength, 1) := by decide +kernel
theorem dX6_note_19 : decode cX6_note 19 = .ok (.if_icmp .ge 7, 3) := by decide +kernel
theorem dX6_note_22 : decode cX6_note 22 = .ok (.iconst 1, 1) := by decide +kernel
theorem dX6_note_23 : decode cX6_note 23 = .ok (.goto 4, 3) := by decide +kernel
theorem dX6_note_26 : decode cX6_note 26 = .ok (.iconst 0, 1) := by decide +kernel
theorem dX6_note_27 : decode cX6_note 27 = .ok (.istore_n 3, 1) := by decide +kernel
theorem dX6_note_28 : decode cX6_note 28 = .ok (.iload_n 3, 1) := by decide +kernel
theorem dX6_note_29 : decode cX6_note 29 = .ok (.ifCond .eq 62, 3) := by decide +kernel
theorem dX6_note_32 : decode cX6_note 32 = .ok (.aload_n 0, 1) := by decide +kernel
theorem dX6_note_33 : decode cX6_note 33 = .ok (.getfield 11, 3) := by decide +kernel
theorem dX6_note_36 : decode cX6_note 36 = .ok (.iload_n 1, 1) := by decide +kernel
theorem dX6_note_37 : decode cX6_note 37 = .ok (.iconst 5, 1) := by decide +kernel
theorem dX6_note_38 : decode cX6_note 38 = .ok (.ishr, 1) := by decide +kernel
theorem dX6_note_39 : decode cX6_note 39 = .ok (.iaload, 1) := by decide +kernel
theorem dX6_note_40 : decode cX6_note 40 = .ok (.iload_n 1, 1) := by decide +kernel
theorem dX6_note_41 : decode cX6_note 41 = .ok (.bipush 31, 2) := by decide +kernel
theorem dX6_note_43 : decode cX6_note 43 = .ok (.iand, 1) := by decide +kernel
theorem dX6_note_44 : decode cX6_note 44 = .ok (.iushr, 1) := by decide +kernel
theorem dX6_note_45 : decode cX6_note 45 = .ok (.iconst 1, 1) := by decide +kernel
theorem dX6_note_46 : decode cX6_note 46 = .ok (.iand, 1) := by decide +kernel
theorem dX6_note_47 : decode cX6_note 47 = .ok (.ifCond .ne 44, 3) := by decide +kernel
theorem dX6_note_50 : decode cX6_note 50 = .ok (.aload_n 0, 1) := by decide +kernel
theorem dX6_note_51 : decode cX6_note 51 = .ok (.getfield 11, 3) := by decide +kernel
theorem dX6_note_54 : decode cX6_note 54 = .ok (.iload_n 1, 1) := by decide +kernel
theorem dX6_note_55 : decode cX6_note 55 = .ok (.iconst 5, 1) := by decide +kernel
theorem dX6_note_56 : decode cX6_note 56 = .ok (.ishr, 1) := by decide +kernel
theorem dX6_note_57 : decode cX6_note 57 = .ok (.dup2, 1) := by decide +kernel
theorem dX6_note_58 : decode cX6_note 58 = .ok (.iaload, 1) := by decide +kernel
theorem dX6_note_59 : decode cX6_note 59 = .ok (.iconst 1, 1) := by decide +kernel
theorem dX6_note_60 : decode cX6_note 60 = .ok (.iload_n 1, 1) := by decide +kernel
theorem dX6_note_61 : decode cX6_note 61 = .ok (.bipush 31, 2) := by decide +kernel
theorem dX6_note_63 : decode cX6_note 63 = .ok (.iand, 1) := by decide +kernel
theorem dX6_note_64 : decode cX6_note 64 = .ok (.ishl, 1) := by decide +kernel
theorem dX6_note_65 : decode cX6_note 65 = .ok (.ior, 1) := by decide +kernel
theorem dX6_note_66 : decode cX6_note 66 = .ok (.iastore, 1) := by decide +kernel
theorem dX6_note_67 : decode cX6_note 67 = .ok (.aload_n 0, 1) := by decide +kernel
theorem dX6_note_68 : decode cX6_note 68 = .ok (.getfield 15, 3) := by decide +kernel
theorem dX6_note_71 : decode cX6_note 71 = .ok (.aload_n 0, 1) := by decide +kernel
theorem dX6_note_72 : decode cX6_note 72 = .ok (.getfield 18, 3) := by decide +kernel
theorem dX6_note_75 : decode cX6_note 75 = .ok (.iload_n 1, 1) := by decide +kernel
theorem dX6_note_76 : decode cX6_note 76 = .ok (.iconst 3, 1) := by decide +kernel
theorem dX6_note_77 : decode cX6_note 77 = .ok (.ishl, 1) := by decide +kernel
theorem dX6_note_78 : decode cX6_note 78 = .ok (.iload_n 2, 1) := by decide +kernel
theorem dX6_note_79 : decode cX6_note 79 = .ok (.ior, 1) := by decide +kernel
theorem dX6_note_80 : decode cX6_note 80 = .ok (.iastore, 1) := by decide +kernel
theorem dX6_note_81 : decode cX6_note 81 = .ok (.aload_n 0, 1) := by decide +kernel
theorem dX6_note_82 : decode cX6_note 82 = .ok (.dup, 1) := by decide +kernel
theorem dX6_note_83 : decode cX6_note 83 = .ok (.getfield 18, 3) := by decide +kernel
theorem dX6_note_86 : decode cX6_note 86 = .ok (.iconst 1, 1) := by decide +kernel
theorem dX6_note_87 : decode cX6_note 87 = .ok (.iadd, 1) := by decide +kernel
theorem dX6_note_88 : decode cX6_note 88 = .ok (.putfield 18, 3) := by decide +kernel
theorem dX6_note_91 : decode cX6_note 91 = .ok (.return_, 1) := by decide +kernel
theorem dX6_packed_0 : decode cX6_packed 0 = .ok (.aload_n 0, 1) := by decide +kernel
