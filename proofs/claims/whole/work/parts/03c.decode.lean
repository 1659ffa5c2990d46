theorem dX11_check_38 : decode cX11_check 38 = .ok (.aload_n 0, 1) := by decide +kernel
theorem dX11_check_39 : decode cX11_check 39 = .ok (.getfield 11, 3) := by decide +kernel
theorem dX11_check_42 : decode cX11_check 42 = .ok (.iload_n 2, 1) := by decide +kernel
theorem dX11_check_43 : decode cX11_check 43 = .ok (.aaload, 1) := by decide +kernel
theorem dX11_check_44 : decode cX11_check 44 = .ok (.getfield 146, 3) := by decide +kernel
theorem dX11_check_47 : decode cX11_check 47 = .ok (.getfield 190, 3) := by decide +kernel
theorem dX11_check_50 : decode cX11_check 50 = .ok (.goto 6, 3) := by decide +kernel
theorem dX11_check_53 : decode cX11_check 53 = .ok (.sipush 255, 3) := by decide +kernel
theorem dX11_check_56 : decode cX11_check 56 = .ok (.istore_n 3, 1) := by decide +kernel
theorem dX11_check_57 : decode cX11_check 57 = .ok (.aload_n 0, 1) := by decide +kernel
theorem dX11_check_58 : decode cX11_check 58 = .ok (.getfield 15, 3) := by decide +kernel
theorem dX11_check_61 : decode cX11_check 61 = .ok (.iload_n 2, 1) := by decide +kernel
theorem dX11_check_62 : decode cX11_check 62 = .ok (.iaload, 1) := by decide +kernel
theorem dX11_check_63 : decode cX11_check 63 = .ok (.iload_n 3, 1) := by decide +kernel
theorem dX11_check_64 : decode cX11_check 64 = .ok (.if_icmp .eq 5, 3) := by decide +kernel
theorem dX11_check_67 : decode cX11_check 67 = .ok (.iload_n 2, 1) := by decide +kernel
theorem dX11_check_68 : decode cX11_check 68 = .ok (.ireturn, 1) := by decide +kernel
theorem dX11_check_69 : decode cX11_check 69 = .ok (.iinc 2 1, 3) := by decide +kernel
theorem dX11_check_72 : decode cX11_check 72 = .ok (.goto (-51), 3) := by decide +kernel
theorem dX11_check_75 : decode cX11_check 75 = .ok (.iconst (-1), 1) := by decide +kernel
theorem dX11_check_76 : decode cX11_check 76 = .ok (.ireturn, 1) := by decide +kernel
theorem dX11_count_0 : decode cX11_count 0 = .ok (.iload_n 1, 1) := by decide +kernel
theorem dX11_count_1 : decode cX11_count 1 = .ok (.tableswitch 99 0 8 #[51, 56, 61, 66, 71, 76, 84, 89, 94], 51) := by decide +kernel
theorem dX11_count_52 : decode cX11_count 52 = .ok (.aload_n 0, 1) := by decide +kernel
theorem dX11_count_53 : decode cX11_count 53 = .ok (.getfield 89, 3) := by decide +kernel
theorem dX11_count_56 : decode cX11_count 56 = .ok (.ireturn, 1) := by decide +kernel
theorem dX11_count_57 : decode cX11_count 57 = .ok (.aload_n 0, 1) := by decide +kernel
theorem dX11_count_58 : decode cX11_count 58 = .ok (.invokevirtual 317, 3) := by decide +kernel
theorem dX11_count_61 : decode cX11_count 61 = .ok (.ireturn, 1) := by decide +kernel
theorem dX11_count_62 : decode cX11_count 62 = .ok (.aload_n 0, 1) := by decide +kernel
theorem dX11_count_63 : decode cX11_count 63 = .ok (.invokevirtual 320, 3) := by decide +kernel
theorem dX11_count_66 : decode cX11_count 66 = .ok (.ireturn, 1) := by decide +kernel
theorem dX11_count_67 : decode cX11_count 67 = .ok (.aload_n 0, 1) := by decide +kernel
theorem dX11_count_68 : decode cX11_count 68 = .ok (.invokevirtual 323, 3) := by decide +kernel
theorem dX11_count_71 : decode cX11_count 71 = .ok (.ireturn, 1) := by decide +kernel
theorem dX11_count_72 : decode cX11_count 72 = .ok (.aload_n 0, 1) := by decide +kernel
theorem dX11_count_73 : decode cX11_count 73 = .ok (.getfield 86, 3) := by decide +kernel
theorem dX11_count_76 : decode cX11_count 76 = .ok (.ireturn, 1) := by decide +kernel
theorem dX11_count_77 : decode cX11_count 77 = .ok (.aload_n 0, 1) := by decide +kernel
theorem dX11_count_78 : decode cX11_count 78 = .ok (.getfield 26, 3) := by decide +kernel
theorem dX11_count_81 : decode cX11_count 81 = .ok (.getfield 326, 3) := by decide +kernel
theorem dX11_count_84 : decode cX11_count 84 = .ok (.ireturn, 1) := by decide +kernel
theorem dX11_count_85 : decode cX11_count 85 = .ok (.aload_n 0, 1) := by decide +kernel
theorem dX11_count_86 : decode cX11_count 86 = .ok (.getfield 19, 3) := by decide +kernel
theorem dX11_count_89 : decode cX11_count 89 = .ok (.ireturn, 1) := by decide +kernel
theorem dX11_count_90 : decode cX11_count 90 = .ok (.aload_n 0, 1) := by decide +kernel
theorem dX11_count_91 : decode cX11_count 91 = .ok (.getfield 92, 3) := by decide +kernel
theorem dX11_count_94 : decode cX11_count 94 = .ok (.ireturn, 1) := by decide +kernel
theorem dX11_count_95 : decode cX11_count 95 = .ok (.aload_n 0, 1) := by decide +kernel
theorem dX11_count_96 : decode cX11_count 96 = .ok (.invokevirtual 329, 3) := by decide +kernel
theorem dX11_count_99 : decode cX11_count 99 = .ok (.ireturn, 1) := by decide +kernel
theorem dX11_count_100 : decode cX11_count 100 = .ok (.iconst (-1), 1) := by decide +kernel
theorem dX11_count_101 : decode cX11_count 101 = .ok (.ireturn, 1) := by decide +kernel
theorem dX11_putBytes_0 : decode cX11_putBytes 0 = .ok (.bipush 24, 2) := by decide +kernel
theorem dX11_putBytes_2 : decode cX11_putBytes 2 = .ok (.istore_n 2, 1) := by decide +kernel
theorem dX11_putBytes_3 : decode cX11_putBytes 3 = .ok (.iload_n 2, 1) := by decide +kernel
theorem dX11_putBytes_4 : decode cX11_putBytes 4 = .ok (.ifCond .lt 45, 3) := by decide +kernel
theorem dX11_putBytes_7 : decode cX11_putBytes 7 = .ok (.aload_n 0, 1) := by decide +kernel
theorem dX11_putBytes_8 : decode cX11_putBytes 8 = .ok (.getfield 19, 3) := by decide +kernel
theorem dX11_putBytes_11 : decode cX11_putBytes 11 = .ok (.sipush 260, 3) := by decide +kernel
theorem dX11_putBytes_14 : decode cX11_putBytes 14 = .ok (.if_icmp .ge 29, 3) := by decide +kernel
theorem dX11_putBytes_17 : decode cX11_putBytes 17 = .ok (.aload_n 0, 1) := by decide +kernel
theorem dX11_putBytes_18 : decode cX11_putBytes 18 = .ok (.getfield 15, 3) := by decide +kernel
theorem dX11_putBytes_21 : decode cX11_putBytes 21 = .ok (.aload_n 0, 1) := by decide +kernel
theorem dX11_putBytes_22 : decode cX11_putBytes 22 = .ok (.getfield 19, 3) := by decide +kernel
theorem dX11_putBytes_25 : decode cX11_putBytes 25 = .ok (.iload_n 1, 1) := by decide +kernel
theorem dX11_putBytes_26 : decode cX11_putBytes 26 = .ok (.iload_n 2, 1) := by decide +kernel
theorem dX11_putBytes_27 : decode cX11_putBytes 27 = .ok (.iushr, 1) := by decide +kernel
theorem dX11_putBytes_28 : decode cX11_putBytes 28 = .ok (.sipush 255, 3) := by decide +kernel
theorem dX11_putBytes_31 : decode cX11_putBytes 31 = .ok (.iand, 1) := by decide +kernel
theorem dX11_putBytes_32 : decode cX11_putBytes 32 = .ok (.iastore, 1) := by decide +kernel
theorem dX11_putBytes_33 : decode cX11_putBytes 33 = .ok (.aload_n 0, 1) := by decide +kernel
theorem dX11_putBytes_34 : decode cX11_putBytes 34 = .ok (.dup, 1) := by decide +kernel
theorem dX11_putBytes_35 : decode cX11_putBytes 35 = .ok (.getfield 19, 3) := by decide +kernel
theorem dX11_putBytes_38 : decode cX11_putBytes 38 = .ok (.iconst 1, 1) := by decide +kernel
theorem dX11_putBytes_39 : decode cX11_putBytes 39 = .ok (.iadd, 1) := by decide +kernel
theorem dX11_putBytes_40 : decode cX11_putBytes 40 = .ok (.putfield 19, 3) := by decide +kernel
theorem dX11_putBytes_43 : decode cX11_putBytes 43 = .ok (.iinc 2 (-8), 3) := by decide +kernel
theorem dX11_putBytes_46 : decode cX11_putBytes 46 = .ok (.goto (-43), 3) := by decide +kernel
theorem dX11_putBytes_49 : decode cX11_putBytes 49 = .ok (.return_, 1) := by decide +kernel
theorem dX11_tapeHas_0 : decode cX11_tapeHas 0 = .ok (.iload_n 1, 1) := by decide +kernel
theorem dX11_tapeHas_1 : decode cX11_tapeHas 1 = .ok (.iload_n 2, 1) := by decide +kernel
theorem dX11_tapeHas_2 : decode cX11_tapeHas 2 = .ok (.if_icmp .lt 20, 3) := by decide +kernel
theorem dX11_tapeHas_5 : decode cX11_tapeHas 5 = .ok (.iload_n 1, 1) := by decide +kernel
theorem dX11_tapeHas_6 : decode cX11_tapeHas 6 = .ok (.iload_n 3, 1) := by decide +kernel
theorem dX11_tapeHas_7 : decode cX11_tapeHas 7 = .ok (.if_icmp .gt 15, 3) := by decide +kernel
theorem dX11_tapeHas_10 : decode cX11_tapeHas 10 = .ok (.iload_n 1, 1) := by decide +kernel
theorem dX11_tapeHas_11 : decode cX11_tapeHas 11 = .ok (.aload_n 0, 1) := by decide +kernel
theorem dX11_tapeHas_12 : decode cX11_tapeHas 12 = .ok (.getfield 19, 3) := by decide +kernel
theorem dX11_tapeHas_15 : decode cX11_tapeHas 15 = .ok (.if_icmp .gt 7, 3) := by decide +kernel
theorem dX11_tapeHas_18 : decode cX11_tapeHas 18 = .ok (.iconst 1, 1) := by decide +kernel
theorem dX11_tapeHas_19 : decode cX11_tapeHas 19 = .ok (.goto 4, 3) := by decide +kernel
theorem dX11_tapeHas_22 : decode cX11_tapeHas 22 = .ok (.iconst 0, 1) := by decide +kernel
theorem dX11_tapeHas_23 : decode cX11_tapeHas 23 = .ok (.ireturn, 1) := by decide +kernel
theorem dX11_isTold_0 : decode cX11_isTold 0 = .ok (.iload_n 1, 1) := by decide +kernel
theorem dX11_isTold_1 : decode cX11_isTold 1 = .ok (.ifCond .lt 25, 3) := by decide +kernel
theorem dX11_isTold_4 : decode cX11_isTold 4 = .ok (.iload_n 1, 1) := by decide +kernel
theorem dX11_isTold_5 : decode cX11_isTold 5 = .ok (.bipush 12, 2) := by decide +kernel
theorem dX11_isTold_7 : decode cX11_isTold 7 = .ok (.if_icmp .ge 19, 3) := by decide +kernel
theorem dX11_isTold_10 : decode cX11_isTold 10 = .ok (.aload_n 0, 1) := by decide +kernel
theorem dX11_isTold_11 : decode cX11_isTold 11 = .ok (.getfield 11, 3) := by decide +kernel
theorem dX11_isTold_14 : decode cX11_isTold 14 = .ok (.iload_n 1, 1) := by decide +kernel
theorem dX11_isTold_15 : decode cX11_isTold 15 = .ok (.aaload, 1) := by decide +kernel
theorem dX11_isTold_16 : decode cX11_isTold 16 = .ok (.getfield 314, 3) := by decide +kernel
theorem dX11_isTold_19 : decode cX11_isTold 19 = .ok (.ifCond .eq 7, 3) := by decide +kernel
theorem dX11_isTold_22 : decode cX11_isTold 22 = .ok (.iconst 1, 1) := by decide +kernel
theorem dX11_isTold_23 : decode cX11_isTold 23 = .ok (.goto 4, 3) := by decide +kernel
theorem dX11_isTold_26 : decode cX11_isTold 26 = .ok (.iconst 0, 1) := by decide +kernel
theorem dX11_isTold_27 : decode cX11_isTold 27 = .ok (.ireturn, 1) := by decide +kernel
theorem dX11_isPlace_0 : decode cX11_isPlace 0 = .ok (.iload_n 0, 1) := by decide +kernel
theorem dX11_isPlace_1 : decode cX11_isPlace 1 = .ok (.bipush 100, 2) := by decide +kernel
theorem dX11_isPlace_3 : decode cX11_isPlace 3 = .ok (.if_icmp .eq 12, 3) := by decide +kernel
theorem dX11_isPlace_6 : decode cX11_isPlace 6 = .ok (.iload_n 0, 1) := by decide +kernel
theorem dX11_isPlace_7 : decode cX11_isPlace 7 = .ok (.ifCond .lt 12, 3) := by decide +kernel
theorem dX11_isPlace_10 : decode cX11_isPlace 10 = .ok (.iload_n 0, 1) := by decide +kernel
theorem dX11_isPlace_11 : decode cX11_isPlace 11 = .ok (.iload_n 1, 1) := by decide +kernel
theorem dX11_isPlace_12 : decode cX11_isPlace 12 = .ok (.if_icmp .ge 7, 3) := by decide +kernel
theorem dX11_isPlace_15 : decode cX11_isPlace 15 = .ok (.iconst 1, 1) := by decide +kernel
theorem dX11_isPlace_16 : decode cX11_isPlace 16 = .ok (.goto 4, 3) := by decide +kernel
theorem dX11_isPlace_19 : decode cX11_isPlace 19 = .ok (.iconst 0, 1) := by decide +kernel
theorem dX11_isPlace_20 : decode cX11_isPlace 20 = .ok (.ireturn, 1) := by decide +kernel
theorem dX11_anyAbove_0 : decode cX11_anyAbove 0 = .ok (.iload_n 2, 1) := by decide +kernel
theorem dX11_anyAbove_1 : decode cX11_anyAbove 1 = .ok (.istore 5, 2) := by decide +kernel
theorem dX11_anyAbove_3 : decode cX11_anyAbove 3 = .ok (.iload 5, 2) := by decide +kernel
theorem dX11_anyAbove_5 : decode cX11_anyAbove 5 = .ok (.iload_n 1, 1) := by decide +kernel
theorem dX11_anyAbove_6 : decode cX11_anyAbove 6 = .ok (.if_icmp .ge 26, 3) := by decide +kernel
theorem dX11_anyAbove_9 : decode cX11_anyAbove 9 = .ok (.aload_n 0, 1) := by decide +kernel
theorem dX11_anyAbove_10 : decode cX11_anyAbove 10 = .ok (.getfield 15, 3) := by decide +kernel
theorem dX11_anyAbove_13 : decode cX11_anyAbove 13 = .ok (.iload 5, 2) := by decide +kernel
theorem dX11_anyAbove_15 : decode cX11_anyAbove 15 = .ok (.iaload, 1) := by decide +kernel
theorem dX11_anyAbove_16 : decode cX11_anyAbove 16 = .ok (.iload 4, 2) := by decide +kernel
theorem dX11_anyAbove_18 : decode cX11_anyAbove 18 = .ok (.if_icmp .le 5, 3) := by decide +kernel
theorem dX11_anyAbove_21 : decode cX11_anyAbove 21 = .ok (.iconst 1, 1) := by decide +kernel
theorem dX11_anyAbove_22 : decode cX11_anyAbove 22 = .ok (.ireturn, 1) := by decide +kernel
theorem dX11_anyAbove_23 : decode cX11_anyAbove 23 = .ok (.iload 5, 2) := by decide +kernel
theorem dX11_anyAbove_25 : decode cX11_anyAbove 25 = .ok (.iload_n 3, 1) := by decide +kernel
theorem dX11_anyAbove_26 : decode cX11_anyAbove 26 = .ok (.iadd, 1) := by decide +kernel
theorem dX11_anyAbove_27 : decode cX11_anyAbove 27 = .ok (.istore 5, 2) := by decide +kernel
theorem dX11_anyAbove_29 : decode cX11_anyAbove 29 = .ok (.goto (-26), 3) := by decide +kernel
theorem dX11_anyAbove_32 : decode cX11_anyAbove 32 = .ok (.iconst 0, 1) := by decide +kernel
theorem dX11_anyAbove_33 : decode cX11_anyAbove 33 = .ok (.ireturn, 1) := by decide +kernel
theorem dX11_rehearse_0 : decode cX11_rehearse 0 = .ok (.aload_n 0, 1) := by decide +kernel
theorem dX11_rehearse_1 : decode cX11_rehearse 1 = .ok (.iconst 0, 1) := by decide +kernel
theorem dX11_rehearse_2 : decode cX11_rehearse 2 = .ok (.putfield 19, 3) := by decide +kernel
theorem dX11_rehearse_5 : decode cX11_rehearse 5 = .ok (.aload_n 0, 1) := by decide +kernel
theorem dX11_rehearse_6 : decode cX11_rehearse 6 = .ok (.getfield 40, 3) := by decide +kernel
theorem dX11_rehearse_9 : decode cX11_rehearse 9 = .ok (.aload_n 0, 1) := by decide +kernel
theorem dX11_rehearse_10 : decode cX11_rehearse 10 = .ok (.getfield 15, 3) := by decide +kernel
theorem dX11_rehearse_13 : decode cX11_rehearse 13 = .ok (.iload_n 2, 1) := by decide +kernel
theorem dX11_rehearse_14 : decode cX11_rehearse 14 = .ok (.iconst 0, 1) := by decide +kernel
theorem dX11_rehearse_15 : decode cX11_rehearse 15 = .ok (.invokevirtual 128, 3) := by decide +kernel
theorem dX11_rehearse_18 : decode cX11_rehearse 18 = .ok (.istore_n 3, 1) := by decide +kernel
theorem dX11_rehearse_19 : decode cX11_rehearse 19 = .ok (.iload_n 3, 1) := by decide +kernel
theorem dX11_rehearse_20 : decode cX11_rehearse 20 = .ok (.ifCond .ge 5, 3) := by decide +kernel
theorem dX11_rehearse_23 : decode cX11_rehearse 23 = .ok (.iload_n 3, 1) := by decide +kernel
theorem dX11_rehearse_24 : decode cX11_rehearse 24 = .ok (.ireturn, 1) := by decide +kernel
theorem dX11_rehearse_25 : decode cX11_rehearse 25 = .ok (.aload_n 0, 1) := by decide +kernel
theorem dX11_rehearse_26 : decode cX11_rehearse 26 = .ok (.getfield 47, 3) := by decide +kernel
theorem dX11_rehearse_29 : decode cX11_rehearse 29 = .ok (.iload_n 1, 1) := by decide +kernel
theorem dX11_rehearse_30 : decode cX11_rehearse 30 = .ok (.aload_n 0, 1) := by decide +kernel
theorem dX11_rehearse_31 : decode cX11_rehearse 31 = .ok (.getfield 11, 3) := by decide +kernel
theorem dX11_rehearse_34 : decode cX11_rehearse 34 = .ok (.iload_n 1, 1) := by decide +kernel
theorem dX11_rehearse_35 : decode cX11_rehearse 35 = .ok (.aaload, 1) := by decide +kernel
theorem dX11_rehearse_36 : decode cX11_rehearse 36 = .ok (.aload_n 0, 1) := by decide +kernel
theorem dX11_rehearse_37 : decode cX11_rehearse 37 = .ok (.getfield 26, 3) := by decide +kernel
theorem dX11_rehearse_40 : decode cX11_rehearse 40 = .ok (.aload_n 0, 1) := by decide +kernel
theorem dX11_rehearse_41 : decode cX11_rehearse 41 = .ok (.getfield 86, 3) := by decide +kernel
theorem dX11_rehearse_44 : decode cX11_rehearse 44 = .ok (.aload_n 0, 1) := by decide +kernel
theorem dX11_rehearse_45 : decode cX11_rehearse 45 = .ok (.getfield 92, 3) := by decide +kernel
theorem dX11_rehearse_48 : decode cX11_rehearse 48 = .ok (.invokevirtual 215, 3) := by decide +kernel
theorem dX11_rehearse_51 : decode cX11_rehearse 51 = .ok (.aload_n 0, 1) := by decide +kernel
theorem dX11_rehearse_52 : decode cX11_rehearse 52 = .ok (.getfield 47, 3) := by decide +kernel
theorem dX11_rehearse_55 : decode cX11_rehearse 55 = .ok (.aload_n 0, 1) := by decide +kernel
theorem dX11_rehearse_56 : decode cX11_rehearse 56 = .ok (.getfield 40, 3) := by decide +kernel
theorem dX11_rehearse_59 : decode cX11_rehearse 59 = .ok (.getfield 131, 3) := by decide +kernel
theorem dX11_rehearse_62 : decode cX11_rehearse 62 = .ok (.iload_n 3, 1) := by decide +kernel
theorem dX11_rehearse_63 : decode cX11_rehearse 63 = .ok (.invokevirtual 332, 3) := by decide +kernel
theorem dX11_rehearse_66 : decode cX11_rehearse 66 = .ok (.iconst 0, 1) := by decide +kernel
theorem dX11_rehearse_67 : decode cX11_rehearse 67 = .ok (.ireturn, 1) := by decide +kernel
theorem dX11_scratchOf_0 : decode cX11_scratchOf 0 = .ok (.iconst 0, 1) := by decide +kernel
theorem dX11_scratchOf_1 : decode cX11_scratchOf 1 = .ok (.istore_n 2, 1) := by decide +kernel
theorem dX11_scratchOf_2 : decode cX11_scratchOf 2 = .ok (.iconst 0, 1) := by decide +kernel
theorem dX11_scratchOf_3 : decode cX11_scratchOf 3 = .ok (.istore_n 3, 1) := by decide +kernel
theorem dX11_scratchOf_4 : decode cX11_scratchOf 4 = .ok (.iload_n 3, 1) := by decide +kernel
theorem dX11_scratchOf_5 : decode cX11_scratchOf 5 = .ok (.bipush 12, 2) := by decide +kernel
theorem dX11_scratchOf_7 : decode cX11_scratchOf 7 = .ok (.if_icmp .ge 27, 3) := by decide +kernel
theorem dX11_scratchOf_10 : decode cX11_scratchOf 10 = .ok (.iload_n 1, 1) := by decide +kernel
theorem dX11_scratchOf_11 : decode cX11_scratchOf 11 = .ok (.iload_n 3, 1) := by decide +kernel
theorem dX11_scratchOf_12 : decode cX11_scratchOf 12 = .ok (.ishr, 1) := by decide +kernel
theorem dX11_scratchOf_13 : decode cX11_scratchOf 13 = .ok (.iconst 1, 1) := by decide +kernel
theorem dX11_scratchOf_14 : decode cX11_scratchOf 14 = .ok (.iand, 1) := by decide +kernel
theorem dX11_scratchOf_15 : decode cX11_scratchOf 15 = .ok (.iconst 1, 1) := by decide +kernel
theorem dX11_scratchOf_16 : decode cX11_scratchOf 16 = .ok (.if_icmp .ne 12, 3) := by decide +kernel
theorem dX11_scratchOf_19 : decode cX11_scratchOf 19 = .ok (.iload_n 2, 1) := by decide +kernel
theorem dX11_scratchOf_20 : decode cX11_scratchOf 20 = .ok (.aload_n 0, 1) := by decide +kernel
theorem dX11_scratchOf_21 : decode cX11_scratchOf 21 = .ok (.getfield 79, 3) := by decide +kernel
theorem dX11_scratchOf_24 : decode cX11_scratchOf 24 = .ok (.iload_n 3, 1) := by decide +kernel
theorem dX11_scratchOf_25 : decode cX11_scratchOf 25 = .ok (.iaload, 1) := by decide +kernel
theorem dX11_scratchOf_26 : decode cX11_scratchOf 26 = .ok (.ior, 1) := by decide +kernel
theorem dX11_scratchOf_27 : decode cX11_scratchOf 27 = .ok (.istore_n 2, 1) := by decide +kernel
theorem dX11_scratchOf_28 : decode cX11_scratchOf 28 = .ok (.iinc 3 1, 3) := by decide +kernel
theorem dX11_scratchOf_31 : decode cX11_scratchOf 31 = .ok (.goto (-27), 3) := by decide +kernel
theorem dX11_scratchOf_34 : decode cX11_scratchOf 34 = .ok (.iload_n 2, 1) := by decide +kernel
theorem dX11_scratchOf_35 : decode cX11_scratchOf 35 = .ok (.ireturn, 1) := by decide +kernel
theorem dX11_gatherSins_0 : decode cX11_gatherSins 0 = .ok (.iconst 0, 1) := by decide +kernel
theorem dX11_gatherSins_1 : decode cX11_gatherSins 1 = .ok (.istore_n 3, 1) := by decide +kernel
theorem dX11_gatherSins_2 : decode cX11_gatherSins 2 = .ok (.iload_n 3, 1) := by decide +kernel
theorem dX11_gatherSins_3 : decode cX11_gatherSins 3 = .ok (.aload_n 1, 1) := by decide +kernel
theorem dX11_gatherSins_4 : decode cX11_gatherSins 4 = .ok (.getfield 187, 3) := by decide +kernel
theorem dX11_gatherSins_7 : decode cX11_gatherSins 7 = .ok (.if_icmp .ge 33, 3) := by decide +kernel
theorem dX11_gatherSins_10 : decode cX11_gatherSins 10 = .ok (.aload_n 0, 1) := by decide +kernel
theorem dX11_gatherSins_11 : decode cX11_gatherSins 11 = .ok (.getfield 79, 3) := by decide +kernel
theorem dX11_gatherSins_14 : decode cX11_gatherSins 14 = .ok (.aload_n 1, 1) := by decide +kernel
theorem dX11_gatherSins_15 : decode cX11_gatherSins 15 = .ok (.getfield 205, 3) := by decide +kernel
theorem dX11_gatherSins_18 : decode cX11_gatherSins 18 = .ok (.iload_n 3, 1) := by decide +kernel
theorem dX11_gatherSins_19 : decode cX11_gatherSins 19 = .ok (.iaload, 1) := by decide +kernel
theorem dX11_gatherSins_20 : decode cX11_gatherSins 20 = .ok (.dup2, 1) := by decide +kernel
theorem dX11_gatherSins_21 : decode cX11_gatherSins 21 = .ok (.iaload, 1) := by decide +kernel
theorem dX11_gatherSins_22 : decode cX11_gatherSins 22 = .ok (.iconst 1, 1) := by decide +kernel
theorem dX11_gatherSins_23 : decode cX11_gatherSins 23 = .ok (.aload_n 1, 1) := by decide +kernel
theorem dX11_gatherSins_24 : decode cX11_gatherSins 24 = .ok (.getfield 208, 3) := by decide +kernel
theorem dX11_gatherSins_27 : decode cX11_gatherSins 27 = .ok (.iload_n 3, 1) := by decide +kernel
theorem dX11_gatherSins_28 : decode cX11_gatherSins 28 = .ok (.iaload, 1) := by decide +kernel
theorem dX11_gatherSins_29 : decode cX11_gatherSins 29 = .ok (.iload_n 2, 1) := by decide +kernel
theorem dX11_gatherSins_30 : decode cX11_gatherSins 30 = .ok (.iadd, 1) := by decide +kernel
theorem dX11_gatherSins_31 : decode cX11_gatherSins 31 = .ok (.ishl, 1) := by decide +kernel
theorem dX11_gatherSins_32 : decode cX11_gatherSins 32 = .ok (.ior, 1) := by decide +kernel
theorem dX11_gatherSins_33 : decode cX11_gatherSins 33 = .ok (.iastore, 1) := by decide +kernel
theorem dX11_gatherSins_34 : decode cX11_gatherSins 34 = .ok (.iinc 3 1, 3) := by decide +kernel
theorem dX11_gatherSins_37 : decode cX11_gatherSins 37 = .ok (.goto (-35), 3) := by decide +kernel
theorem dX11_gatherSins_40 : decode cX11_gatherSins 40 = .ok (.return_, 1) := by decide +kernel
theorem dX11_gatherWitnessesByYear_0 : decode cX11_gatherWitnessesByYear 0 = .ok (.aload_n 0, 1) := by decide +kernel
theorem dX11_gatherWitnessesByYear_1 : decode cX11_gatherWitnessesByYear 1 = .ok (.getfield 79, 3) := by decide +kernel
theorem dX11_gatherWitnessesByYear_4 : decode cX11_gatherWitnessesByYear 4 = .ok (.iconst 0, 1) := by decide +kernel
theorem dX11_gatherWitnessesByYear_5 : decode cX11_gatherWitnessesByYear 5 = .ok (.invokestatic 238, 3) := by decide +kernel
theorem dX11_gatherWitnessesByYear_8 : decode cX11_gatherWitnessesByYear 8 = .ok (.iconst 0, 1) := by decide +kernel
theorem dX11_gatherWitnessesByYear_9 : decode cX11_gatherWitnessesByYear 9 = .ok (.istore_n 1, 1) := by decide +kernel
theorem dX11_gatherWitnessesByYear_10 : decode cX11_gatherWitnessesByYear 10 = .ok (.iload_n 1, 1) := by decide +kernel
theorem dX11_gatherWitnessesByYear_11 : decode cX11_gatherWitnessesByYear 11 = .ok (.bipush 12, 2) := by decide +kernel
theorem dX11_gatherWitnessesByYear_13 : decode cX11_gatherWitnessesByYear 13 = .ok (.if_icmp .ge 63, 3) := by decide +kernel
theorem dX11_gatherWitnessesByYear_16 : decode cX11_gatherWitnessesByYear 16 = .ok (.aload_n 0, 1) := by decide +kernel
theorem dX11_gatherWitnessesByYear_17 : decode cX11_gatherWitnessesByYear 17 = .ok (.getfield 11, 3) := by decide +kernel
theorem dX11_gatherWitnessesByYear_20 : decode cX11_gatherWitnessesByYear 20 = .ok (.iload_n 1, 1) := by decide +kernel
theorem dX11_gatherWitnessesByYear_21 : decode cX11_gatherWitnessesByYear 21 = .ok (.aaload, 1) := by decide +kernel
theorem dX11_gatherWitnessesByYear_22 : decode cX11_gatherWitnessesByYear 22 = .ok (.getfield 146, 3) := by decide +kernel
theorem dX11_gatherWitnessesByYear_25 : decode cX11_gatherWitnessesByYear 25 = .ok (.getfield 190, 3) := by decide +kernel
theorem dX11_gatherWitnessesByYear_28 : decode cX11_gatherWitnessesByYear 28 = .ok (.istore_n 2, 1) := by decide +kernel
theorem dX11_gatherWitnessesByYear_29 : decode cX11_gatherWitnessesByYear 29 = .ok (.iload_n 2, 1) := by decide +kernel
theorem dX11_gatherWitnessesByYear_30 : decode cX11_gatherWitnessesByYear 30 = .ok (.aload_n 0, 1) := by decide +kernel
theorem dX11_gatherWitnessesByYear_31 : decode cX11_gatherWitnessesByYear 31 = .ok (.getfield 11, 3) := by decide +kernel
theorem dX11_gatherWitnessesByYear_34 : decode cX11_gatherWitnessesByYear 34 = .ok (.iload_n 1, 1) := by decide +kernel
theorem dX11_gatherWitnessesByYear_35 : decode cX11_gatherWitnessesByYear 35 = .ok (.aaload, 1) := by decide +kernel
theorem dX11_gatherWitnessesByYear_36 : decode cX11_gatherWitnessesByYear 36 = .ok (.getfield 187, 3) := by decide +kernel
theorem dX11_gatherWitnessesByYear_39 : decode cX11_gatherWitnessesByYear 39 = .ok (.if_icmp .ge 31, 3) := by decide +kernel
theorem dX11_gatherWitnessesByYear_42 : decode cX11_gatherWitnessesByYear 42 = .ok (.aload_n 0, 1) := by decide +kernel
theorem dX11_gatherWitnessesByYear_43 : decode cX11_gatherWitnessesByYear 43 = .ok (.getfield 79, 3) := by decide +kernel
theorem dX11_gatherWitnessesByYear_46 : decode cX11_gatherWitnessesByYear 46 = .ok (.aload_n 0, 1) := by decide +kernel
theorem dX11_gatherWitnessesByYear_47 : decode cX11_gatherWitnessesByYear 47 = .ok (.getfield 11, 3) := by decide +kernel
theorem dX11_gatherWitnessesByYear_50 : decode cX11_gatherWitnessesByYear 50 = .ok (.iload_n 1, 1) := by decide +kernel
theorem dX11_gatherWitnessesByYear_51 : decode cX11_gatherWitnessesByYear 51 = .ok (.aaload, 1) := by decide +kernel
theorem dX11_gatherWitnessesByYear_52 : decode cX11_gatherWitnessesByYear 52 = .ok (.getfield 205, 3) := by decide +kernel
theorem dX11_gatherWitnessesByYear_55 : decode cX11_gatherWitnessesByYear 55 = .ok (.iload_n 2, 1) := by decide +kernel
theorem dX11_gatherWitnessesByYear_56 : decode cX11_gatherWitnessesByYear 56 = .ok (.iaload, 1) := by decide +kernel
theorem dX11_gatherWitnessesByYear_57 : decode cX11_gatherWitnessesByYear 57 = .ok (.dup2, 1) := by decide +kernel
theorem dX11_gatherWitnessesByYear_58 : decode cX11_gatherWitnessesByYear 58 = .ok (.iaload, 1) := by decide +kernel
theorem dX11_gatherWitnessesByYear_59 : decode cX11_gatherWitnessesByYear 59 = .ok (.iconst 1, 1) := by decide +kernel
theorem dX11_gatherWitnessesByYear_60 : decode cX11_gatherWitnessesByYear 60 = .ok (.iload_n 1, 1) := by decide +kernel
theorem dX11_gatherWitnessesByYear_61 : decode cX11_gatherWitnessesByYear 61 = .ok (.ishl, 1) := by decide +kernel
theorem dX11_gatherWitnessesByYear_62 : decode cX11_gatherWitnessesByYear 62 = .ok (.ior, 1) := by decide +kernel
theorem dX11_gatherWitnessesByYear_63 : decode cX11_gatherWitnessesByYear 63 = .ok (.iastore, 1) := by decide +kernel
theorem dX11_gatherWitnessesByYear_64 : decode cX11_gatherWitnessesByYear 64 = .ok (.iinc 2 1, 3) := by decide +kernel
theorem dX11_gatherWitnessesByYear_67 : decode cX11_gatherWitnessesByYear 67 = .ok (.goto (-38), 3) := by decide +kernel
theorem dX11_gatherWitnessesByYear_70 : decode cX11_gatherWitnessesByYear 70 = .ok (.iinc 1 1, 3) := by decide +kernel
theorem dX11_gatherWitnessesByYear_73 : decode cX11_gatherWitnessesByYear 73 = .ok (.goto (-63), 3) := by decide +kernel
theorem dX11_gatherWitnessesByYear_76 : decode cX11_gatherWitnessesByYear 76 = .ok (.return_, 1) := by decide +kernel
theorem dX11_gatherLayersByYear_0 : decode cX11_gatherLayersByYear 0 = .ok (.aload_n 0, 1) := by decide +kernel
theorem dX11_gatherLayersByYear_1 : decode cX11_gatherLayersByYear 1 = .ok (.getfield 79, 3) := by decide +kernel
theorem dX11_gatherLayersByYear_4 : decode cX11_gatherLayersByYear 4 = .ok (.iconst 0, 1) := by decide +kernel
theorem dX11_gatherLayersByYear_5 : decode cX11_gatherLayersByYear 5 = .ok (.invokestatic 238, 3) := by decide +kernel
theorem dX11_gatherLayersByYear_8 : decode cX11_gatherLayersByYear 8 = .ok (.iconst 0, 1) := by decide +kernel
theorem dX11_gatherLayersByYear_9 : decode cX11_gatherLayersByYear 9 = .ok (.istore_n 1, 1) := by decide +kernel
theorem dX11_gatherLayersByYear_10 : decode cX11_gatherLayersByYear 10 = .ok (.iload_n 1, 1) := by decide +kernel
theorem dX11_gatherLayersByYear_11 : decode cX11_gatherLayersByYear 11 = .ok (.bipush 12, 2) := by decide +kernel
theorem dX11_gatherLayersByYear_13 : decode cX11_gatherLayersByYear 13 = .ok (.if_icmp .ge 61, 3) := by decide +kernel
theorem dX11_gatherLayersByYear_16 : decode cX11_gatherLayersByYear 16 = .ok (.aload_n 0, 1) := by decide +kernel
theorem dX11_gatherLayersByYear_17 : decode cX11_gatherLayersByYear 17 = .ok (.getfield 11, 3) := by decide +kernel
theorem dX11_gatherLayersByYear_20 : decode cX11_gatherLayersByYear 20 = .ok (.iload_n 1, 1) := by decide +kernel
theorem dX11_gatherLayersByYear_21 : decode cX11_gatherLayersByYear 21 = .ok (.aaload, 1) := by decide +kernel
theorem dX11_gatherLayersByYear_22 : decode cX11_gatherLayersByYear 22 = .ok (.getfield 146, 3) := by decide +kernel
theorem dX11_gatherLayersByYear_25 : decode cX11_gatherLayersByYear 25 = .ok (.getfield 190, 3) := by decide +kernel
theorem dX11_gatherLayersByYear_28 : decode cX11_gatherLayersByYear 28 = .ok (.istore_n 2, 1) := by decide +kernel
theorem dX11_gatherLayersByYear_29 : decode cX11_gatherLayersByYear 29 = .ok (.iload_n 2, 1) := by decide +kernel
theorem dX11_gatherLayersByYear_30 : decode cX11_gatherLayersByYear 30 = .ok (.aload_n 0, 1) := by decide +kernel
theorem dX11_gatherLayersByYear_31 : decode cX11_gatherLayersByYear 31 = .ok (.getfield 11, 3) := by decide +kernel
theorem dX11_gatherLayersByYear_34 : decode cX11_gatherLayersByYear 34 = .ok (.iload_n 1, 1) := by decide +kernel
theorem dX11_gatherLayersByYear_35 : decode cX11_gatherLayersByYear 35 = .ok (.aaload, 1) := by decide +kernel
theorem dX11_gatherLayersByYear_36 : decode cX11_gatherLayersByYear 36 = .ok (.getfield 187, 3) := by decide +kernel
theorem dX11_gatherLayersByYear_39 : decode cX11_gatherLayersByYear 39 = .ok (.if_icmp .ge 29, 3) := by decide +kernel
theorem dX11_gatherLayersByYear_42 : decode cX11_gatherLayersByYear 42 = .ok (.aload_n 0, 1) := by decide +kernel
theorem dX11_gatherLayersByYear_43 : decode cX11_gatherLayersByYear 43 = .ok (.getfield 79, 3) := by decide +kernel
theorem dX11_gatherLayersByYear_46 : decode cX11_gatherLayersByYear 46 = .ok (.aload_n 0, 1) := by decide +kernel
theorem dX11_gatherLayersByYear_47 : decode cX11_gatherLayersByYear 47 = .ok (.getfield 11, 3) := by decide +kernel
theorem dX11_gatherLayersByYear_50 : decode cX11_gatherLayersByYear 50 = .ok (.iload_n 1, 1) := by decide +kernel
theorem dX11_gatherLayersByYear_51 : decode cX11_gatherLayersByYear 51 = .ok (.aaload, 1) := by decide +kernel
theorem dX11_gatherLayersByYear_52 : decode cX11_gatherLayersByYear 52 = .ok (.getfield 205, 3) := by decide +kernel
theorem dX11_gatherLayersByYear_55 : decode cX11_gatherLayersByYear 55 = .ok (.iload_n 2, 1) := by decide +kernel
theorem dX11_gatherLayersByYear_56 : decode cX11_gatherLayersByYear 56 = .ok (.iaload, 1) := by decide +kernel
theorem dX11_gatherLayersByYear_57 : decode cX11_gatherLayersByYear 57 = .ok (.dup2, 1) := by decide +kernel
theorem dX11_gatherLayersByYear_58 : decode cX11_gatherLayersByYear 58 = .ok (.iaload, 1) := by decide +kernel
theorem dX11_gatherLayersByYear_59 : decode cX11_gatherLayersByYear 59 = .ok (.iconst 1, 1) := by decide +kernel
theorem dX11_gatherLayersByYear_60 : decode cX11_gatherLayersByYear 60 = .ok (.iadd, 1) := by decide +kernel
theorem dX11_gatherLayersByYear_61 : decode cX11_gatherLayersByYear 61 = .ok (.iastore, 1) := by decide +kernel
theorem dX11_gatherLayersByYear_62 : decode cX11_gatherLayersByYear 62 = .ok (.iinc 2 1, 3) := by decide +kernel
theorem dX11_gatherLayersByYear_65 : decode cX11_gatherLayersByYear 65 = .ok (.goto (-36), 3) := by decide +kernel
theorem dX11_gatherLayersByYear_68 : decode cX11_gatherLayersByYear 68 = .ok (.iinc 1 1, 3) := by decide +kernel
theorem dX11_gatherLayersByYear_71 : decode cX11_gatherLayersByYear 71 = .ok (.goto (-61), 3) := by decide +kernel
theorem dX11_gatherLayersByYear_74 : decode cX11_gatherLayersByYear 74 = .ok (.return_, 1) := by decide +kernel
theorem dX11_countWays_0 : decode cX11_countWays 0 = .ok (.aload_n 0, 1) := by decide +kernel
theorem dX11_countWays_1 : decode cX11_countWays 1 = .ok (.getfield 82, 3) := by decide +kernel
theorem dX11_countWays_4 : decode cX11_countWays 4 = .ok (.lconst 0, 1) := by decide +kernel
theorem dX11_countWays_5 : decode cX11_countWays 5 = .ok (.invokestatic 335, 3) := by decide +kernel
theorem dX11_countWays_8 : decode cX11_countWays 8 = .ok (.aload_n 0, 1) := by decide +kernel
theorem dX11_countWays_9 : decode cX11_countWays 9 = .ok (.getfield 82, 3) := by decide +kernel
theorem dX11_countWays_12 : decode cX11_countWays 12 = .ok (.iconst 0, 1) := by decide +kernel
theorem dX11_countWays_13 : decode cX11_countWays 13 = .ok (.lconst 1, 1) := by decide +kernel
theorem dX11_countWays_14 : decode cX11_countWays 14 = .ok (.lastore, 1) := by decide +kernel
theorem dX11_countWays_15 : decode cX11_countWays 15 = .ok (.iconst 0, 1) := by decide +kernel
theorem dX11_countWays_16 : decode cX11_countWays 16 = .ok (.istore_n 2, 1) := by decide +kernel
theorem dX11_countWays_17 : decode cX11_countWays 17 = .ok (.iload_n 2, 1) := by decide +kernel
theorem dX11_countWays_18 : decode cX11_countWays 18 = .ok (.iload_n 1, 1) := by decide +kernel
theorem dX11_countWays_19 : decode cX11_countWays 19 = .ok (.if_icmp .ge 83, 3) := by decide +kernel
theorem dX11_countWays_22 : decode cX11_countWays 22 = .ok (.aload_n 0, 1) := by decide +kernel
theorem dX11_countWays_23 : decode cX11_countWays 23 = .ok (.getfield 15, 3) := by decide +kernel
theorem dX11_countWays_26 : decode cX11_countWays 26 = .ok (.iload_n 2, 1) := by decide +kernel
theorem dX11_countWays_27 : decode cX11_countWays 27 = .ok (.iaload, 1) := by decide +kernel
theorem dX11_countWays_28 : decode cX11_countWays 28 = .ok (.istore_n 3, 1) := by decide +kernel
theorem dX11_countWays_29 : decode cX11_countWays 29 = .ok (.iload_n 2, 1) := by decide +kernel
theorem dX11_countWays_30 : decode cX11_countWays 30 = .ok (.iconst 1, 1) := by decide +kernel
theorem dX11_countWays_31 : decode cX11_countWays 31 = .ok (.iadd, 1) := by decide +kernel
theorem dX11_countWays_32 : decode cX11_countWays 32 = .ok (.istore 4, 2) := by decide +kernel
theorem dX11_countWays_34 : decode cX11_countWays 34 = .ok (.iload 4, 2) := by decide +kernel
theorem dX11_countWays_36 : decode cX11_countWays 36 = .ok (.ifCond .le 42, 3) := by decide +kernel
theorem dX11_countWays_39 : decode cX11_countWays 39 = .ok (.aload_n 0, 1) := by decide +kernel
theorem dX11_countWays_40 : decode cX11_countWays 40 = .ok (.getfield 82, 3) := by decide +kernel
theorem dX11_countWays_43 : decode cX11_countWays 43 = .ok (.iload 4, 2) := by decide +kernel
theorem dX11_countWays_45 : decode cX11_countWays 45 = .ok (.aload_n 0, 1) := by decide +kernel
theorem dX11_countWays_46 : decode cX11_countWays 46 = .ok (.getfield 82, 3) := by decide +kernel
theorem dX11_countWays_49 : decode cX11_countWays 49 = .ok (.iload 4, 2) := by decide +kernel
theorem dX11_countWays_51 : decode cX11_countWays 51 = .ok (.laload, 1) := by decide +kernel
theorem dX11_countWays_52 : decode cX11_countWays 52 = .ok (.bipush 10, 2) := by decide +kernel
theorem dX11_countWays_54 : decode cX11_countWays 54 = .ok (.iload_n 3, 1) := by decide +kernel
theorem dX11_countWays_55 : decode cX11_countWays 55 = .ok (.isub, 1) := by decide +kernel
theorem dX11_countWays_56 : decode cX11_countWays 56 = .ok (.i2l, 1) := by decide +kernel
theorem dX11_countWays_57 : decode cX11_countWays 57 = .ok (.lmul, 1) := by decide +kernel
theorem dX11_countWays_58 : decode cX11_countWays 58 = .ok (.aload_n 0, 1) := by decide +kernel
theorem dX11_countWays_59 : decode cX11_countWays 59 = .ok (.getfield 82, 3) := by decide +kernel
theorem dX11_countWays_62 : decode cX11_countWays 62 = .ok (.iload 4, 2) := by decide +kernel
theorem dX11_countWays_64 : decode cX11_countWays 64 = .ok (.iconst 1, 1) := by decide +kernel
theorem dX11_countWays_65 : decode cX11_countWays 65 = .ok (.isub, 1) := by decide +kernel
theorem dX11_countWays_66 : decode cX11_countWays 66 = .ok (.laload, 1) := by decide +kernel
theorem dX11_countWays_67 : decode cX11_countWays 67 = .ok (.iload_n 3, 1) := by decide +kernel
theorem dX11_countWays_68 : decode cX11_countWays 68 = .ok (.i2l, 1) := by decide +kernel
theorem dX11_countWays_69 : decode cX11_countWays 69 = .ok (.lmul, 1) := by decide +kernel
theorem dX11_countWays_70 : decode cX11_countWays 70 = .ok (.ladd, 1) := by decide +kernel
theorem dX11_countWays_71 : decode cX11_countWays 71 = .ok (.lastore, 1) := by decide +kernel
theorem dX11_countWays_72 : decode cX11_countWays 72 = .ok (.iinc 4 (-1), 3) := by decide +kernel
theorem dX11_countWays_75 : decode cX11_countWays 75 = .ok (.goto (-41), 3) := by decide +kernel
theorem dX11_countWays_78 : decode cX11_countWays 78 = .ok (.aload_n 0, 1) := by decide +kernel
theorem dX11_countWays_79 : decode cX11_countWays 79 = .ok (.getfield 82, 3) := by decide +kernel
theorem dX11_countWays_82 : decode cX11_countWays 82 = .ok (.iconst 0, 1) := by decide +kernel
theorem dX11_countWays_83 : decode cX11_countWays 83 = .ok (.aload_n 0, 1) := by decide +kernel
theorem dX11_countWays_84 : decode cX11_countWays 84 = .ok (.getfield 82, 3) := by decide +kernel
theorem dX11_countWays_87 : decode cX11_countWays 87 = .ok (.iconst 0, 1) := by decide +kernel
theorem dX11_countWays_88 : decode cX11_countWays 88 = .ok (.laload, 1) := by decide +kernel
theorem dX11_countWays_89 : decode cX11_countWays 89 = .ok (.bipush 10, 2) := by decide +kernel
theorem dX11_countWays_91 : decode cX11_countWays 91 = .ok (.iload_n 3, 1) := by decide +kernel
theorem dX11_countWays_92 : decode cX11_countWays 92 = .ok (.isub, 1) := by decide +kernel
theorem dX11_countWays_93 : decode cX11_countWays 93 = .ok (.i2l, 1) := by decide +kernel
theorem dX11_countWays_94 : decode cX11_countWays 94 = .ok (.lmul, 1) := by decide +kernel
theorem dX11_countWays_95 : decode cX11_countWays 95 = .ok (.lastore, 1) := by decide +kernel
theorem dX11_countWays_96 : decode cX11_countWays 96 = .ok (.iinc 2 1, 3) := by decide +kernel
theorem dX11_countWays_99 : decode cX11_countWays 99 = .ok (.goto (-82), 3) := by decide +kernel
theorem dX11_countWays_102 : decode cX11_countWays 102 = .ok (.return_, 1) := by decide +kernel
theorem dX11_mostOfCorks_0 : decode cX11_mostOfCorks 0 = .ok (.aload_n 0, 1) := by decide +kernel
theorem dX11_mostOfCorks_1 : decode cX11_mostOfCorks 1 = .ok (.getfield 79, 3) := by decide +kernel
theorem dX11_mostOfCorks_4 : decode cX11_mostOfCorks 4 = .ok (.iconst 0, 1) := by decide +kernel
theorem dX11_mostOfCorks_5 : decode cX11_mostOfCorks 5 = .ok (.invokestatic 238, 3) := by decide +kernel
theorem dX11_mostOfCorks_8 : decode cX11_mostOfCorks 8 = .ok (.iconst 0, 1) := by decide +kernel
theorem dX11_mostOfCorks_9 : decode cX11_mostOfCorks 9 = .ok (.istore 4, 2) := by decide +kernel
theorem dX11_mostOfCorks_11 : decode cX11_mostOfCorks 11 = .ok (.iload 4, 2) := by decide +kernel
theorem dX11_mostOfCorks_13 : decode cX11_mostOfCorks 13 = .ok (.iload_n 1, 1) := by decide +kernel
theorem dX11_mostOfCorks_14 : decode cX11_mostOfCorks 14 = .ok (.if_icmp .ge 79, 3) := by decide +kernel
theorem dX11_mostOfCorks_17 : decode cX11_mostOfCorks 17 = .ok (.aload_n 0, 1) := by decide +kernel
theorem dX11_mostOfCorks_18 : decode cX11_mostOfCorks 18 = .ok (.getfield 15, 3) := by decide +kernel
theorem dX11_mostOfCorks_21 : decode cX11_mostOfCorks 21 = .ok (.iload 4, 2) := by decide +kernel
theorem dX11_mostOfCorks_23 : decode cX11_mostOfCorks 23 = .ok (.iaload, 1) := by decide +kernel
theorem dX11_mostOfCorks_24 : decode cX11_mostOfCorks 24 = .ok (.istore 5, 2) := by decide +kernel
theorem dX11_mostOfCorks_26 : decode cX11_mostOfCorks 26 = .ok (.iload_n 3, 1) := by decide +kernel
theorem dX11_mostOfCorks_27 : decode cX11_mostOfCorks 27 = .ok (.ifCond .eq 11, 3) := by decide +kernel
theorem dX11_mostOfCorks_30 : decode cX11_mostOfCorks 30 = .ok (.iload 5, 2) := by decide +kernel
theorem dX11_mostOfCorks_32 : decode cX11_mostOfCorks 32 = .ok (.iload 5, 2) := by decide +kernel
theorem dX11_mostOfCorks_34 : decode cX11_mostOfCorks 34 = .ok (.imul, 1) := by decide +kernel
theorem dX11_mostOfCorks_35 : decode cX11_mostOfCorks 35 = .ok (.goto 4, 3) := by decide +kernel
theorem dX11_mostOfCorks_38 : decode cX11_mostOfCorks 38 = .ok (.iconst 1, 1) := by decide +kernel
theorem dX11_mostOfCorks_39 : decode cX11_mostOfCorks 39 = .ok (.istore 6, 2) := by decide +kernel
theorem dX11_mostOfCorks_41 : decode cX11_mostOfCorks 41 = .ok (.iload_n 2, 1) := by decide +kernel
theorem dX11_mostOfCorks_42 : decode cX11_mostOfCorks 42 = .ok (.istore 7, 2) := by decide +kernel
theorem dX11_mostOfCorks_44 : decode cX11_mostOfCorks 44 = .ok (.iload 7, 2) := by decide +kernel
theorem dX11_mostOfCorks_46 : decode cX11_mostOfCorks 46 = .ok (.iload 5, 2) := by decide +kernel
theorem dX11_mostOfCorks_48 : decode cX11_mostOfCorks 48 = .ok (.if_icmp .lt 39, 3) := by decide +kernel
theorem dX11_mostOfCorks_51 : decode cX11_mostOfCorks 51 = .ok (.aload_n 0, 1) := by decide +kernel
theorem dX11_mostOfCorks_52 : decode cX11_mostOfCorks 52 = .ok (.getfield 79, 3) := by decide +kernel
theorem dX11_mostOfCorks_55 : decode cX11_mostOfCorks 55 = .ok (.iload 7, 2) := by decide +kernel
theorem dX11_mostOfCorks_57 : decode cX11_mostOfCorks 57 = .ok (.aload_n 0, 1) := by decide +kernel
theorem dX11_mostOfCorks_58 : decode cX11_mostOfCorks 58 = .ok (.getfield 79, 3) := by decide +kernel
theorem dX11_mostOfCorks_61 : decode cX11_mostOfCorks 61 = .ok (.iload 7, 2) := by decide +kernel
theorem dX11_mostOfCorks_63 : decode cX11_mostOfCorks 63 = .ok (.iaload, 1) := by decide +kernel
theorem dX11_mostOfCorks_64 : decode cX11_mostOfCorks 64 = .ok (.aload_n 0, 1) := by decide +kernel
theorem dX11_mostOfCorks_65 : decode cX11_mostOfCorks 65 = .ok (.getfield 79, 3) := by decide +kernel
theorem dX11_mostOfCorks_68 : decode cX11_mostOfCorks 68 = .ok (.iload 7, 2) := by decide +kernel
theorem dX11_mostOfCorks_70 : decode cX11_mostOfCorks 70 = .ok (.iload 5, 2) := by decide +kernel
theorem dX11_mostOfCorks_72 : decode cX11_mostOfCorks 72 = .ok (.isub, 1) := by decide +kernel
theorem dX11_mostOfCorks_73 : decode cX11_mostOfCorks 73 = .ok (.iaload, 1) := by decide +kernel
theorem dX11_mostOfCorks_74 : decode cX11_mostOfCorks 74 = .ok (.iload 6, 2) := by decide +kernel
theorem dX11_mostOfCorks_76 : decode cX11_mostOfCorks 76 = .ok (.iadd, 1) := by decide +kernel
theorem dX11_mostOfCorks_77 : decode cX11_mostOfCorks 77 = .ok (.invokestatic 243, 3) := by decide +kernel
theorem dX11_mostOfCorks_80 : decode cX11_mostOfCorks 80 = .ok (.iastore, 1) := by decide +kernel
theorem dX11_mostOfCorks_81 : decode cX11_mostOfCorks 81 = .ok (.iinc 7 (-1), 3) := by decide +kernel
theorem dX11_mostOfCorks_84 : decode cX11_mostOfCorks 84 = .ok (.goto (-40), 3) := by decide +kernel
theorem dX11_mostOfCorks_87 : decode cX11_mostOfCorks 87 = .ok (.iinc 4 1, 3) := by decide +kernel
theorem dX11_mostOfCorks_90 : decode cX11_mostOfCorks 90 = .ok (.goto (-79), 3) := by decide +kernel
theorem dX11_mostOfCorks_93 : decode cX11_mostOfCorks 93 = .ok (.aload_n 0, 1) := by decide +kernel
theorem dX11_mostOfCorks_94 : decode cX11_mostOfCorks 94 = .ok (.getfield 79, 3) := by decide +kernel
theorem dX11_mostOfCorks_97 : decode cX11_mostOfCorks 97 = .ok (.iload_n 2, 1) := by decide +kernel
theorem dX11_mostOfCorks_98 : decode cX11_mostOfCorks 98 = .ok (.iaload, 1) := by decide +kernel
theorem dX11_mostOfCorks_99 : decode cX11_mostOfCorks 99 = .ok (.ireturn, 1) := by decide +kernel
theorem dX11_toldBits_0 : decode cX11_toldBits 0 = .ok (.iconst 0, 1) := by decide +kernel
theorem dX11_toldBits_1 : decode cX11_toldBits 1 = .ok (.istore_n 1, 1) := by decide +kernel
theorem dX11_toldBits_2 : decode cX11_toldBits 2 = .ok (.iconst 0, 1) := by decide +kernel
theorem dX11_toldBits_3 : decode cX11_toldBits 3 = .ok (.istore_n 2, 1) := by decide +kernel
theorem dX11_toldBits_4 : decode cX11_toldBits 4 = .ok (.iload_n 2, 1) := by decide +kernel
theorem dX11_toldBits_5 : decode cX11_toldBits 5 = .ok (.bipush 12, 2) := by decide +kernel
theorem dX11_toldBits_7 : decode cX11_toldBits 7 = .ok (.if_icmp .ge 31, 3) := by decide +kernel
theorem dX11_toldBits_10 : decode cX11_toldBits 10 = .ok (.iload_n 1, 1) := by decide +kernel
theorem dX11_toldBits_11 : decode cX11_toldBits 11 = .ok (.aload_n 0, 1) := by decide +kernel
theorem dX11_toldBits_12 : decode cX11_toldBits 12 = .ok (.getfield 11, 3) := by decide +kernel
theorem dX11_toldBits_15 : decode cX11_toldBits 15 = .ok (.iload_n 2, 1) := by decide +kernel
theorem dX11_toldBits_16 : decode cX11_toldBits 16 = .ok (.aaload, 1) := by decide +kernel
theorem dX11_toldBits_17 : decode cX11_toldBits 17 = .ok (.getfield 314, 3) := by decide +kernel
theorem dX11_toldBits_20 : decode cX11_toldBits 20 = .ok (.ifCond .eq 9, 3) := by decide +kernel
theorem dX11_toldBits_23 : decode cX11_toldBits 23 = .ok (.iconst 1, 1) := by decide +kernel
theorem dX11_toldBits_24 : decode cX11_toldBits 24 = .ok (.iload_n 2, 1) := by decide +kernel
theorem dX11_toldBits_25 : decode cX11_toldBits 25 = .ok (.ishl, 1) := by decide +kernel
theorem dX11_toldBits_26 : decode cX11_toldBits 26 = .ok (.goto 4, 3) := by decide +kernel
theorem dX11_toldBits_29 : decode cX11_toldBits 29 = .ok (.iconst 0, 1) := by decide +kernel
theorem dX11_toldBits_30 : decode cX11_toldBits 30 = .ok (.ior, 1) := by decide +kernel
theorem dX11_toldBits_31 : decode cX11_toldBits 31 = .ok (.istore_n 1, 1) := by decide +kernel
theorem dX11_toldBits_32 : decode cX11_toldBits 32 = .ok (.iinc 2 1, 3) := by decide +kernel
theorem dX11_toldBits_35 : decode cX11_toldBits 35 = .ok (.goto (-31), 3) := by decide +kernel
theorem dX11_toldBits_38 : decode cX11_toldBits 38 = .ok (.iload_n 1, 1) := by decide +kernel
theorem dX11_toldBits_39 : decode cX11_toldBits 39 = .ok (.ireturn, 1) := by decide +kernel
theorem dX11_brokenBits_0 : decode cX11_brokenBits 0 = .ok (.iconst 0, 1) := by decide +kernel
theorem dX11_brokenBits_1 : decode cX11_brokenBits 1 = .ok (.istore_n 1, 1) := by decide +kernel
theorem dX11_brokenBits_2 : decode cX11_brokenBits 2 = .ok (.iconst 0, 1) := by decide +kernel
theorem dX11_brokenBits_3 : decode cX11_brokenBits 3 = .ok (.istore_n 2, 1) := by decide +kernel
theorem dX11_brokenBits_4 : decode cX11_brokenBits 4 = .ok (.iload_n 2, 1) := by decide +kernel
theorem dX11_brokenBits_5 : decode cX11_brokenBits 5 = .ok (.bipush 12, 2) := by decide +kernel
theorem dX11_brokenBits_7 : decode cX11_brokenBits 7 = .ok (.if_icmp .ge 34, 3) := by decide +kernel
theorem dX11_brokenBits_10 : decode cX11_brokenBits 10 = .ok (.iload_n 1, 1) := by decide +kernel
theorem dX11_brokenBits_11 : decode cX11_brokenBits 11 = .ok (.aload_n 0, 1) := by decide +kernel
theorem dX11_brokenBits_12 : decode cX11_brokenBits 12 = .ok (.getfield 11, 3) := by decide +kernel
theorem dX11_brokenBits_15 : decode cX11_brokenBits 15 = .ok (.iload_n 2, 1) := by decide +kernel
theorem dX11_brokenBits_16 : decode cX11_brokenBits 16 = .ok (.aaload, 1) := by decide +kernel
theorem dX11_brokenBits_17 : decode cX11_brokenBits 17 = .ok (.getfield 146, 3) := by decide +kernel
theorem dX11_brokenBits_20 : decode cX11_brokenBits 20 = .ok (.getfield 193, 3) := by decide +kernel
theorem dX11_brokenBits_23 : decode cX11_brokenBits 23 = .ok (.ifCond .eq 9, 3) := by decide +kernel
theorem dX11_brokenBits_26 : decode cX11_brokenBits 26 = .ok (.iconst 1, 1) := by decide +kernel
theorem dX11_brokenBits_27 : decode cX11_brokenBits 27 = .ok (.iload_n 2, 1) := by decide +kernel
theorem dX11_brokenBits_28 : decode cX11_brokenBits 28 = .ok (.ishl, 1) := by decide +kernel
theorem dX11_brokenBits_29 : decode cX11_brokenBits 29 = .ok (.goto 4, 3) := by decide +kernel
theorem dX11_brokenBits_32 : decode cX11_brokenBits 32 = .ok (.iconst 0, 1) := by decide +kernel
theorem dX11_brokenBits_33 : decode cX11_brokenBits 33 = .ok (.ior, 1) := by decide +kernel
theorem dX11_brokenBits_34 : decode cX11_brokenBits 34 = .ok (.istore_n 1, 1) := by decide +kernel
theorem dX11_brokenBits_35 : decode cX11_brokenBits 35 = .ok (.iinc 2 1, 3) := by decide +kernel
theorem dX11_brokenBits_38 : decode cX11_brokenBits 38 = .ok (.goto (-34), 3) := by decide +kernel
theorem dX11_brokenBits_41 : decode cX11_brokenBits 41 = .ok (.iload_n 1, 1) := by decide +kernel
theorem dX11_brokenBits_42 : decode cX11_brokenBits 42 = .ok (.ireturn, 1) := by decide +kernel
theorem dX11_openBits_0 : decode cX11_openBits 0 = .ok (.iconst 0, 1) := by decide +kernel
theorem dX11_openBits_1 : decode cX11_openBits 1 = .ok (.istore_n 1, 1) := by decide +kernel
theorem dX11_openBits_2 : decode cX11_openBits 2 = .ok (.iconst 0, 1) := by decide +kernel
theorem dX11_openBits_3 : decode cX11_openBits 3 = .ok (.istore_n 2, 1) := by decide +kernel
theorem dX11_openBits_4 : decode cX11_openBits 4 = .ok (.iload_n 2, 1) := by decide +kernel
theorem dX11_openBits_5 : decode cX11_openBits 5 = .ok (.bipush 12, 2) := by decide +kernel
theorem dX11_openBits_7 : decode cX11_openBits 7 = .ok (.if_icmp .ge 34, 3) := by decide +kernel
theorem dX11_openBits_10 : decode cX11_openBits 10 = .ok (.iload_n 1, 1) := by decide +kernel
theorem dX11_openBits_11 : decode cX11_openBits 11 = .ok (.aload_n 0, 1) := by decide +kernel
theorem dX11_openBits_12 : decode cX11_openBits 12 = .ok (.getfield 11, 3) := by decide +kernel
theorem dX11_openBits_15 : decode cX11_openBits 15 = .ok (.iload_n 2, 1) := by decide +kernel
theorem dX11_openBits_16 : decode cX11_openBits 16 = .ok (.aaload, 1) := by decide +kernel
theorem dX11_openBits_17 : decode cX11_openBits 17 = .ok (.getfield 146, 3) := by decide +kernel
theorem dX11_openBits_20 : decode cX11_openBits 20 = .ok (.getfield 180, 3) := by decide +kernel
theorem dX11_openBits_23 : decode cX11_openBits 23 = .ok (.ifCond .eq 9, 3) := by decide +kernel
theorem dX11_openBits_26 : decode cX11_openBits 26 = .ok (.iconst 1, 1) := by decide +kernel
theorem dX11_openBits_27 : decode cX11_openBits 27 = .ok (.iload_n 2, 1) := by decide +kernel
theorem dX11_openBits_28 : decode cX11_openBits 28 = .ok (.ishl, 1) := by decide +kernel
theorem dX11_openBits_29 : decode cX11_openBits 29 = .ok (.goto 4, 3) := by decide +kernel
theorem dX11_openBits_32 : decode cX11_openBits 32 = .ok (.iconst 0, 1) := by decide +kernel
theorem dX11_openBits_33 : decode cX11_openBits 33 = .ok (.ior, 1) := by decide +kernel
theorem dX11_openBits_34 : decode cX11_openBits 34 = .ok (.istore_n 1, 1) := by decide +kernel
theorem dX11_openBits_35 : decode cX11_openBits 35 = .ok (.iinc 2 1, 3) := by decide +kernel
theorem dX11_openBits_38 : decode cX11_openBits 38 = .ok (.goto (-34), 3) := by decide +kernel
theorem dX11_openBits_41 : decode cX11_openBits 41 = .ok (.iload_n 1, 1) := by decide +kernel
theorem dX11_openBits_42 : decode cX11_openBits 42 = .ok (.ireturn, 1) := by decide +kernel
theorem dX11_layersLeft_0 : decode cX11_layersLeft 0 = .ok (.iconst 0, 1) := by decide +kernel
theorem dX11_layersLeft_1 : decode cX11_layersLeft 1 = .ok (.istore_n 1, 1) := by decide +kernel
theorem dX11_layersLeft_2 : decode cX11_layersLeft 2 = .ok (.iconst 0, 1) := by decide +kernel
theorem dX11_layersLeft_3 : decode cX11_layersLeft 3 = .ok (.istore_n 2, 1) := by decide +kernel
theorem dX11_layersLeft_4 : decode cX11_layersLeft 4 = .ok (.iload_n 2, 1) := by decide +kernel
theorem dX11_layersLeft_5 : decode cX11_layersLeft 5 = .ok (.bipush 12, 2) := by decide +kernel
theorem dX11_layersLeft_7 : decode cX11_layersLeft 7 = .ok (.if_icmp .ge 34, 3) := by decide +kernel
theorem dX11_layersLeft_10 : decode cX11_layersLeft 10 = .ok (.iload_n 1, 1) := by decide +kernel
theorem dX11_layersLeft_11 : decode cX11_layersLeft 11 = .ok (.aload_n 0, 1) := by decide +kernel
theorem dX11_layersLeft_12 : decode cX11_layersLeft 12 = .ok (.getfield 11, 3) := by decide +kernel
theorem dX11_layersLeft_15 : decode cX11_layersLeft 15 = .ok (.iload_n 2, 1) := by decide +kernel
theorem dX11_layersLeft_16 : decode cX11_layersLeft 16 = .ok (.aaload, 1) := by decide +kernel
theorem dX11_layersLeft_17 : decode cX11_layersLeft 17 = .ok (.getfield 187, 3) := by decide +kernel
theorem dX11_layersLeft_20 : decode cX11_layersLeft 20 = .ok (.aload_n 0, 1) := by decide +kernel
theorem dX11_layersLeft_21 : decode cX11_layersLeft 21 = .ok (.getfield 11, 3) := by decide +kernel
theorem dX11_layersLeft_24 : decode cX11_layersLeft 24 = .ok (.iload_n 2, 1) := by decide +kernel
theorem dX11_layersLeft_25 : decode cX11_layersLeft 25 = .ok (.aaload, 1) := by decide +kernel
theorem dX11_layersLeft_26 : decode cX11_layersLeft 26 = .ok (.getfield 146, 3) := by decide +kernel
theorem dX11_layersLeft_29 : decode cX11_layersLeft 29 = .ok (.getfield 190, 3) := by decide +kernel
theorem dX11_layersLeft_32 : decode cX11_layersLeft 32 = .ok (.isub, 1) := by decide +kernel
theorem dX11_layersLeft_33 : decode cX11_layersLeft 33 = .ok (.iadd, 1) := by decide +kernel
theorem dX11_layersLeft_34 : decode cX11_layersLeft 34 = .ok (.istore_n 1, 1) := by decide +kernel
theorem dX11_layersLeft_35 : decode cX11_layersLeft 35 = .ok (.iinc 2 1, 3) := by decide +kernel
theorem dX11_layersLeft_38 : decode cX11_layersLeft 38 = .ok (.goto (-34), 3) := by decide +kernel
theorem dX11_layersLeft_41 : decode cX11_layersLeft 41 = .ok (.iload_n 1, 1) := by decide +kernel
theorem dX11_layersLeft_42 : decode cX11_layersLeft 42 = .ok (.ireturn, 1) := by decide +kernel
theorem dX11_placeIn_0 : decode cX11_placeIn 0 = .ok (.iconst 0, 1) := by decide +kernel
theorem dX11_placeIn_1 : decode cX11_placeIn 1 = .ok (.istore_n 2, 1) := by decide +kernel
theorem dX11_placeIn_2 : decode cX11_placeIn 2 = .ok (.iload_n 2, 1) := by decide +kernel
theorem dX11_placeIn_3 : decode cX11_placeIn 3 = .ok (.aload_n 0, 1) := by decide +kernel
theorem dX11_placeIn_4 : decode cX11_placeIn 4 = .ok (.invokevirtual 338, 3) := by decide +kernel
theorem dX11_placeIn_7 : decode cX11_placeIn 7 = .ok (.if_icmp .ge 20, 3) := by decide +kernel
theorem dX11_placeIn_10 : decode cX11_placeIn 10 = .ok (.aload_n 0, 1) := by decide +kernel
theorem dX11_placeIn_11 : decode cX11_placeIn 11 = .ok (.iload_n 2, 1) := by decide +kernel
theorem dX11_placeIn_12 : decode cX11_placeIn 12 = .ok (.invokevirtual 343, 3) := by decide +kernel
theorem dX11_placeIn_15 : decode cX11_placeIn 15 = .ok (.iload_n 1, 1) := by decide +kernel
theorem dX11_placeIn_16 : decode cX11_placeIn 16 = .ok (.if_icmp .ne 5, 3) := by decide +kernel
theorem dX11_placeIn_19 : decode cX11_placeIn 19 = .ok (.iload_n 2, 1) := by decide +kernel
theorem dX11_placeIn_20 : decode cX11_placeIn 20 = .ok (.ireturn, 1) := by decide +kernel
theorem dX11_placeIn_21 : decode cX11_placeIn 21 = .ok (.iinc 2 1, 3) := by decide +kernel
theorem dX11_placeIn_24 : decode cX11_placeIn 24 = .ok (.goto (-22), 3) := by decide +kernel
theorem dX11_placeIn_27 : decode cX11_placeIn 27 = .ok (.iconst (-1), 1) := by decide +kernel
theorem dX11_placeIn_28 : decode cX11_placeIn 28 = .ok (.ireturn, 1) := by decide +kernel
theorem dX11_isDigit_0 : decode cX11_isDigit 0 = .ok (.iload_n 0, 1) := by decide +kernel
theorem dX11_isDigit_1 : decode cX11_isDigit 1 = .ok (.bipush 48, 2) := by decide +kernel
theorem dX11_isDigit_3 : decode cX11_isDigit 3 = .ok (.if_icmp .lt 13, 3) := by decide +kernel
theorem dX11_isDigit_6 : decode cX11_isDigit 6 = .ok (.iload_n 0, 1) := by decide +kernel
theorem dX11_isDigit_7 : decode cX11_isDigit 7 = .ok (.bipush 57, 2) := by decide +kernel
theorem dX11_isDigit_9 : decode cX11_isDigit 9 = .ok (.if_icmp .gt 7, 3) := by decide +kernel
theorem dX11_isDigit_12 : decode cX11_isDigit 12 = .ok (.iconst 1, 1) := by decide +kernel
theorem dX11_isDigit_13 : decode cX11_isDigit 13 = .ok (.goto 4, 3) := by decide +kernel
theorem dX11_isDigit_16 : decode cX11_isDigit 16 = .ok (.iconst 0, 1) := by decide +kernel
theorem dX11_isDigit_17 : decode cX11_isDigit 17 = .ok (.ireturn, 1) := by decide +kernel
theorem dX12_init_0 : decode cX12_init 0 = .ok (.aload_n 0, 1) := by decide +kernel
theorem dX12_init_1 : decode cX12_init 1 = .ok (.invokespecial 1, 3) := by decide +kernel
theorem dX12_init_4 : decode cX12_init 4 = .ok (.aload_n 0, 1) := by decide +kernel
theorem dX12_init_5 : decode cX12_init 5 = .ok (.bipush 75, 2) := by decide +kernel
theorem dX12_init_7 : decode cX12_init 7 = .ok (.newarray .int, 2) := by decide +kernel
theorem dX12_init_9 : decode cX12_init 9 = .ok (.putfield 7, 3) := by decide +kernel
theorem dX12_init_12 : decode cX12_init 12 = .ok (.aload_n 0, 1) := by decide +kernel
theorem dX12_init_13 : decode cX12_init 13 = .ok (.bipush 75, 2) := by decide +kernel
theorem dX12_init_15 : decode cX12_init 15 = .ok (.newarray .int, 2) := by decide +kernel
theorem dX12_init_17 : decode cX12_init 17 = .ok (.putfield 13, 3) := by decide +kernel
theorem dX12_init_20 : decode cX12_init 20 = .ok (.aload_n 0, 1) := by decide +kernel
theorem dX12_init_21 : decode cX12_init 21 = .ok (.bipush 75, 2) := by decide +kernel
theorem dX12_init_23 : decode cX12_init 23 = .ok (.newarray .int, 2) := by decide +kernel
theorem dX12_init_25 : decode cX12_init 25 = .ok (.putfield 16, 3) := by decide +kernel
theorem dX12_init_28 : decode cX12_init 28 = .ok (.aload_n 0, 1) := by decide +kernel
theorem dX12_init_29 : decode cX12_init 29 = .ok (.bipush 12, 2) := by decide +kernel
theorem dX12_init_31 : decode cX12_init 31 = .ok (.newarray .int, 2) := by decide +kernel
theorem dX12_init_33 : decode cX12_init 33 = .ok (.putfield 19, 3) := by decide +kernel
theorem dX12_init_36 : decode cX12_init 36 = .ok (.aload_n 0, 1) := by decide +kernel
theorem dX12_init_37 : decode cX12_init 37 = .ok (.sipush 288, 3) := by decide +kernel
theorem dX12_init_40 : decode cX12_init 40 = .ok (.newarray .int, 2) := by decide +kernel
theorem dX12_init_42 : decode cX12_init 42 = .ok (.putfield 22, 3) := by decide +kernel
theorem dX12_init_45 : decode cX12_init 45 = .ok (.aload_n 0, 1) := by decide +kernel
theorem dX12_init_46 : decode cX12_init 46 = .ok (.sipush 288, 3) := by decide +kernel
theorem dX12_init_49 : decode cX12_init 49 = .ok (.newarray .int, 2) := by decide +kernel
theorem dX12_init_51 : decode cX12_init 51 = .ok (.putfield 25, 3) := by decide +kernel
theorem dX12_init_54 : decode cX12_init 54 = .ok (.aload_n 0, 1) := by decide +kernel
theorem dX12_init_55 : decode cX12_init 55 = .ok (.sipush 260, 3) := by decide +kernel
theorem dX12_init_58 : decode cX12_init 58 = .ok (.newarray .byte, 2) := by decide +kernel
theorem dX12_init_60 : decode cX12_init 60 = .ok (.putfield 28, 3) := by decide +kernel
theorem dX12_init_63 : decode cX12_init 63 = .ok (.aload_n 0, 1) := by decide +kernel
theorem dX12_init_64 : decode cX12_init 64 = .ok (.sipush 260, 3) := by decide +kernel
theorem dX12_init_67 : decode cX12_init 67 = .ok (.newarray .int, 2) := by decide +kernel
theorem dX12_init_69 : decode cX12_init 69 = .ok (.putfield 32, 3) := by decide +kernel
theorem dX12_init_72 : decode cX12_init 72 = .ok (.aload_n 0, 1) := by decide +kernel
theorem dX12_init_73 : decode cX12_init 73 = .ok (.sipush 260, 3) := by decide +kernel
theorem dX12_init_76 : decode cX12_init 76 = .ok (.newarray .int, 2) := by decide +kernel
theorem dX12_init_78 : decode cX12_init 78 = .ok (.putfield 35, 3) := by decide +kernel
theorem dX12_init_81 : decode cX12_init 81 = .ok (.aload_n 0, 1) := by decide +kernel
theorem dX12_init_82 : decode cX12_init 82 = .ok (.bipush 16, 2) := by decide +kernel
theorem dX12_init_84 : decode cX12_init 84 = .ok (.newarray .int, 2) := by decide +kernel
theorem dX12_init_86 : decode cX12_init 86 = .ok (.putfield 38, 3) := by decide +kernel
theorem dX12_init_89 : decode cX12_init 89 = .ok (.aload_n 0, 1) := by decide +kernel
theorem dX12_init_90 : decode cX12_init 90 = .ok (.bipush 16, 2) := by decide +kernel
theorem dX12_init_92 : decode cX12_init 92 = .ok (.newarray .int, 2) := by decide +kernel
theorem dX12_init_94 : decode cX12_init 94 = .ok (.putfield 41, 3) := by decide +kernel
theorem dX12_init_97 : decode cX12_init 97 = .ok (.aload_n 0, 1) := by decide +kernel
theorem dX12_init_98 : decode cX12_init 98 = .ok (.bipush 16, 2) := by decide +kernel
theorem dX12_init_100 : decode cX12_init 100 = .ok (.newarray .int, 2) := by decide +kernel
theorem dX12_init_102 : decode cX12_init 102 = .ok (.putfield 44, 3) := by decide +kernel
theorem dX12_init_105 : decode cX12_init 105 = .ok (.aload_n 0, 1) := by decide +kernel
theorem dX12_init_106 : decode cX12_init 106 = .ok (.bipush 16, 2) := by decide +kernel
theorem dX12_init_108 : decode cX12_init 108 = .ok (.newarray .int, 2) := by decide +kernel
theorem dX12_init_110 : decode cX12_init 110 = .ok (.putfield 47, 3) := by decide +kernel
theorem dX12_init_113 : decode cX12_init 113 = .ok (.aload_n 0, 1) := by decide +kernel
theorem dX12_init_114 : decode cX12_init 114 = .ok (.sipush 260, 3) := by decide +kernel
theorem dX12_init_117 : decode cX12_init 117 = .ok (.newarray .int, 2) := by decide +kernel
theorem dX12_init_119 : decode cX12_init 119 = .ok (.putfield 50, 3) := by decide +kernel
theorem dX12_init_122 : decode cX12_init 122 = .ok (.aload_n 0, 1) := by decide +kernel
theorem dX12_init_123 : decode cX12_init 123 = .ok (.bipush 16, 2) := by decide +kernel
theorem dX12_init_125 : decode cX12_init 125 = .ok (.newarray .int, 2) := by decide +kernel
theorem dX12_init_127 : decode cX12_init 127 = .ok (.putfield 53, 3) := by decide +kernel
theorem dX12_init_130 : decode cX12_init 130 = .ok (.aload_n 0, 1) := by decide +kernel
theorem dX12_init_131 : decode cX12_init 131 = .ok (.bipush 16, 2) := by decide +kernel
theorem dX12_init_133 : decode cX12_init 133 = .ok (.newarray .int, 2) := by decide +kernel
theorem dX12_init_135 : decode cX12_init 135 = .ok (.putfield 56, 3) := by decide +kernel
theorem dX12_init_138 : decode cX12_init 138 = .ok (.aload_n 0, 1) := by decide +kernel
theorem dX12_init_139 : decode cX12_init 139 = .ok (.bipush 16, 2) := by decide +kernel
theorem dX12_init_141 : decode cX12_init 141 = .ok (.newarray .int, 2) := by decide +kernel
theorem dX12_init_143 : decode cX12_init 143 = .ok (.putfield 59, 3) := by decide +kernel
theorem dX12_init_146 : decode cX12_init 146 = .ok (.aload_n 0, 1) := by decide +kernel
theorem dX12_init_147 : decode cX12_init 147 = .ok (.bipush 16, 2) := by decide +kernel
theorem dX12_init_149 : decode cX12_init 149 = .ok (.newarray .int, 2) := by decide +kernel
theorem dX12_init_151 : decode cX12_init 151 = .ok (.putfield 62, 3) := by decide +kernel
theorem dX12_init_154 : decode cX12_init 154 = .ok (.aload_n 0, 1) := by decide +kernel
theorem dX12_init_155 : decode cX12_init 155 = .ok (.sipush 260, 3) := by decide +kernel
theorem dX12_init_158 : decode cX12_init 158 = .ok (.newarray .int, 2) := by decide +kernel
theorem dX12_init_160 : decode cX12_init 160 = .ok (.putfield 65, 3) := by decide +kernel
theorem dX12_init_163 : decode cX12_init 163 = .ok (.aload_n 0, 1) := by decide +kernel
theorem dX12_init_164 : decode cX12_init 164 = .ok (.bipush 9, 2) := by decide +kernel
theorem dX12_init_166 : decode cX12_init 166 = .ok (.newarray .int, 2) := by decide +kernel
theorem dX12_init_168 : decode cX12_init 168 = .ok (.putfield 68, 3) := by decide +kernel
theorem dX12_init_171 : decode cX12_init 171 = .ok (.aload_n 0, 1) := by decide +kernel
theorem dX12_init_172 : decode cX12_init 172 = .ok (.bipush 96, 2) := by decide +kernel
theorem dX12_init_174 : decode cX12_init 174 = .ok (.newarray .int, 2) := by decide +kernel
theorem dX12_init_176 : decode cX12_init 176 = .ok (.putfield 71, 3) := by decide +kernel
theorem dX12_init_179 : decode cX12_init 179 = .ok (.aload_n 0, 1) := by decide +kernel
theorem dX12_init_180 : decode cX12_init 180 = .ok (.iconst 2, 1) := by decide +kernel
theorem dX12_init_181 : decode cX12_init 181 = .ok (.newarray .int, 2) := by decide +kernel
theorem dX12_init_183 : decode cX12_init 183 = .ok (.putfield 74, 3) := by decide +kernel
theorem dX12_init_186 : decode cX12_init 186 = .ok (.aload_n 0, 1) := by decide +kernel
theorem dX12_init_187 : decode cX12_init 187 = .ok (.iconst 2, 1) := by decide +kernel
theorem dX12_init_188 : decode cX12_init 188 = .ok (.newarray .int, 2) := by decide +kernel
theorem dX12_init_190 : decode cX12_init 190 = .ok (.putfield 77, 3) := by decide +kernel
theorem dX12_init_193 : decode cX12_init 193 = .ok (.aload_n 0, 1) := by decide +kernel
theorem dX12_init_194 : decode cX12_init 194 = .ok (.iconst 2, 1) := by decide +kernel
theorem dX12_init_195 : decode cX12_init 195 = .ok (.newarray .int, 2) := by decide +kernel
theorem dX12_init_197 : decode cX12_init 197 = .ok (.putfield 80, 3) := by decide +kernel
theorem dX12_init_200 : decode cX12_init 200 = .ok (.aload_n 0, 1) := by decide +kernel
theorem dX12_init_201 : decode cX12_init 201 = .ok (.ldc 83, 2) := by decide +kernel
theorem dX12_init_203 : decode cX12_init 203 = .ok (.newarray .int, 2) := by decide +kernel
theorem dX12_init_205 : decode cX12_init 205 = .ok (.putfield 84, 3) := by decide +kernel
theorem dX12_init_208 : decode cX12_init 208 = .ok (.aload_n 0, 1) := by decide +kernel
theorem dX12_init_209 : decode cX12_init 209 = .ok (.ldc 83, 2) := by decide +kernel
theorem dX12_init_211 : decode cX12_init 211 = .ok (.newarray .byte, 2) := by decide +kernel
theorem dX12_init_213 : decode cX12_init 213 = .ok (.putfield 87, 3) := by decide +kernel
theorem dX12_init_216 : decode cX12_init 216 = .ok (.aload_n 0, 1) := by decide +kernel
theorem dX12_init_217 : decode cX12_init 217 = .ok (.ldc 83, 2) := by decide +kernel
theorem dX12_init_219 : decode cX12_init 219 = .ok (.newarray .byte, 2) := by decide +kernel
theorem dX12_init_221 : decode cX12_init 221 = .ok (.putfield 90, 3) := by decide +kernel
theorem dX12_init_224 : decode cX12_init 224 = .ok (.aload_n 0, 1) := by decide +kernel
theorem dX12_init_225 : decode cX12_init 225 = .ok (.bipush 25, 2) := by decide +kernel
theorem dX12_init_227 : decode cX12_init 227 = .ok (.newarray .int, 2) := by decide +kernel
theorem dX12_init_229 : decode cX12_init 229 = .ok (.putfield 93, 3) := by decide +kernel
theorem dX12_init_232 : decode cX12_init 232 = .ok (.aload_n 0, 1) := by decide +kernel
theorem dX12_init_233 : decode cX12_init 233 = .ok (.bipush 13, 2) := by decide +kernel
theorem dX12_init_235 : decode cX12_init 235 = .ok (.newarray .long, 2) := by decide +kernel
theorem dX12_init_237 : decode cX12_init 237 = .ok (.putfield 96, 3) := by decide +kernel
theorem dX12_init_240 : decode cX12_init 240 = .ok (.aload_n 0, 1) := by decide +kernel
theorem dX12_init_241 : decode cX12_init 241 = .ok (.bipush 6, 2) := by decide +kernel
theorem dX12_init_243 : decode cX12_init 243 = .ok (.newarray .int, 2) := by decide +kernel
theorem dX12_init_245 : decode cX12_init 245 = .ok (.putfield 100, 3) := by decide +kernel
theorem dX12_init_248 : decode cX12_init 248 = .ok (.aload_n 0, 1) := by decide +kernel
theorem dX12_init_249 : decode cX12_init 249 = .ok (.bipush 6, 2) := by decide +kernel
theorem dX12_init_251 : decode cX12_init 251 = .ok (.newarray .int, 2) := by decide +kernel
theorem dX12_init_253 : decode cX12_init 253 = .ok (.putfield 103, 3) := by decide +kernel
theorem dX12_init_256 : decode cX12_init 256 = .ok (.aload_n 0, 1) := by decide +kernel
theorem dX12_init_257 : decode cX12_init 257 = .ok (.bipush 54, 2) := by decide +kernel
theorem dX12_init_259 : decode cX12_init 259 = .ok (.newarray .int, 2) := by decide +kernel
theorem dX12_init_261 : decode cX12_init 261 = .ok (.putfield 106, 3) := by decide +kernel
theorem dX12_init_264 : decode cX12_init 264 = .ok (.aload_n 0, 1) := by decide +kernel
theorem dX12_init_265 : decode cX12_init 265 = .ok (.sipush 9261, 3) := by decide +kernel
theorem dX12_init_268 : decode cX12_init 268 = .ok (.newarray .int, 2) := by decide +kernel
theorem dX12_init_270 : decode cX12_init 270 = .ok (.putfield 109, 3) := by decide +kernel
theorem dX12_init_273 : decode cX12_init 273 = .ok (.aload_n 0, 1) := by decide +kernel
theorem dX12_init_274 : decode cX12_init 274 = .ok (.iconst 3, 1) := by decide +kernel
theorem dX12_init_275 : decode cX12_init 275 = .ok (.newarray .int, 2) := by decide +kernel
theorem dX12_init_277 : decode cX12_init 277 = .ok (.putfield 112, 3) := by decide +kernel
theorem dX12_init_280 : decode cX12_init 280 = .ok (.aload_n 0, 1) := by decide +kernel
theorem dX12_init_281 : decode cX12_init 281 = .ok (.iconst 3, 1) := by decide +kernel
theorem dX12_init_282 : decode cX12_init 282 = .ok (.newarray .int, 2) := by decide +kernel
theorem dX12_init_284 : decode cX12_init 284 = .ok (.putfield 115, 3) := by decide +kernel
theorem dX12_init_287 : decode cX12_init 287 = .ok (.aload_n 0, 1) := by decide +kernel
theorem dX12_init_288 : decode cX12_init 288 = .ok (.sipush 9261, 3) := by decide +kernel
theorem dX12_init_291 : decode cX12_init 291 = .ok (.newarray .int, 2) := by decide +kernel
theorem dX12_init_293 : decode cX12_init 293 = .ok (.putfield 118, 3) := by decide +kernel
theorem dX12_init_296 : decode cX12_init 296 = .ok (.aload_n 0, 1) := by decide +kernel
theorem dX12_init_297 : decode cX12_init 297 = .ok (.sipush 256, 3) := by decide +kernel
theorem dX12_init_300 : decode cX12_init 300 = .ok (.newarray .int, 2) := by decide +kernel
theorem dX12_init_302 : decode cX12_init 302 = .ok (.putfield 121, 3) := by decide +kernel
theorem dX12_init_305 : decode cX12_init 305 = .ok (.aload_n 0, 1) := by decide +kernel
theorem dX12_init_306 : decode cX12_init 306 = .ok (.getfield 7, 3) := by decide +kernel
theorem dX12_init_309 : decode cX12_init 309 = .ok (.bipush 74, 2) := by decide +kernel
theorem dX12_init_311 : decode cX12_init 311 = .ok (.iconst 1, 1) := by decide +kernel
theorem dX12_init_312 : decode cX12_init 312 = .ok (.iastore, 1) := by decide +kernel
theorem dX12_init_313 : decode cX12_init 313 = .ok (.aload_n 0, 1) := by decide +kernel
theorem dX12_init_314 : decode cX12_init 314 = .ok (.getfield 7, 3) := by decide +kernel
theorem dX12_init_317 : decode cX12_init 317 = .ok (.bipush 72, 2) := by decide +kernel
theorem dX12_init_319 : decode cX12_init 319 = .ok (.bipush 99, 2) := by decide +kernel
theorem dX12_init_321 : decode cX12_init 321 = .ok (.iastore, 1) := by decide +kernel
theorem dX12_init_322 : decode cX12_init 322 = .ok (.iconst 0, 1) := by decide +kernel
theorem dX12_init_323 : decode cX12_init 323 = .ok (.istore_n 1, 1) := by decide +kernel
theorem dX12_init_324 : decode cX12_init 324 = .ok (.iload_n 1, 1) := by decide +kernel
theorem dX12_init_325 : decode cX12_init 325 = .ok (.bipush 12, 2) := by decide +kernel
theorem dX12_init_327 : decode cX12_init 327 = .ok (.if_icmp .ge 20, 3) := by decide +kernel
theorem dX12_init_330 : decode cX12_init 330 = .ok (.aload_n 0, 1) := by decide +kernel
theorem dX12_init_331 : decode cX12_init 331 = .ok (.getfield 7, 3) := by decide +kernel
theorem dX12_init_334 : decode cX12_init 334 = .ok (.bipush 12, 2) := by decide +kernel
theorem dX12_init_336 : decode cX12_init 336 = .ok (.iload_n 1, 1) := by decide +kernel
theorem dX12_init_337 : decode cX12_init 337 = .ok (.iadd, 1) := by decide +kernel
theorem dX12_init_338 : decode cX12_init 338 = .ok (.bipush 9, 2) := by decide +kernel
theorem dX12_init_340 : decode cX12_init 340 = .ok (.iastore, 1) := by decide +kernel
theorem dX12_init_341 : decode cX12_init 341 = .ok (.iinc 1 1, 3) := by decide +kernel
theorem dX12_init_344 : decode cX12_init 344 = .ok (.goto (-20), 3) := by decide +kernel
theorem dX12_init_347 : decode cX12_init 347 = .ok (.return_, 1) := by decide +kernel
theorem dX12_in_0 : decode cX12_in 0 = .ok (.iload_n 0, 1) := by decide +kernel
theorem dX12_in_1 : decode cX12_in 1 = .ok (.iload_n 1, 1) := by decide +kernel
theorem dX12_in_2 : decode cX12_in 2 = .ok (.if_icmp .lt 12, 3) := by decide +kernel
theorem dX12_in_5 : decode cX12_in 5 = .ok (.iload_n 0, 1) := by decide +kernel
theorem dX12_in_6 : decode cX12_in 6 = .ok (.iload_n 2, 1) := by decide +kernel
theorem dX12_in_7 : decode cX12_in 7 = .ok (.if_icmp .gt 7, 3) := by decide +kernel
theorem dX12_in_10 : decode cX12_in 10 = .ok (.iconst 1, 1) := by decide +kernel
theorem dX12_in_11 : decode cX12_in 11 = .ok (.goto 4, 3) := by decide +kernel
theorem dX12_in_14 : decode cX12_in 14 = .ok (.iconst 0, 1) := by decide +kernel
theorem dX12_in_15 : decode cX12_in 15 = .ok (.ireturn, 1) := by decide +kernel
theorem dX12_min_0 : decode cX12_min 0 = .ok (.iload_n 0, 1) := by decide +kernel
theorem dX12_min_1 : decode cX12_min 1 = .ok (.iload_n 1, 1) := by decide +kernel
theorem dX12_min_2 : decode cX12_min 2 = .ok (.if_icmp .ge 7, 3) := by decide +kernel
theorem dX12_min_5 : decode cX12_min 5 = .ok (.iload_n 0, 1) := by decide +kernel
theorem dX12_min_6 : decode cX12_min 6 = .ok (.goto 4, 3) := by decide +kernel
theorem dX12_min_9 : decode cX12_min 9 = .ok (.iload_n 1, 1) := by decide +kernel
theorem dX12_min_10 : decode cX12_min 10 = .ok (.ireturn, 1) := by decide +kernel
theorem dX12_max_0 : decode cX12_max 0 = .ok (.iload_n 0, 1) := by decide +kernel
theorem dX12_max_1 : decode cX12_max 1 = .ok (.iload_n 1, 1) := by decide +kernel
theorem dX12_max_2 : decode cX12_max 2 = .ok (.if_icmp .le 7, 3) := by decide +kernel
theorem dX12_max_5 : decode cX12_max 5 = .ok (.iload_n 0, 1) := by decide +kernel
theorem dX12_max_6 : decode cX12_max 6 = .ok (.goto 4, 3) := by decide +kernel
theorem dX12_max_9 : decode cX12_max 9 = .ok (.iload_n 1, 1) := by decide +kernel
theorem dX12_max_10 : decode cX12_max 10 = .ok (.ireturn, 1) := by decide +kernel
theorem dX12_size_0 : decode cX12_size 0 = .ok (.iload_n 0, 1) := by decide +kernel
theorem dX12_size_1 : decode cX12_size 1 = .ok (.ifCond .ge 8, 3) := by decide +kernel
theorem dX12_size_4 : decode cX12_size 4 = .ok (.iload_n 0, 1) := by decide +kernel
theorem dX12_size_5 : decode cX12_size 5 = .ok (.ineg, 1) := by decide +kernel
theorem dX12_size_6 : decode cX12_size 6 = .ok (.goto 4, 3) := by decide +kernel
theorem dX12_size_9 : decode cX12_size 9 = .ok (.iload_n 0, 1) := by decide +kernel
theorem dX12_size_10 : decode cX12_size 10 = .ok (.ireturn, 1) := by decide +kernel
theorem dX12_has_0 : decode cX12_has 0 = .ok (.iload_n 0, 1) := by decide +kernel
theorem dX12_has_1 : decode cX12_has 1 = .ok (.iload_n 1, 1) := by decide +kernel
theorem dX12_has_2 : decode cX12_has 2 = .ok (.ishr, 1) := by decide +kernel
theorem dX12_has_3 : decode cX12_has 3 = .ok (.iconst 1, 1) := by decide +kernel
theorem dX12_has_4 : decode cX12_has 4 = .ok (.iand, 1) := by decide +kernel
theorem dX12_has_5 : decode cX12_has 5 = .ok (.iconst 1, 1) := by decide +kernel
theorem dX12_has_6 : decode cX12_has 6 = .ok (.if_icmp .ne 7, 3) := by decide +kernel
theorem dX12_has_9 : decode cX12_has 9 = .ok (.iconst 1, 1) := by decide +kernel
theorem dX12_has_10 : decode cX12_has 10 = .ok (.goto 4, 3) := by decide +kernel
theorem dX12_has_13 : decode cX12_has 13 = .ok (.iconst 0, 1) := by decide +kernel
theorem dX12_has_14 : decode cX12_has 14 = .ok (.ireturn, 1) := by decide +kernel
theorem dX12_bits_0 : decode cX12_bits 0 = .ok (.iconst 0, 1) := by decide +kernel
theorem dX12_bits_1 : decode cX12_bits 1 = .ok (.istore_n 1, 1) := by decide +kernel
theorem dX12_bits_2 : decode cX12_bits 2 = .ok (.iconst 0, 1) := by decide +kernel
theorem dX12_bits_3 : decode cX12_bits 3 = .ok (.istore_n 2, 1) := by decide +kernel
theorem dX12_bits_4 : decode cX12_bits 4 = .ok (.iload_n 2, 1) := by decide +kernel
theorem dX12_bits_5 : decode cX12_bits 5 = .ok (.bipush 12, 2) := by decide +kernel
theorem dX12_bits_7 : decode cX12_bits 7 = .ok (.if_icmp .ge 17, 3) := by decide +kernel
theorem dX12_bits_10 : decode cX12_bits 10 = .ok (.iload_n 1, 1) := by decide +kernel
theorem dX12_bits_11 : decode cX12_bits 11 = .ok (.iload_n 0, 1) := by decide +kernel
theorem dX12_bits_12 : decode cX12_bits 12 = .ok (.iload_n 2, 1) := by decide +kernel
theorem dX12_bits_13 : decode cX12_bits 13 = .ok (.ishr, 1) := by decide +kernel
theorem dX12_bits_14 : decode cX12_bits 14 = .ok (.iconst 1, 1) := by decide +kernel
theorem dX12_bits_15 : decode cX12_bits 15 = .ok (.iand, 1) := by decide +kernel
theorem dX12_bits_16 : decode cX12_bits 16 = .ok (.iadd, 1) := by decide +kernel
theorem dX12_bits_17 : decode cX12_bits 17 = .ok (.istore_n 1, 1) := by decide +kernel
theorem dX12_bits_18 : decode cX12_bits 18 = .ok (.iinc 2 1, 3) := by decide +kernel
theorem dX12_bits_21 : decode cX12_bits 21 = .ok (.goto (-17), 3) := by decide +kernel
theorem dX12_bits_24 : decode cX12_bits 24 = .ok (.iload_n 1, 1) := by decide +kernel
theorem dX12_bits_25 : decode cX12_bits 25 = .ok (.ireturn, 1) := by decide +kernel
theorem dX12_copies_0 : decode cX12_copies 0 = .ok (.iconst 0, 1) := by decide +kernel
theorem dX12_copies_1 : decode cX12_copies 1 = .ok (.istore_n 2, 1) := by decide +kernel
theorem dX12_copies_2 : decode cX12_copies 2 = .ok (.iload_n 2, 1) := by decide +kernel
theorem dX12_copies_3 : decode cX12_copies 3 = .ok (.bipush 75, 2) := by decide +kernel
theorem dX12_copies_5 : decode cX12_copies 5 = .ok (.if_icmp .ge 15, 3) := by decide +kernel
theorem dX12_copies_8 : decode cX12_copies 8 = .ok (.aload_n 1, 1) := by decide +kernel
theorem dX12_copies_9 : decode cX12_copies 9 = .ok (.iload_n 2, 1) := by decide +kernel
theorem dX12_copies_10 : decode cX12_copies 10 = .ok (.aload_n 0, 1) := by decide +kernel
theorem dX12_copies_11 : decode cX12_copies 11 = .ok (.iload_n 2, 1) := by decide +kernel
theorem dX12_copies_12 : decode cX12_copies 12 = .ok (.iaload, 1) := by decide +kernel
theorem dX12_copies_13 : decode cX12_copies 13 = .ok (.iastore, 1) := by decide +kernel
theorem dX12_copies_14 : decode cX12_copies 14 = .ok (.iinc 2 1, 3) := by decide +kernel
theorem dX12_copies_17 : decode cX12_copies 17 = .ok (.goto (-15), 3) := by decide +kernel
theorem dX12_copies_20 : decode cX12_copies 20 = .ok (.return_, 1) := by decide +kernel
theorem dX12_isTold_0 : decode cX12_isTold 0 = .ok (.iload_n 1, 1) := by decide +kernel
theorem dX12_isTold_1 : decode cX12_isTold 1 = .ok (.iconst 0, 1) := by decide +kernel
theorem dX12_isTold_2 : decode cX12_isTold 2 = .ok (.bipush 11, 2) := by decide +kernel
theorem dX12_isTold_4 : decode cX12_isTold 4 = .ok (.invokestatic 124, 3) := by decide +kernel
theorem dX12_isTold_7 : decode cX12_isTold 7 = .ok (.ifCond .eq 16, 3) := by decide +kernel
theorem dX12_isTold_10 : decode cX12_isTold 10 = .ok (.aload_n 0, 1) := by decide +kernel
theorem dX12_isTold_11 : decode cX12_isTold 11 = .ok (.getfield 19, 3) := by decide +kernel
theorem dX12_isTold_14 : decode cX12_isTold 14 = .ok (.iload_n 1, 1) := by decide +kernel
theorem dX12_isTold_15 : decode cX12_isTold 15 = .ok (.iaload, 1) := by decide +kernel
theorem dX12_isTold_16 : decode cX12_isTold 16 = .ok (.ifCond .le 7, 3) := by decide +kernel
theorem dX12_isTold_19 : decode cX12_isTold 19 = .ok (.iconst 1, 1) := by decide +kernel
theorem dX12_isTold_20 : decode cX12_isTold 20 = .ok (.goto 4, 3) := by decide +kernel
theorem dX12_isTold_23 : decode cX12_isTold 23 = .ok (.iconst 0, 1) := by decide +kernel
theorem dX12_isTold_24 : decode cX12_isTold 24 = .ok (.ireturn, 1) := by decide +kernel
theorem dX12_at_0 : decode cX12_at 0 = .ok (.bipush 24, 2) := by decide +kernel
theorem dX12_at_2 : decode cX12_at 2 = .ok (.iload_n 0, 1) := by decide +kernel
theorem dX12_at_3 : decode cX12_at 3 = .ok (.imul, 1) := by decide +kernel
theorem dX12_at_4 : decode cX12_at 4 = .ok (.iload_n 1, 1) := by decide +kernel
theorem dX12_at_5 : decode cX12_at 5 = .ok (.iadd, 1) := by decide +kernel
theorem dX12_at_6 : decode cX12_at 6 = .ok (.ireturn, 1) := by decide +kernel
theorem dX12_leftOf_0 : decode cX12_leftOf 0 = .ok (.aload_n 0, 1) := by decide +kernel
theorem dX12_leftOf_1 : decode cX12_leftOf 1 = .ok (.getfield 19, 3) := by decide +kernel
theorem dX12_leftOf_4 : decode cX12_leftOf 4 = .ok (.iload_n 1, 1) := by decide +kernel
theorem dX12_leftOf_5 : decode cX12_leftOf 5 = .ok (.iaload, 1) := by decide +kernel
theorem dX12_leftOf_6 : decode cX12_leftOf 6 = .ok (.aload_n 0, 1) := by decide +kernel
theorem dX12_leftOf_7 : decode cX12_leftOf 7 = .ok (.getfield 7, 3) := by decide +kernel
theorem dX12_leftOf_10 : decode cX12_leftOf 10 = .ok (.bipush 60, 2) := by decide +kernel
theorem dX12_leftOf_12 : decode cX12_leftOf 12 = .ok (.iload_n 1, 1) := by decide +kernel
theorem dX12_leftOf_13 : decode cX12_leftOf 13 = .ok (.iadd, 1) := by decide +kernel
theorem dX12_leftOf_14 : decode cX12_leftOf 14 = .ok (.iaload, 1) := by decide +kernel
theorem dX12_leftOf_15 : decode cX12_leftOf 15 = .ok (.isub, 1) := by decide +kernel
theorem dX12_leftOf_16 : decode cX12_leftOf 16 = .ok (.ireturn, 1) := by decide +kernel
theorem dX12_screw_0 : decode cX12_screw 0 = .ok (.iload_n 1, 1) := by decide +kernel
theorem dX12_screw_1 : decode cX12_screw 1 = .ok (.iconst 0, 1) := by decide +kernel
theorem dX12_screw_2 : decode cX12_screw 2 = .ok (.bipush 99, 2) := by decide +kernel
theorem dX12_screw_4 : decode cX12_screw 4 = .ok (.invokestatic 124, 3) := by decide +kernel
theorem dX12_screw_7 : decode cX12_screw 7 = .ok (.ifCond .ne 5, 3) := by decide +kernel
theorem dX12_screw_10 : decode cX12_screw 10 = .ok (.iconst 0, 1) := by decide +kernel
theorem dX12_screw_11 : decode cX12_screw 11 = .ok (.ireturn, 1) := by decide +kernel
theorem dX12_screw_12 : decode cX12_screw 12 = .ok (.aload_n 0, 1) := by decide +kernel
theorem dX12_screw_13 : decode cX12_screw 13 = .ok (.getfield 7, 3) := by decide +kernel
theorem dX12_screw_16 : decode cX12_screw 16 = .ok (.bipush 72, 2) := by decide +kernel
theorem dX12_screw_18 : decode cX12_screw 18 = .ok (.iload_n 1, 1) := by decide +kernel
theorem dX12_screw_19 : decode cX12_screw 19 = .ok (.iastore, 1) := by decide +kernel
theorem dX12_screw_20 : decode cX12_screw 20 = .ok (.iconst 1, 1) := by decide +kernel
theorem dX12_screw_21 : decode cX12_screw 21 = .ok (.ireturn, 1) := by decide +kernel
theorem dX12_types_0 : decode cX12_types 0 = .ok (.iconst 3, 1) := by decide +kernel
theorem dX12_types_1 : decode cX12_types 1 = .ok (.istore_n 2, 1) := by decide +kernel
theorem dX12_types_2 : decode cX12_types 2 = .ok (.iload_n 2, 1) := by decide +kernel
theorem dX12_types_3 : decode cX12_types 3 = .ok (.ifCond .lt 35, 3) := by decide +kernel
theorem dX12_types_6 : decode cX12_types 6 = .ok (.aload_n 0, 1) := by decide +kernel
theorem dX12_types_7 : decode cX12_types 7 = .ok (.getfield 28, 3) := by decide +kernel
theorem dX12_types_10 : decode cX12_types 10 = .ok (.aload_n 0, 1) := by decide +kernel
theorem dX12_types_11 : decode cX12_types 11 = .ok (.getfield 128, 3) := by decide +kernel
theorem dX12_types_14 : decode cX12_types 14 = .ok (.iload_n 1, 1) := by decide +kernel
theorem dX12_types_15 : decode cX12_types 15 = .ok (.bipush 8, 2) := by decide +kernel
theorem dX12_types_17 : decode cX12_types 17 = .ok (.iload_n 2, 1) := by decide +kernel
theorem dX12_types_18 : decode cX12_types 18 = .ok (.imul, 1) := by decide +kernel
theorem dX12_types_19 : decode cX12_types 19 = .ok (.ishr, 1) := by decide +kernel
theorem dX12_types_20 : decode cX12_types 20 = .ok (.i2b, 1) := by decide +kernel
theorem dX12_types_21 : decode cX12_types 21 = .ok (.bastore, 1) := by decide +kernel
theorem dX12_types_22 : decode cX12_types 22 = .ok (.aload_n 0, 1) := by decide +kernel
theorem dX12_types_23 : decode cX12_types 23 = .ok (.aload_n 0, 1) := by decide +kernel
theorem dX12_types_24 : decode cX12_types 24 = .ok (.getfield 128, 3) := by decide +kernel
theorem dX12_types_27 : decode cX12_types 27 = .ok (.iconst 1, 1) := by decide +kernel
theorem dX12_types_28 : decode cX12_types 28 = .ok (.iadd, 1) := by decide +kernel
theorem dX12_types_29 : decode cX12_types 29 = .ok (.putfield 128, 3) := by decide +kernel
theorem dX12_types_32 : decode cX12_types 32 = .ok (.iinc 2 (-1), 3) := by decide +kernel
theorem dX12_types_35 : decode cX12_types 35 = .ok (.goto (-33), 3) := by decide +kernel
theorem dX12_types_38 : decode cX12_types 38 = .ok (.return_, 1) := by decide +kernel
theorem dX12_feed_0 : decode cX12_feed 0 = .ok (.aload_n 0, 1) := by decide +kernel
theorem dX12_feed_1 : decode cX12_feed 1 = .ok (.getfield 128, 3) := by decide +kernel
theorem dX12_feed_4 : decode cX12_feed 4 = .ok (.bipush 20, 2) := by decide +kernel
theorem dX12_feed_6 : decode cX12_feed 6 = .ok (.iadd, 1) := by decide +kernel
theorem dX12_feed_7 : decode cX12_feed 7 = .ok (.sipush 260, 3) := by decide +kernel
theorem dX12_feed_10 : decode cX12_feed 10 = .ok (.if_icmp .le 5, 3) := by decide +kernel
theorem dX12_feed_13 : decode cX12_feed 13 = .ok (.iconst (-1), 1) := by decide +kernel
theorem dX12_feed_14 : decode cX12_feed 14 = .ok (.ireturn, 1) := by decide +kernel
theorem dX12_feed_15 : decode cX12_feed 15 = .ok (.aload_n 0, 1) := by decide +kernel
theorem dX12_feed_16 : decode cX12_feed 16 = .ok (.iload_n 1, 1) := by decide +kernel
theorem dX12_feed_17 : decode cX12_feed 17 = .ok (.invokevirtual 132, 3) := by decide +kernel
theorem dX12_feed_20 : decode cX12_feed 20 = .ok (.aload_n 0, 1) := by decide +kernel
theorem dX12_feed_21 : decode cX12_feed 21 = .ok (.iload_n 2, 1) := by decide +kernel
theorem dX12_feed_22 : decode cX12_feed 22 = .ok (.invokevirtual 132, 3) := by decide +kernel
theorem dX12_feed_25 : decode cX12_feed 25 = .ok (.aload_n 0, 1) := by decide +kernel
theorem dX12_feed_26 : decode cX12_feed 26 = .ok (.iload_n 3, 1) := by decide +kernel
theorem dX12_feed_27 : decode cX12_feed 27 = .ok (.invokevirtual 132, 3) := by decide +kernel
theorem dX12_feed_30 : decode cX12_feed 30 = .ok (.aload_n 0, 1) := by decide +kernel
theorem dX12_feed_31 : decode cX12_feed 31 = .ok (.iload 4, 2) := by decide +kernel
theorem dX12_feed_33 : decode cX12_feed 33 = .ok (.invokevirtual 132, 3) := by decide +kernel
theorem dX12_feed_36 : decode cX12_feed 36 = .ok (.aload_n 0, 1) := by decide +kernel
theorem dX12_feed_37 : decode cX12_feed 37 = .ok (.iload 5, 2) := by decide +kernel
theorem dX12_feed_39 : decode cX12_feed 39 = .ok (.invokevirtual 132, 3) := by decide +kernel
theorem dX12_feed_42 : decode cX12_feed 42 = .ok (.aload_n 0, 1) := by decide +kernel
theorem dX12_feed_43 : decode cX12_feed 43 = .ok (.getfield 128, 3) := by decide +kernel
theorem dX12_feed_46 : decode cX12_feed 46 = .ok (.ireturn, 1) := by decide +kernel
theorem dX12_octet_0 : decode cX12_octet 0 = .ok (.aload_n 0, 1) := by decide +kernel
theorem dX12_octet_1 : decode cX12_octet 1 = .ok (.getfield 28, 3) := by decide +kernel
theorem dX12_octet_4 : decode cX12_octet 4 = .ok (.iload_n 1, 1) := by decide +kernel
theorem dX12_octet_5 : decode cX12_octet 5 = .ok (.baload, 1) := by decide +kernel
theorem dX12_octet_6 : decode cX12_octet 6 = .ok (.sipush 255, 3) := by decide +kernel
theorem dX12_octet_9 : decode cX12_octet 9 = .ok (.iand, 1) := by decide +kernel
theorem dX12_octet_10 : decode cX12_octet 10 = .ok (.ireturn, 1) := by decide +kernel
theorem dX12_here_0 : decode cX12_here 0 = .ok (.aload_n 0, 1) := by decide +kernel
theorem dX12_here_1 : decode cX12_here 1 = .ok (.getfield 136, 3) := by decide +kernel
theorem dX12_here_4 : decode cX12_here 4 = .ok (.aload_n 0, 1) := by decide +kernel
theorem dX12_here_5 : decode cX12_here 5 = .ok (.getfield 139, 3) := by decide +kernel
theorem dX12_here_8 : decode cX12_here 8 = .ok (.if_icmp .ge 19, 3) := by decide +kernel
theorem dX12_here_11 : decode cX12_here 11 = .ok (.aload_n 0, 1) := by decide +kernel
theorem dX12_here_12 : decode cX12_here 12 = .ok (.getfield 28, 3) := by decide +kernel
theorem dX12_here_15 : decode cX12_here 15 = .ok (.aload_n 0, 1) := by decide +kernel
theorem dX12_here_16 : decode cX12_here 16 = .ok (.getfield 136, 3) := by decide +kernel
theorem dX12_here_19 : decode cX12_here 19 = .ok (.baload, 1) := by decide +kernel
theorem dX12_here_20 : decode cX12_here 20 = .ok (.sipush 255, 3) := by decide +kernel
theorem dX12_here_23 : decode cX12_here 23 = .ok (.iand, 1) := by decide +kernel
theorem dX12_here_24 : decode cX12_here 24 = .ok (.goto 4, 3) := by decide +kernel
theorem dX12_here_27 : decode cX12_here 27 = .ok (.iconst (-1), 1) := by decide +kernel
theorem dX12_here_28 : decode cX12_here 28 = .ok (.ireturn, 1) := by decide +kernel
theorem dX12_isDigit_0 : decode cX12_isDigit 0 = .ok (.aload_n 0, 1) := by decide +kernel
theorem dX12_isDigit_1 : decode cX12_isDigit 1 = .ok (.invokevirtual 142, 3) := by decide +kernel
theorem dX12_isDigit_4 : decode cX12_isDigit 4 = .ok (.bipush 48, 2) := by decide +kernel
theorem dX12_isDigit_6 : decode cX12_isDigit 6 = .ok (.if_icmp .lt 16, 3) := by decide +kernel
theorem dX12_isDigit_9 : decode cX12_isDigit 9 = .ok (.aload_n 0, 1) := by decide +kernel
theorem dX12_isDigit_10 : decode cX12_isDigit 10 = .ok (.invokevirtual 142, 3) := by decide +kernel
theorem dX12_isDigit_13 : decode cX12_isDigit 13 = .ok (.bipush 57, 2) := by decide +kernel
theorem dX12_isDigit_15 : decode cX12_isDigit 15 = .ok (.if_icmp .gt 7, 3) := by decide +kernel
theorem dX12_isDigit_18 : decode cX12_isDigit 18 = .ok (.iconst 1, 1) := by decide +kernel
theorem dX12_isDigit_19 : decode cX12_isDigit 19 = .ok (.goto 4, 3) := by decide +kernel
theorem dX12_isDigit_22 : decode cX12_isDigit 22 = .ok (.iconst 0, 1) := by decide +kernel
theorem dX12_isDigit_23 : decode cX12_isDigit 23 = .ok (.ireturn, 1) := by decide +kernel
theorem dX12_wrongAt_0 : decode cX12_wrongAt 0 = .ok (.aload_n 0, 1) := by decide +kernel
theorem dX12_wrongAt_1 : decode cX12_wrongAt 1 = .ok (.sipush (-1000), 3) := by decide +kernel
theorem dX12_wrongAt_4 : decode cX12_wrongAt 4 = .ok (.iload_n 1, 1) := by decide +kernel
theorem dX12_wrongAt_5 : decode cX12_wrongAt 5 = .ok (.imul, 1) := by decide +kernel
theorem dX12_wrongAt_6 : decode cX12_wrongAt 6 = .ok (.iload_n 2, 1) := by decide +kernel
theorem dX12_wrongAt_7 : decode cX12_wrongAt 7 = .ok (.isub, 1) := by decide +kernel
theorem dX12_wrongAt_8 : decode cX12_wrongAt 8 = .ok (.putfield 146, 3) := by decide +kernel
theorem dX12_wrongAt_11 : decode cX12_wrongAt 11 = .ok (.iconst 0, 1) := by decide +kernel
theorem dX12_wrongAt_12 : decode cX12_wrongAt 12 = .ok (.ireturn, 1) := by decide +kernel
theorem dX12_takes_0 : decode cX12_takes 0 = .ok (.aload_n 0, 1) := by decide +kernel
theorem dX12_takes_1 : decode cX12_takes 1 = .ok (.invokevirtual 142, 3) := by decide +kernel
theorem dX12_takes_4 : decode cX12_takes 4 = .ok (.iload_n 1, 1) := by decide +kernel
theorem dX12_takes_5 : decode cX12_takes 5 = .ok (.if_icmp .eq 13, 3) := by decide +kernel
theorem dX12_takes_8 : decode cX12_takes 8 = .ok (.aload_n 0, 1) := by decide +kernel
theorem dX12_takes_9 : decode cX12_takes 9 = .ok (.iconst 1, 1) := by decide +kernel
theorem dX12_takes_10 : decode cX12_takes 10 = .ok (.aload_n 0, 1) := by decide +kernel
theorem dX12_takes_11 : decode cX12_takes 11 = .ok (.getfield 136, 3) := by decide +kernel
theorem dX12_takes_14 : decode cX12_takes 14 = .ok (.invokevirtual 149, 3) := by decide +kernel
theorem dX12_takes_17 : decode cX12_takes 17 = .ok (.ireturn, 1) := by decide +kernel
theorem dX12_takes_18 : decode cX12_takes 18 = .ok (.aload_n 0, 1) := by decide +kernel
theorem dX12_takes_19 : decode cX12_takes 19 = .ok (.aload_n 0, 1) := by decide +kernel
theorem dX12_takes_20 : decode cX12_takes 20 = .ok (.getfield 136, 3) := by decide +kernel
theorem dX12_takes_23 : decode cX12_takes 23 = .ok (.iconst 1, 1) := by decide +kernel
theorem dX12_takes_24 : decode cX12_takes 24 = .ok (.iadd, 1) := by decide +kernel
theorem dX12_takes_25 : decode cX12_takes 25 = .ok (.putfield 136, 3) := by decide +kernel
theorem dX12_takes_28 : decode cX12_takes 28 = .ok (.iconst 1, 1) := by decide +kernel
theorem dX12_takes_29 : decode cX12_takes 29 = .ok (.ireturn, 1) := by decide +kernel
theorem dX12_readsNumber_0 : decode cX12_readsNumber 0 = .ok (.aload_n 0, 1) := by decide +kernel
theorem dX12_readsNumber_1 : decode cX12_readsNumber 1 = .ok (.getfield 136, 3) := by decide +kernel
theorem dX12_readsNumber_4 : decode cX12_readsNumber 4 = .ok (.istore_n 1, 1) := by decide +kernel
theorem dX12_readsNumber_5 : decode cX12_readsNumber 5 = .ok (.aload_n 0, 1) := by decide +kernel
theorem dX12_readsNumber_6 : decode cX12_readsNumber 6 = .ok (.iconst 0, 1) := by decide +kernel
theorem dX12_readsNumber_7 : decode cX12_readsNumber 7 = .ok (.putfield 153, 3) := by decide +kernel
theorem dX12_readsNumber_10 : decode cX12_readsNumber 10 = .ok (.aload_n 0, 1) := by decide +kernel
theorem dX12_readsNumber_11 : decode cX12_readsNumber 11 = .ok (.invokevirtual 156, 3) := by decide +kernel
theorem dX12_readsNumber_14 : decode cX12_readsNumber 14 = .ok (.ifCond .eq 55, 3) := by decide +kernel
theorem dX12_readsNumber_17 : decode cX12_readsNumber 17 = .ok (.aload_n 0, 1) := by decide +kernel
theorem dX12_readsNumber_18 : decode cX12_readsNumber 18 = .ok (.getfield 136, 3) := by decide +kernel
theorem dX12_readsNumber_21 : decode cX12_readsNumber 21 = .ok (.iload_n 1, 1) := by decide +kernel
theorem dX12_readsNumber_22 : decode cX12_readsNumber 22 = .ok (.iconst 5, 1) := by decide +kernel
theorem dX12_readsNumber_23 : decode cX12_readsNumber 23 = .ok (.iadd, 1) := by decide +kernel
theorem dX12_readsNumber_24 : decode cX12_readsNumber 24 = .ok (.if_icmp .ne 13, 3) := by decide +kernel
theorem dX12_readsNumber_27 : decode cX12_readsNumber 27 = .ok (.aload_n 0, 1) := by decide +kernel
theorem dX12_readsNumber_28 : decode cX12_readsNumber 28 = .ok (.iconst 2, 1) := by decide +kernel
theorem dX12_readsNumber_29 : decode cX12_readsNumber 29 = .ok (.aload_n 0, 1) := by decide +kernel
theorem dX12_readsNumber_30 : decode cX12_readsNumber 30 = .ok (.getfield 136, 3) := by decide +kernel
theorem dX12_readsNumber_33 : decode cX12_readsNumber 33 = .ok (.invokevirtual 149, 3) := by decide +kernel
theorem dX12_readsNumber_36 : decode cX12_readsNumber 36 = .ok (.ireturn, 1) := by decide +kernel
theorem dX12_readsNumber_37 : decode cX12_readsNumber 37 = .ok (.aload_n 0, 1) := by decide +kernel
theorem dX12_readsNumber_38 : decode cX12_readsNumber 38 = .ok (.bipush 10, 2) := by decide +kernel
theorem dX12_readsNumber_40 : decode cX12_readsNumber 40 = .ok (.aload_n 0, 1) := by decide +kernel
theorem dX12_readsNumber_41 : decode cX12_readsNumber 41 = .ok (.getfield 153, 3) := by decide +kernel
theorem dX12_readsNumber_44 : decode cX12_readsNumber 44 = .ok (.imul, 1) := by decide +kernel
theorem dX12_readsNumber_45 : decode cX12_readsNumber 45 = .ok (.aload_n 0, 1) := by decide +kernel
theorem dX12_readsNumber_46 : decode cX12_readsNumber 46 = .ok (.invokevirtual 142, 3) := by decide +kernel
theorem dX12_readsNumber_49 : decode cX12_readsNumber 49 = .ok (.iadd, 1) := by decide +kernel
theorem dX12_readsNumber_50 : decode cX12_readsNumber 50 = .ok (.bipush 48, 2) := by decide +kernel
theorem dX12_readsNumber_52 : decode cX12_readsNumber 52 = .ok (.isub, 1) := by decide +kernel
theorem dX12_readsNumber_53 : decode cX12_readsNumber 53 = .ok (.putfield 153, 3) := by decide +kernel
theorem dX12_readsNumber_56 : decode cX12_readsNumber 56 = .ok (.aload_n 0, 1) := by decide +kernel
theorem dX12_readsNumber_57 : decode cX12_readsNumber 57 = .ok (.aload_n 0, 1) := by decide +kernel
theorem dX12_readsNumber_58 : decode cX12_readsNumber 58 = .ok (.getfield 136, 3) := by decide +kernel
theorem dX12_readsNumber_61 : decode cX12_readsNumber 61 = .ok (.iconst 1, 1) := by decide +kernel
theorem dX12_readsNumber_62 : decode cX12_readsNumber 62 = .ok (.iadd, 1) := by decide +kernel
theorem dX12_readsNumber_63 : decode cX12_readsNumber 63 = .ok (.putfield 136, 3) := by decide +kernel
theorem dX12_readsNumber_66 : decode cX12_readsNumber 66 = .ok (.goto (-56), 3) := by decide +kernel
theorem dX12_readsNumber_69 : decode cX12_readsNumber 69 = .ok (.iconst 1, 1) := by decide +kernel
theorem dX12_readsNumber_70 : decode cX12_readsNumber 70 = .ok (.ireturn, 1) := by decide +kernel
theorem dX12_notes_0 : decode cX12_notes 0 = .ok (.aload_n 0, 1) := by decide +kernel
theorem dX12_notes_1 : decode cX12_notes 1 = .ok (.getfield 32, 3) := by decide +kernel
theorem dX12_notes_4 : decode cX12_notes 4 = .ok (.aload_n 0, 1) := by decide +kernel
theorem dX12_notes_5 : decode cX12_notes 5 = .ok (.getfield 160, 3) := by decide +kernel
theorem dX12_notes_8 : decode cX12_notes 8 = .ok (.ldc 163, 2) := by decide +kernel
theorem dX12_notes_10 : decode cX12_notes 10 = .ok (.iload_n 1, 1) := by decide +kernel
theorem dX12_notes_11 : decode cX12_notes 11 = .ok (.imul, 1) := by decide +kernel
theorem dX12_notes_12 : decode cX12_notes 12 = .ok (.iload_n 2, 1) := by decide +kernel
theorem dX12_notes_13 : decode cX12_notes 13 = .ok (.iadd, 1) := by decide +kernel
theorem dX12_notes_14 : decode cX12_notes 14 = .ok (.iastore, 1) := by decide +kernel
theorem dX12_notes_15 : decode cX12_notes 15 = .ok (.aload_n 0, 1) := by decide +kernel
theorem dX12_notes_16 : decode cX12_notes 16 = .ok (.aload_n 0, 1) := by decide +kernel
theorem dX12_notes_17 : decode cX12_notes 17 = .ok (.getfield 160, 3) := by decide +kernel
theorem dX12_notes_20 : decode cX12_notes 20 = .ok (.iconst 1, 1) := by decide +kernel
theorem dX12_notes_21 : decode cX12_notes 21 = .ok (.iadd, 1) := by decide +kernel
theorem dX12_notes_22 : decode cX12_notes 22 = .ok (.putfield 160, 3) := by decide +kernel
theorem dX12_notes_25 : decode cX12_notes 25 = .ok (.return_, 1) := by decide +kernel
theorem dX12_opens_0 : decode cX12_opens 0 = .ok (.aload_n 0, 1) := by decide +kernel
theorem dX12_opens_1 : decode cX12_opens 1 = .ok (.getfield 164, 3) := by decide +kernel
theorem dX12_opens_4 : decode cX12_opens 4 = .ok (.bipush 6, 2) := by decide +kernel
theorem dX12_opens_6 : decode cX12_opens 6 = .ok (.if_icmp .ne 13, 3) := by decide +kernel
theorem dX12_opens_9 : decode cX12_opens 9 = .ok (.aload_n 0, 1) := by decide +kernel
theorem dX12_opens_10 : decode cX12_opens 10 = .ok (.iconst 5, 1) := by decide +kernel
theorem dX12_opens_11 : decode cX12_opens 11 = .ok (.aload_n 0, 1) := by decide +kernel
theorem dX12_opens_12 : decode cX12_opens 12 = .ok (.getfield 136, 3) := by decide +kernel
theorem dX12_opens_15 : decode cX12_opens 15 = .ok (.invokevirtual 149, 3) := by decide +kernel
theorem dX12_opens_18 : decode cX12_opens 18 = .ok (.ireturn, 1) := by decide +kernel
theorem dX12_opens_19 : decode cX12_opens 19 = .ok (.aload_n 0, 1) := by decide +kernel
theorem dX12_opens_20 : decode cX12_opens 20 = .ok (.aload_n 0, 1) := by decide +kernel
theorem dX12_opens_21 : decode cX12_opens 21 = .ok (.getfield 164, 3) := by decide +kernel
theorem dX12_opens_24 : decode cX12_opens 24 = .ok (.iconst 1, 1) := by decide +kernel
theorem dX12_opens_25 : decode cX12_opens 25 = .ok (.iadd, 1) := by decide +kernel
theorem dX12_opens_26 : decode cX12_opens 26 = .ok (.putfield 164, 3) := by decide +kernel
theorem dX12_opens_29 : decode cX12_opens 29 = .ok (.aload_n 0, 1) := by decide +kernel
theorem dX12_opens_30 : decode cX12_opens 30 = .ok (.getfield 35, 3) := by decide +kernel
theorem dX12_opens_33 : decode cX12_opens 33 = .ok (.aload_n 0, 1) := by decide +kernel
theorem dX12_opens_34 : decode cX12_opens 34 = .ok (.getfield 167, 3) := by decide +kernel
theorem dX12_opens_37 : decode cX12_opens 37 = .ok (.ldc 163, 2) := by decide +kernel
theorem dX12_opens_39 : decode cX12_opens 39 = .ok (.iload_n 1, 1) := by decide +kernel
theorem dX12_opens_40 : decode cX12_opens 40 = .ok (.imul, 1) := by decide +kernel
theorem dX12_opens_41 : decode cX12_opens 41 = .ok (.iastore, 1) := by decide +kernel
theorem dX12_opens_42 : decode cX12_opens 42 = .ok (.aload_n 0, 1) := by decide +kernel
theorem dX12_opens_43 : decode cX12_opens 43 = .ok (.aload_n 0, 1) := by decide +kernel
theorem dX12_opens_44 : decode cX12_opens 44 = .ok (.getfield 167, 3) := by decide +kernel
theorem dX12_opens_47 : decode cX12_opens 47 = .ok (.iconst 1, 1) := by decide +kernel
theorem dX12_opens_48 : decode cX12_opens 48 = .ok (.iadd, 1) := by decide +kernel
theorem dX12_opens_49 : decode cX12_opens 49 = .ok (.putfield 167, 3) := by decide +kernel
theorem dX12_opens_52 : decode cX12_opens 52 = .ok (.aload_n 0, 1) := by decide +kernel
theorem dX12_opens_53 : decode cX12_opens 53 = .ok (.aload_n 0, 1) := by decide +kernel
theorem dX12_opens_54 : decode cX12_opens 54 = .ok (.getfield 136, 3) := by decide +kernel
theorem dX12_opens_57 : decode cX12_opens 57 = .ok (.iconst 1, 1) := by decide +kernel
theorem dX12_opens_58 : decode cX12_opens 58 = .ok (.iadd, 1) := by decide +kernel
theorem dX12_opens_59 : decode cX12_opens 59 = .ok (.putfield 136, 3) := by decide +kernel
theorem dX12_opens_62 : decode cX12_opens 62 = .ok (.iconst 1, 1) := by decide +kernel
theorem dX12_opens_63 : decode cX12_opens 63 = .ok (.ireturn, 1) := by decide +kernel
theorem dX12_waitTop_0 : decode cX12_waitTop 0 = .ok (.aload_n 0, 1) := by decide +kernel
theorem dX12_waitTop_1 : decode cX12_waitTop 1 = .ok (.getfield 167, 3) := by decide +kernel
theorem dX12_waitTop_4 : decode cX12_waitTop 4 = .ok (.ifCond .ne 7, 3) := by decide +kernel
theorem dX12_waitTop_7 : decode cX12_waitTop 7 = .ok (.iconst (-1), 1) := by decide +kernel
theorem dX12_waitTop_8 : decode cX12_waitTop 8 = .ok (.goto 17, 3) := by decide +kernel
theorem dX12_waitTop_11 : decode cX12_waitTop 11 = .ok (.aload_n 0, 1) := by decide +kernel
theorem dX12_waitTop_12 : decode cX12_waitTop 12 = .ok (.getfield 35, 3) := by decide +kernel
theorem dX12_waitTop_15 : decode cX12_waitTop 15 = .ok (.aload_n 0, 1) := by decide +kernel
theorem dX12_waitTop_16 : decode cX12_waitTop 16 = .ok (.getfield 167, 3) := by decide +kernel
theorem dX12_waitTop_19 : decode cX12_waitTop 19 = .ok (.iconst 1, 1) := by decide +kernel
theorem dX12_waitTop_20 : decode cX12_waitTop 20 = .ok (.isub, 1) := by decide +kernel
theorem dX12_waitTop_21 : decode cX12_waitTop 21 = .ok (.iaload, 1) := by decide +kernel
theorem dX12_waitTop_22 : decode cX12_waitTop 22 = .ok (.ldc 163, 2) := by decide +kernel
theorem dX12_waitTop_24 : decode cX12_waitTop 24 = .ok (.idiv, 1) := by decide +kernel
theorem dX12_waitTop_25 : decode cX12_waitTop 25 = .ok (.ireturn, 1) := by decide +kernel
theorem dX12_factOf_0 : decode cX12_factOf 0 = .ok (.iload_n 0, 1) := by decide +kernel
theorem dX12_factOf_1 : decode cX12_factOf 1 = .ok (.tableswitch 132 99 122 #[117, 132, 132, 132, 132, 132, 126, 132, 111, 132, 132, 113, 132, 132, 132, 132, 123, 132, 119, 132, 129, 132, 121, 115], 111) := by decide +kernel
theorem dX12_factOf_112 : decode cX12_factOf 112 = .ok (.iconst 0, 1) := by decide +kernel
theorem dX12_factOf_113 : decode cX12_factOf 113 = .ok (.ireturn, 1) := by decide +kernel
theorem dX12_factOf_114 : decode cX12_factOf 114 = .ok (.iconst 1, 1) := by decide +kernel
theorem dX12_factOf_115 : decode cX12_factOf 115 = .ok (.ireturn, 1) := by decide +kernel
theorem dX12_factOf_116 : decode cX12_factOf 116 = .ok (.iconst 2, 1) := by decide +kernel
theorem dX12_factOf_117 : decode cX12_factOf 117 = .ok (.ireturn, 1) := by decide +kernel
theorem dX12_factOf_118 : decode cX12_factOf 118 = .ok (.iconst 3, 1) := by decide +kernel
theorem dX12_factOf_119 : decode cX12_factOf 119 = .ok (.ireturn, 1) := by decide +kernel
theorem dX12_factOf_120 : decode cX12_factOf 120 = .ok (.iconst 4, 1) := by decide +kernel
theorem dX12_factOf_121 : decode cX12_factOf 121 = .ok (.ireturn, 1) := by decide +kernel
theorem dX12_factOf_122 : decode cX12_factOf 122 = .ok (.iconst 5, 1) := by decide +kernel
theorem dX12_factOf_123 : decode cX12_factOf 123 = .ok (.ireturn, 1) := by decide +kernel
theorem dX12_factOf_124 : decode cX12_factOf 124 = .ok (.bipush 6, 2) := by decide +kernel
theorem dX12_factOf_126 : decode cX12_factOf 126 = .ok (.ireturn, 1) := by decide +kernel
theorem dX12_factOf_127 : decode cX12_factOf 127 = .ok (.bipush 7, 2) := by decide +kernel
theorem dX12_factOf_129 : decode cX12_factOf 129 = .ok (.ireturn, 1) := by decide +kernel
theorem dX12_factOf_130 : decode cX12_factOf 130 = .ok (.bipush 8, 2) := by decide +kernel
theorem dX12_factOf_132 : decode cX12_factOf 132 = .ok (.ireturn, 1) := by decide +kernel
theorem dX12_factOf_133 : decode cX12_factOf 133 = .ok (.iconst (-1), 1) := by decide +kernel
theorem dX12_factOf_134 : decode cX12_factOf 134 = .ok (.ireturn, 1) := by decide +kernel
theorem dX12_sumSign_0 : decode cX12_sumSign 0 = .ok (.iload_n 0, 1) := by decide +kernel
theorem dX12_sumSign_1 : decode cX12_sumSign 1 = .ok (.bipush 43, 2) := by decide +kernel
theorem dX12_sumSign_3 : decode cX12_sumSign 3 = .ok (.if_icmp .ne 7, 3) := by decide +kernel
theorem dX12_sumSign_6 : decode cX12_sumSign 6 = .ok (.iconst 2, 1) := by decide +kernel
theorem dX12_sumSign_7 : decode cX12_sumSign 7 = .ok (.goto 45, 3) := by decide +kernel
theorem dX12_sumSign_10 : decode cX12_sumSign 10 = .ok (.iload_n 0, 1) := by decide +kernel
theorem dX12_sumSign_11 : decode cX12_sumSign 11 = .ok (.bipush 45, 2) := by decide +kernel
theorem dX12_sumSign_13 : decode cX12_sumSign 13 = .ok (.if_icmp .ne 7, 3) := by decide +kernel
theorem dX12_sumSign_16 : decode cX12_sumSign 16 = .ok (.iconst 3, 1) := by decide +kernel
theorem dX12_sumSign_17 : decode cX12_sumSign 17 = .ok (.goto 35, 3) := by decide +kernel
theorem dX12_sumSign_20 : decode cX12_sumSign 20 = .ok (.iload_n 0, 1) := by decide +kernel
theorem dX12_sumSign_21 : decode cX12_sumSign 21 = .ok (.bipush 42, 2) := by decide +kernel
theorem dX12_sumSign_23 : decode cX12_sumSign 23 = .ok (.if_icmp .ne 7, 3) := by decide +kernel
theorem dX12_sumSign_26 : decode cX12_sumSign 26 = .ok (.iconst 4, 1) := by decide +kernel
theorem dX12_sumSign_27 : decode cX12_sumSign 27 = .ok (.goto 25, 3) := by decide +kernel
theorem dX12_sumSign_30 : decode cX12_sumSign 30 = .ok (.iload_n 0, 1) := by decide +kernel
theorem dX12_sumSign_31 : decode cX12_sumSign 31 = .ok (.bipush 47, 2) := by decide +kernel
theorem dX12_sumSign_33 : decode cX12_sumSign 33 = .ok (.if_icmp .ne 7, 3) := by decide +kernel
theorem dX12_sumSign_36 : decode cX12_sumSign 36 = .ok (.iconst 5, 1) := by decide +kernel
theorem dX12_sumSign_37 : decode cX12_sumSign 37 = .ok (.goto 15, 3) := by decide +kernel
theorem dX12_sumSign_40 : decode cX12_sumSign 40 = .ok (.iload_n 0, 1) := by decide +kernel
theorem dX12_sumSign_41 : decode cX12_sumSign 41 = .ok (.bipush 37, 2) := by decide +kernel
theorem dX12_sumSign_43 : decode cX12_sumSign 43 = .ok (.if_icmp .ne 8, 3) := by decide +kernel
theorem dX12_sumSign_46 : decode cX12_sumSign 46 = .ok (.bipush 6, 2) := by decide +kernel
theorem dX12_sumSign_48 : decode cX12_sumSign 48 = .ok (.goto 4, 3) := by decide +kernel
theorem dX12_sumSign_51 : decode cX12_sumSign 51 = .ok (.iconst (-1), 1) := by decide +kernel
theorem dX12_sumSign_52 : decode cX12_sumSign 52 = .ok (.ireturn, 1) := by decide +kernel
theorem dX12_closesSums_0 : decode cX12_closesSums 0 = .ok (.aload_n 0, 1) := by decide +kernel
theorem dX12_closesSums_1 : decode cX12_closesSums 1 = .ok (.invokevirtual 170, 3) := by decide +kernel
theorem dX12_closesSums_4 : decode cX12_closesSums 4 = .ok (.iconst 4, 1) := by decide +kernel
theorem dX12_closesSums_5 : decode cX12_closesSums 5 = .ok (.if_icmp .lt 12, 3) := by decide +kernel
theorem dX12_closesSums_8 : decode cX12_closesSums 8 = .ok (.aload_n 0, 1) := by decide +kernel
theorem dX12_closesSums_9 : decode cX12_closesSums 9 = .ok (.invokevirtual 170, 3) := by decide +kernel
theorem dX12_closesSums_12 : decode cX12_closesSums 12 = .ok (.bipush 6, 2) := by decide +kernel
theorem dX12_closesSums_14 : decode cX12_closesSums 14 = .ok (.if_icmp .le 23, 3) := by decide +kernel
theorem dX12_closesSums_17 : decode cX12_closesSums 17 = .ok (.iload_n 1, 1) := by decide +kernel
theorem dX12_closesSums_18 : decode cX12_closesSums 18 = .ok (.ifCond .eq 41, 3) := by decide +kernel
theorem dX12_closesSums_21 : decode cX12_closesSums 21 = .ok (.aload_n 0, 1) := by decide +kernel
theorem dX12_closesSums_22 : decode cX12_closesSums 22 = .ok (.invokevirtual 170, 3) := by decide +kernel
theorem dX12_closesSums_25 : decode cX12_closesSums 25 = .ok (.iconst 2, 1) := by decide +kernel
theorem dX12_closesSums_26 : decode cX12_closesSums 26 = .ok (.if_icmp .eq 11, 3) := by decide +kernel
theorem dX12_closesSums_29 : decode cX12_closesSums 29 = .ok (.aload_n 0, 1) := by decide +kernel
theorem dX12_closesSums_30 : decode cX12_closesSums 30 = .ok (.invokevirtual 170, 3) := by decide +kernel
theorem dX12_closesSums_33 : decode cX12_closesSums 33 = .ok (.iconst 3, 1) := by decide +kernel
theorem dX12_closesSums_34 : decode cX12_closesSums 34 = .ok (.if_icmp .ne 25, 3) := by decide +kernel
theorem dX12_closesSums_37 : decode cX12_closesSums 37 = .ok (.aload_n 0, 1) := by decide +kernel
theorem dX12_closesSums_38 : decode cX12_closesSums 38 = .ok (.aload_n 0, 1) := by decide +kernel
theorem dX12_closesSums_39 : decode cX12_closesSums 39 = .ok (.invokevirtual 170, 3) := by decide +kernel
theorem dX12_closesSums_42 : decode cX12_closesSums 42 = .ok (.iconst 0, 1) := by decide +kernel
theorem dX12_closesSums_43 : decode cX12_closesSums 43 = .ok (.invokevirtual 173, 3) := by decide +kernel
theorem dX12_closesSums_46 : decode cX12_closesSums 46 = .ok (.aload_n 0, 1) := by decide +kernel
theorem dX12_closesSums_47 : decode cX12_closesSums 47 = .ok (.aload_n 0, 1) := by decide +kernel
theorem dX12_closesSums_48 : decode cX12_closesSums 48 = .ok (.getfield 167, 3) := by decide +kernel
theorem dX12_closesSums_51 : decode cX12_closesSums 51 = .ok (.iconst 1, 1) := by decide +kernel
theorem dX12_closesSums_52 : decode cX12_closesSums 52 = .ok (.isub, 1) := by decide +kernel
theorem dX12_closesSums_53 : decode cX12_closesSums 53 = .ok (.putfield 167, 3) := by decide +kernel
theorem dX12_closesSums_56 : decode cX12_closesSums 56 = .ok (.goto (-56), 3) := by decide +kernel
theorem dX12_closesSums_59 : decode cX12_closesSums 59 = .ok (.return_, 1) := by decide +kernel
theorem dX12_readsFactor_0 : decode cX12_readsFactor 0 = .ok (.aload_n 0, 1) := by decide +kernel
theorem dX12_readsFactor_1 : decode cX12_readsFactor 1 = .ok (.invokevirtual 142, 3) := by decide +kernel
theorem dX12_readsFactor_4 : decode cX12_readsFactor 4 = .ok (.bipush 91, 2) := by decide +kernel
theorem dX12_readsFactor_6 : decode cX12_readsFactor 6 = .ok (.if_icmp .ne 14, 3) := by decide +kernel
theorem dX12_readsFactor_9 : decode cX12_readsFactor 9 = .ok (.aload_n 0, 1) := by decide +kernel
theorem dX12_readsFactor_10 : decode cX12_readsFactor 10 = .ok (.bipush 14, 2) := by decide +kernel
theorem dX12_readsFactor_12 : decode cX12_readsFactor 12 = .ok (.invokevirtual 177, 3) := by decide +kernel
theorem dX12_readsFactor_15 : decode cX12_readsFactor 15 = .ok (.ifCond .ne (-15), 3) := by decide +kernel
theorem dX12_readsFactor_18 : decode cX12_readsFactor 18 = .ok (.iconst 0, 1) := by decide +kernel
theorem dX12_readsFactor_19 : decode cX12_readsFactor 19 = .ok (.ireturn, 1) := by decide +kernel
theorem dX12_readsFactor_20 : decode cX12_readsFactor 20 = .ok (.aload_n 0, 1) := by decide +kernel
theorem dX12_readsFactor_21 : decode cX12_readsFactor 21 = .ok (.invokevirtual 156, 3) := by decide +kernel
theorem dX12_readsFactor_24 : decode cX12_readsFactor 24 = .ok (.ifCond .eq 23, 3) := by decide +kernel
theorem dX12_readsFactor_27 : decode cX12_readsFactor 27 = .ok (.aload_n 0, 1) := by decide +kernel
theorem dX12_readsFactor_28 : decode cX12_readsFactor 28 = .ok (.invokevirtual 181, 3) := by decide +kernel
theorem dX12_readsFactor_31 : decode cX12_readsFactor 31 = .ok (.ifCond .ne 5, 3) := by decide +kernel
theorem dX12_readsFactor_34 : decode cX12_readsFactor 34 = .ok (.iconst 0, 1) := by decide +kernel
theorem dX12_readsFactor_35 : decode cX12_readsFactor 35 = .ok (.ireturn, 1) := by decide +kernel
theorem dX12_readsFactor_36 : decode cX12_readsFactor 36 = .ok (.aload_n 0, 1) := by decide +kernel
theorem dX12_readsFactor_37 : decode cX12_readsFactor 37 = .ok (.iconst 0, 1) := by decide +kernel
theorem dX12_readsFactor_38 : decode cX12_readsFactor 38 = .ok (.aload_n 0, 1) := by decide +kernel
theorem dX12_readsFactor_39 : decode cX12_readsFactor 39 = .ok (.getfield 153, 3) := by decide +kernel
theorem dX12_readsFactor_42 : decode cX12_readsFactor 42 = .ok (.invokevirtual 173, 3) := by decide +kernel
theorem dX12_readsFactor_45 : decode cX12_readsFactor 45 = .ok (.iconst 1, 1) := by decide +kernel
theorem dX12_readsFactor_46 : decode cX12_readsFactor 46 = .ok (.ireturn, 1) := by decide +kernel
theorem dX12_readsFactor_47 : decode cX12_readsFactor 47 = .ok (.aload_n 0, 1) := by decide +kernel
theorem dX12_readsFactor_48 : decode cX12_readsFactor 48 = .ok (.invokevirtual 142, 3) := by decide +kernel
theorem dX12_readsFactor_51 : decode cX12_readsFactor 51 = .ok (.invokestatic 184, 3) := by decide +kernel
theorem dX12_readsFactor_54 : decode cX12_readsFactor 54 = .ok (.istore_n 1, 1) := by decide +kernel
theorem dX12_readsFactor_55 : decode cX12_readsFactor 55 = .ok (.iload_n 1, 1) := by decide +kernel
theorem dX12_readsFactor_56 : decode cX12_readsFactor 56 = .ok (.iconst (-1), 1) := by decide +kernel
theorem dX12_readsFactor_57 : decode cX12_readsFactor 57 = .ok (.if_icmp .ne 13, 3) := by decide +kernel
theorem dX12_readsFactor_60 : decode cX12_readsFactor 60 = .ok (.aload_n 0, 1) := by decide +kernel
theorem dX12_readsFactor_61 : decode cX12_readsFactor 61 = .ok (.iconst 1, 1) := by decide +kernel
theorem dX12_readsFactor_62 : decode cX12_readsFactor 62 = .ok (.aload_n 0, 1) := by decide +kernel
theorem dX12_readsFactor_63 : decode cX12_readsFactor 63 = .ok (.getfield 136, 3) := by decide +kernel
theorem dX12_readsFactor_66 : decode cX12_readsFactor 66 = .ok (.invokevirtual 149, 3) := by decide +kernel
theorem dX12_readsFactor_69 : decode cX12_readsFactor 69 = .ok (.ireturn, 1) := by decide +kernel
theorem dX12_readsFactor_70 : decode cX12_readsFactor 70 = .ok (.aload_n 0, 1) := by decide +kernel
theorem dX12_readsFactor_71 : decode cX12_readsFactor 71 = .ok (.iconst 1, 1) := by decide +kernel
theorem dX12_readsFactor_72 : decode cX12_readsFactor 72 = .ok (.iload_n 1, 1) := by decide +kernel
theorem dX12_readsFactor_73 : decode cX12_readsFactor 73 = .ok (.invokevirtual 173, 3) := by decide +kernel
theorem dX12_readsFactor_76 : decode cX12_readsFactor 76 = .ok (.aload_n 0, 1) := by decide +kernel
theorem dX12_readsFactor_77 : decode cX12_readsFactor 77 = .ok (.aload_n 0, 1) := by decide +kernel
theorem dX12_readsFactor_78 : decode cX12_readsFactor 78 = .ok (.getfield 136, 3) := by decide +kernel
theorem dX12_readsFactor_81 : decode cX12_readsFactor 81 = .ok (.iconst 1, 1) := by decide +kernel
theorem dX12_readsFactor_82 : decode cX12_readsFactor 82 = .ok (.iadd, 1) := by decide +kernel
theorem dX12_readsFactor_83 : decode cX12_readsFactor 83 = .ok (.putfield 136, 3) := by decide +kernel
theorem dX12_readsFactor_86 : decode cX12_readsFactor 86 = .ok (.iconst 1, 1) := by decide +kernel
theorem dX12_readsFactor_87 : decode cX12_readsFactor 87 = .ok (.ireturn, 1) := by decide +kernel
theorem dX12_hasOpenSum_0 : decode cX12_hasOpenSum 0 = .ok (.iload_n 1, 1) := by decide +kernel
theorem dX12_hasOpenSum_1 : decode cX12_hasOpenSum 1 = .ok (.istore_n 2, 1) := by decide +kernel
theorem dX12_hasOpenSum_2 : decode cX12_hasOpenSum 2 = .ok (.iload_n 2, 1) := by decide +kernel
theorem dX12_hasOpenSum_3 : decode cX12_hasOpenSum 3 = .ok (.aload_n 0, 1) := by decide +kernel
theorem dX12_hasOpenSum_4 : decode cX12_hasOpenSum 4 = .ok (.getfield 167, 3) := by decide +kernel
theorem dX12_hasOpenSum_7 : decode cX12_hasOpenSum 7 = .ok (.if_icmp .ge 25, 3) := by decide +kernel
theorem dX12_hasOpenSum_10 : decode cX12_hasOpenSum 10 = .ok (.aload_n 0, 1) := by decide +kernel
theorem dX12_hasOpenSum_11 : decode cX12_hasOpenSum 11 = .ok (.getfield 35, 3) := by decide +kernel
theorem dX12_hasOpenSum_14 : decode cX12_hasOpenSum 14 = .ok (.iload_n 2, 1) := by decide +kernel
theorem dX12_hasOpenSum_15 : decode cX12_hasOpenSum 15 = .ok (.iaload, 1) := by decide +kernel
theorem dX12_hasOpenSum_16 : decode cX12_hasOpenSum 16 = .ok (.ldc 163, 2) := by decide +kernel
theorem dX12_hasOpenSum_18 : decode cX12_hasOpenSum 18 = .ok (.idiv, 1) := by decide +kernel
theorem dX12_hasOpenSum_19 : decode cX12_hasOpenSum 19 = .ok (.bipush 14, 2) := by decide +kernel
theorem dX12_hasOpenSum_21 : decode cX12_hasOpenSum 21 = .ok (.if_icmp .ne 5, 3) := by decide +kernel
theorem dX12_hasOpenSum_24 : decode cX12_hasOpenSum 24 = .ok (.iconst 1, 1) := by decide +kernel
theorem dX12_hasOpenSum_25 : decode cX12_hasOpenSum 25 = .ok (.ireturn, 1) := by decide +kernel
theorem dX12_hasOpenSum_26 : decode cX12_hasOpenSum 26 = .ok (.iinc 2 1, 3) := by decide +kernel
theorem dX12_hasOpenSum_29 : decode cX12_hasOpenSum 29 = .ok (.goto (-27), 3) := by decide +kernel
theorem dX12_hasOpenSum_32 : decode cX12_hasOpenSum 32 = .ok (.iconst 0, 1) := by decide +kernel
theorem dX12_hasOpenSum_33 : decode cX12_hasOpenSum 33 = .ok (.ireturn, 1) := by decide +kernel
theorem dX12_readsSum_0 : decode cX12_readsSum 0 = .ok (.aload_n 0, 1) := by decide +kernel
theorem dX12_readsSum_1 : decode cX12_readsSum 1 = .ok (.getfield 167, 3) := by decide +kernel
theorem dX12_readsSum_4 : decode cX12_readsSum 4 = .ok (.istore_n 1, 1) := by decide +kernel
theorem dX12_readsSum_5 : decode cX12_readsSum 5 = .ok (.aload_n 0, 1) := by decide +kernel
theorem dX12_readsSum_6 : decode cX12_readsSum 6 = .ok (.invokevirtual 188, 3) := by decide +kernel
theorem dX12_readsSum_9 : decode cX12_readsSum 9 = .ok (.ifCond .ne 5, 3) := by decide +kernel
theorem dX12_readsSum_12 : decode cX12_readsSum 12 = .ok (.iconst 0, 1) := by decide +kernel
theorem dX12_readsSum_13 : decode cX12_readsSum 13 = .ok (.ireturn, 1) := by decide +kernel
theorem dX12_readsSum_14 : decode cX12_readsSum 14 = .ok (.aload_n 0, 1) := by decide +kernel
theorem dX12_readsSum_15 : decode cX12_readsSum 15 = .ok (.invokevirtual 142, 3) := by decide +kernel
theorem dX12_readsSum_18 : decode cX12_readsSum 18 = .ok (.invokestatic 191, 3) := by decide +kernel
theorem dX12_readsSum_21 : decode cX12_readsSum 21 = .ok (.istore_n 2, 1) := by decide +kernel
theorem dX12_readsSum_22 : decode cX12_readsSum 22 = .ok (.iload_n 2, 1) := by decide +kernel
theorem dX12_readsSum_23 : decode cX12_readsSum 23 = .ok (.iconst (-1), 1) := by decide +kernel
theorem dX12_readsSum_24 : decode cX12_readsSum 24 = .ok (.if_icmp .eq 59, 3) := by decide +kernel
theorem dX12_readsSum_27 : decode cX12_readsSum 27 = .ok (.aload_n 0, 1) := by decide +kernel
theorem dX12_readsSum_28 : decode cX12_readsSum 28 = .ok (.iload_n 2, 1) := by decide +kernel
theorem dX12_readsSum_29 : decode cX12_readsSum 29 = .ok (.iconst 4, 1) := by decide +kernel
theorem dX12_readsSum_30 : decode cX12_readsSum 30 = .ok (.if_icmp .ge 7, 3) := by decide +kernel
theorem dX12_readsSum_33 : decode cX12_readsSum 33 = .ok (.iconst 1, 1) := by decide +kernel
theorem dX12_readsSum_34 : decode cX12_readsSum 34 = .ok (.goto 4, 3) := by decide +kernel
theorem dX12_readsSum_37 : decode cX12_readsSum 37 = .ok (.iconst 0, 1) := by decide +kernel
theorem dX12_readsSum_38 : decode cX12_readsSum 38 = .ok (.invokevirtual 194, 3) := by decide +kernel
theorem dX12_readsSum_41 : decode cX12_readsSum 41 = .ok (.aload_n 0, 1) := by decide +kernel
theorem dX12_readsSum_42 : decode cX12_readsSum 42 = .ok (.getfield 35, 3) := by decide +kernel
theorem dX12_readsSum_45 : decode cX12_readsSum 45 = .ok (.aload_n 0, 1) := by decide +kernel
theorem dX12_readsSum_46 : decode cX12_readsSum 46 = .ok (.getfield 167, 3) := by decide +kernel
theorem dX12_readsSum_49 : decode cX12_readsSum 49 = .ok (.ldc 163, 2) := by decide +kernel
theorem dX12_readsSum_51 : decode cX12_readsSum 51 = .ok (.iload_n 2, 1) := by decide +kernel
theorem dX12_readsSum_52 : decode cX12_readsSum 52 = .ok (.imul, 1) := by decide +kernel
theorem dX12_readsSum_53 : decode cX12_readsSum 53 = .ok (.iastore, 1) := by decide +kernel
theorem dX12_readsSum_54 : decode cX12_readsSum 54 = .ok (.aload_n 0, 1) := by decide +kernel
theorem dX12_readsSum_55 : decode cX12_readsSum 55 = .ok (.aload_n 0, 1) := by decide +kernel
theorem dX12_readsSum_56 : decode cX12_readsSum 56 = .ok (.getfield 167, 3) := by decide +kernel
theorem dX12_readsSum_59 : decode cX12_readsSum 59 = .ok (.iconst 1, 1) := by decide +kernel
theorem dX12_readsSum_60 : decode cX12_readsSum 60 = .ok (.iadd, 1) := by decide +kernel
theorem dX12_readsSum_61 : decode cX12_readsSum 61 = .ok (.putfield 167, 3) := by decide +kernel
theorem dX12_readsSum_64 : decode cX12_readsSum 64 = .ok (.aload_n 0, 1) := by decide +kernel
theorem dX12_readsSum_65 : decode cX12_readsSum 65 = .ok (.aload_n 0, 1) := by decide +kernel
theorem dX12_readsSum_66 : decode cX12_readsSum 66 = .ok (.getfield 136, 3) := by decide +kernel
theorem dX12_readsSum_69 : decode cX12_readsSum 69 = .ok (.iconst 1, 1) := by decide +kernel
theorem dX12_readsSum_70 : decode cX12_readsSum 70 = .ok (.iadd, 1) := by decide +kernel
theorem dX12_readsSum_71 : decode cX12_readsSum 71 = .ok (.putfield 136, 3) := by decide +kernel
theorem dX12_readsSum_74 : decode cX12_readsSum 74 = .ok (.aload_n 0, 1) := by decide +kernel
theorem dX12_readsSum_75 : decode cX12_readsSum 75 = .ok (.invokevirtual 188, 3) := by decide +kernel
theorem dX12_readsSum_78 : decode cX12_readsSum 78 = .ok (.ifCond .ne 85, 3) := by decide +kernel
theorem dX12_readsSum_81 : decode cX12_readsSum 81 = .ok (.iconst 0, 1) := by decide +kernel
theorem dX12_readsSum_82 : decode cX12_readsSum 82 = .ok (.ireturn, 1) := by decide +kernel
theorem dX12_readsSum_83 : decode cX12_readsSum 83 = .ok (.aload_n 0, 1) := by decide +kernel
theorem dX12_readsSum_84 : decode cX12_readsSum 84 = .ok (.invokevirtual 142, 3) := by decide +kernel
theorem dX12_readsSum_87 : decode cX12_readsSum 87 = .ok (.bipush 93, 2) := by decide +kernel
theorem dX12_readsSum_89 : decode cX12_readsSum 89 = .ok (.if_icmp .ne 49, 3) := by decide +kernel
theorem dX12_readsSum_92 : decode cX12_readsSum 92 = .ok (.aload_n 0, 1) := by decide +kernel
theorem dX12_readsSum_93 : decode cX12_readsSum 93 = .ok (.iload_n 1, 1) := by decide +kernel
theorem dX12_readsSum_94 : decode cX12_readsSum 94 = .ok (.invokevirtual 198, 3) := by decide +kernel
theorem dX12_readsSum_97 : decode cX12_readsSum 97 = .ok (.ifCond .eq 41, 3) := by decide +kernel
theorem dX12_readsSum_100 : decode cX12_readsSum 100 = .ok (.aload_n 0, 1) := by decide +kernel
theorem dX12_readsSum_101 : decode cX12_readsSum 101 = .ok (.iconst 1, 1) := by decide +kernel
theorem dX12_readsSum_102 : decode cX12_readsSum 102 = .ok (.invokevirtual 194, 3) := by decide +kernel
theorem dX12_readsSum_105 : decode cX12_readsSum 105 = .ok (.aload_n 0, 1) := by decide +kernel
theorem dX12_readsSum_106 : decode cX12_readsSum 106 = .ok (.aload_n 0, 1) := by decide +kernel
theorem dX12_readsSum_107 : decode cX12_readsSum 107 = .ok (.getfield 167, 3) := by decide +kernel
theorem dX12_readsSum_110 : decode cX12_readsSum 110 = .ok (.iconst 1, 1) := by decide +kernel
theorem dX12_readsSum_111 : decode cX12_readsSum 111 = .ok (.isub, 1) := by decide +kernel
theorem dX12_readsSum_112 : decode cX12_readsSum 112 = .ok (.putfield 167, 3) := by decide +kernel
theorem dX12_readsSum_115 : decode cX12_readsSum 115 = .ok (.aload_n 0, 1) := by decide +kernel
theorem dX12_readsSum_116 : decode cX12_readsSum 116 = .ok (.aload_n 0, 1) := by decide +kernel
theorem dX12_readsSum_117 : decode cX12_readsSum 117 = .ok (.getfield 164, 3) := by decide +kernel
theorem dX12_readsSum_120 : decode cX12_readsSum 120 = .ok (.iconst 1, 1) := by decide +kernel
theorem dX12_readsSum_121 : decode cX12_readsSum 121 = .ok (.isub, 1) := by decide +kernel
theorem dX12_readsSum_122 : decode cX12_readsSum 122 = .ok (.putfield 164, 3) := by decide +kernel
theorem dX12_readsSum_125 : decode cX12_readsSum 125 = .ok (.aload_n 0, 1) := by decide +kernel
theorem dX12_readsSum_126 : decode cX12_readsSum 126 = .ok (.aload_n 0, 1) := by decide +kernel
theorem dX12_readsSum_127 : decode cX12_readsSum 127 = .ok (.getfield 136, 3) := by decide +kernel
theorem dX12_readsSum_130 : decode cX12_readsSum 130 = .ok (.iconst 1, 1) := by decide +kernel
theorem dX12_readsSum_131 : decode cX12_readsSum 131 = .ok (.iadd, 1) := by decide +kernel
theorem dX12_readsSum_132 : decode cX12_readsSum 132 = .ok (.putfield 136, 3) := by decide +kernel
theorem dX12_readsSum_135 : decode cX12_readsSum 135 = .ok (.goto 28, 3) := by decide +kernel
theorem dX12_readsSum_138 : decode cX12_readsSum 138 = .ok (.aload_n 0, 1) := by decide +kernel
theorem dX12_readsSum_139 : decode cX12_readsSum 139 = .ok (.iload_n 1, 1) := by decide +kernel
theorem dX12_readsSum_140 : decode cX12_readsSum 140 = .ok (.invokevirtual 198, 3) := by decide +kernel
theorem dX12_readsSum_143 : decode cX12_readsSum 143 = .ok (.ifCond .eq 13, 3) := by decide +kernel
theorem dX12_readsSum_146 : decode cX12_readsSum 146 = .ok (.aload_n 0, 1) := by decide +kernel
theorem dX12_readsSum_147 : decode cX12_readsSum 147 = .ok (.iconst 1, 1) := by decide +kernel
theorem dX12_readsSum_148 : decode cX12_readsSum 148 = .ok (.aload_n 0, 1) := by decide +kernel
theorem dX12_readsSum_149 : decode cX12_readsSum 149 = .ok (.getfield 136, 3) := by decide +kernel
theorem dX12_readsSum_152 : decode cX12_readsSum 152 = .ok (.invokevirtual 149, 3) := by decide +kernel
theorem dX12_readsSum_155 : decode cX12_readsSum 155 = .ok (.ireturn, 1) := by decide +kernel
theorem dX12_readsSum_156 : decode cX12_readsSum 156 = .ok (.aload_n 0, 1) := by decide +kernel
theorem dX12_readsSum_157 : decode cX12_readsSum 157 = .ok (.iconst 1, 1) := by decide +kernel
theorem dX12_readsSum_158 : decode cX12_readsSum 158 = .ok (.invokevirtual 194, 3) := by decide +kernel
theorem dX12_readsSum_161 : decode cX12_readsSum 161 = .ok (.iconst 1, 1) := by decide +kernel
theorem dX12_readsSum_162 : decode cX12_readsSum 162 = .ok (.ireturn, 1) := by decide +kernel
theorem dX12_readsSum_163 : decode cX12_readsSum 163 = .ok (.goto (-149), 3) := by decide +kernel
theorem dX12_endsPiece_0 : decode cX12_endsPiece 0 = .ok (.aload_n 0, 1) := by decide +kernel
theorem dX12_endsPiece_1 : decode cX12_endsPiece 1 = .ok (.invokevirtual 170, 3) := by decide +kernel
theorem dX12_endsPiece_4 : decode cX12_endsPiece 4 = .ok (.bipush 10, 2) := by decide +kernel
theorem dX12_endsPiece_6 : decode cX12_endsPiece 6 = .ok (.if_icmp .ne 33, 3) := by decide +kernel
theorem dX12_endsPiece_9 : decode cX12_endsPiece 9 = .ok (.aload_n 0, 1) := by decide +kernel
theorem dX12_endsPiece_10 : decode cX12_endsPiece 10 = .ok (.bipush 10, 2) := by decide +kernel
theorem dX12_endsPiece_12 : decode cX12_endsPiece 12 = .ok (.iconst 0, 1) := by decide +kernel
theorem dX12_endsPiece_13 : decode cX12_endsPiece 13 = .ok (.invokevirtual 173, 3) := by decide +kernel
theorem dX12_endsPiece_16 : decode cX12_endsPiece 16 = .ok (.aload_n 0, 1) := by decide +kernel
theorem dX12_endsPiece_17 : decode cX12_endsPiece 17 = .ok (.aload_n 0, 1) := by decide +kernel
theorem dX12_endsPiece_18 : decode cX12_endsPiece 18 = .ok (.getfield 167, 3) := by decide +kernel
theorem dX12_endsPiece_21 : decode cX12_endsPiece 21 = .ok (.iconst 1, 1) := by decide +kernel
theorem dX12_endsPiece_22 : decode cX12_endsPiece 22 = .ok (.isub, 1) := by decide +kernel
theorem dX12_endsPiece_23 : decode cX12_endsPiece 23 = .ok (.putfield 167, 3) := by decide +kernel
theorem dX12_endsPiece_26 : decode cX12_endsPiece 26 = .ok (.aload_n 0, 1) := by decide +kernel
theorem dX12_endsPiece_27 : decode cX12_endsPiece 27 = .ok (.aload_n 0, 1) := by decide +kernel
theorem dX12_endsPiece_28 : decode cX12_endsPiece 28 = .ok (.getfield 164, 3) := by decide +kernel
theorem dX12_endsPiece_31 : decode cX12_endsPiece 31 = .ok (.iconst 1, 1) := by decide +kernel
theorem dX12_endsPiece_32 : decode cX12_endsPiece 32 = .ok (.isub, 1) := by decide +kernel
theorem dX12_endsPiece_33 : decode cX12_endsPiece 33 = .ok (.putfield 164, 3) := by decide +kernel
theorem dX12_endsPiece_36 : decode cX12_endsPiece 36 = .ok (.goto (-36), 3) := by decide +kernel
theorem dX12_endsPiece_39 : decode cX12_endsPiece 39 = .ok (.return_, 1) := by decide +kernel
theorem dX12_lands_0 : decode cX12_lands 0 = .ok (.aload_n 0, 1) := by decide +kernel
theorem dX12_lands_1 : decode cX12_lands 1 = .ok (.invokevirtual 170, 3) := by decide +kernel
theorem dX12_lands_4 : decode cX12_lands 4 = .ok (.bipush 11, 2) := by decide +kernel
theorem dX12_lands_6 : decode cX12_lands 6 = .ok (.if_icmp .eq 16, 3) := by decide +kernel
theorem dX12_lands_9 : decode cX12_lands 9 = .ok (.iload_n 1, 1) := by decide +kernel
theorem dX12_lands_10 : decode cX12_lands 10 = .ok (.ifCond .eq 63, 3) := by decide +kernel
theorem dX12_lands_13 : decode cX12_lands 13 = .ok (.aload_n 0, 1) := by decide +kernel
theorem dX12_lands_14 : decode cX12_lands 14 = .ok (.invokevirtual 170, 3) := by decide +kernel
theorem dX12_lands_17 : decode cX12_lands 17 = .ok (.bipush 12, 2) := by decide +kernel
theorem dX12_lands_19 : decode cX12_lands 19 = .ok (.if_icmp .ne 54, 3) := by decide +kernel
theorem dX12_lands_22 : decode cX12_lands 22 = .ok (.aload_n 0, 1) := by decide +kernel
theorem dX12_lands_23 : decode cX12_lands 23 = .ok (.getfield 35, 3) := by decide +kernel
theorem dX12_lands_26 : decode cX12_lands 26 = .ok (.aload_n 0, 1) := by decide +kernel
theorem dX12_lands_27 : decode cX12_lands 27 = .ok (.getfield 167, 3) := by decide +kernel
theorem dX12_lands_30 : decode cX12_lands 30 = .ok (.iconst 1, 1) := by decide +kernel
theorem dX12_lands_31 : decode cX12_lands 31 = .ok (.isub, 1) := by decide +kernel
theorem dX12_lands_32 : decode cX12_lands 32 = .ok (.iaload, 1) := by decide +kernel
theorem dX12_lands_33 : decode cX12_lands 33 = .ok (.ldc 163, 2) := by decide +kernel
theorem dX12_lands_35 : decode cX12_lands 35 = .ok (.irem, 1) := by decide +kernel
theorem dX12_lands_36 : decode cX12_lands 36 = .ok (.istore_n 2, 1) := by decide +kernel
theorem dX12_lands_37 : decode cX12_lands 37 = .ok (.aload_n 0, 1) := by decide +kernel
theorem dX12_lands_38 : decode cX12_lands 38 = .ok (.getfield 32, 3) := by decide +kernel
theorem dX12_lands_41 : decode cX12_lands 41 = .ok (.iload_n 2, 1) := by decide +kernel
theorem dX12_lands_42 : decode cX12_lands 42 = .ok (.ldc 163, 2) := by decide +kernel
theorem dX12_lands_44 : decode cX12_lands 44 = .ok (.aload_n 0, 1) := by decide +kernel
theorem dX12_lands_45 : decode cX12_lands 45 = .ok (.getfield 32, 3) := by decide +kernel
theorem dX12_lands_48 : decode cX12_lands 48 = .ok (.iload_n 2, 1) := by decide +kernel
theorem dX12_lands_49 : decode cX12_lands 49 = .ok (.iaload, 1) := by decide +kernel
theorem dX12_lands_50 : decode cX12_lands 50 = .ok (.ldc 163, 2) := by decide +kernel
theorem dX12_lands_52 : decode cX12_lands 52 = .ok (.idiv, 1) := by decide +kernel
theorem dX12_lands_53 : decode cX12_lands 53 = .ok (.imul, 1) := by decide +kernel
theorem dX12_lands_54 : decode cX12_lands 54 = .ok (.aload_n 0, 1) := by decide +kernel
theorem dX12_lands_55 : decode cX12_lands 55 = .ok (.getfield 160, 3) := by decide +kernel
theorem dX12_lands_58 : decode cX12_lands 58 = .ok (.iadd, 1) := by decide +kernel
theorem dX12_lands_59 : decode cX12_lands 59 = .ok (.iastore, 1) := by decide +kernel
theorem dX12_lands_60 : decode cX12_lands 60 = .ok (.aload_n 0, 1) := by decide +kernel
theorem dX12_lands_61 : decode cX12_lands 61 = .ok (.aload_n 0, 1) := by decide +kernel
theorem dX12_lands_62 : decode cX12_lands 62 = .ok (.getfield 167, 3) := by decide +kernel
theorem dX12_lands_65 : decode cX12_lands 65 = .ok (.iconst 1, 1) := by decide +kernel
theorem dX12_lands_66 : decode cX12_lands 66 = .ok (.isub, 1) := by decide +kernel
theorem dX12_lands_67 : decode cX12_lands 67 = .ok (.putfield 167, 3) := by decide +kernel
theorem dX12_lands_70 : decode cX12_lands 70 = .ok (.goto (-70), 3) := by decide +kernel
theorem dX12_lands_73 : decode cX12_lands 73 = .ok (.return_, 1) := by decide +kernel
theorem dX12_jumps_0 : decode cX12_jumps 0 = .ok (.aload_n 0, 1) := by decide +kernel
theorem dX12_jumps_1 : decode cX12_jumps 1 = .ok (.getfield 35, 3) := by decide +kernel
theorem dX12_jumps_4 : decode cX12_jumps 4 = .ok (.aload_n 0, 1) := by decide +kernel
theorem dX12_jumps_5 : decode cX12_jumps 5 = .ok (.getfield 167, 3) := by decide +kernel
theorem dX12_jumps_8 : decode cX12_jumps 8 = .ok (.ldc 163, 2) := by decide +kernel
theorem dX12_jumps_10 : decode cX12_jumps 10 = .ok (.iload_n 1, 1) := by decide +kernel
theorem dX12_jumps_11 : decode cX12_jumps 11 = .ok (.imul, 1) := by decide +kernel
theorem dX12_jumps_12 : decode cX12_jumps 12 = .ok (.aload_n 0, 1) := by decide +kernel
theorem dX12_jumps_13 : decode cX12_jumps 13 = .ok (.getfield 160, 3) := by decide +kernel
theorem dX12_jumps_16 : decode cX12_jumps 16 = .ok (.iadd, 1) := by decide +kernel
theorem dX12_jumps_17 : decode cX12_jumps 17 = .ok (.iastore, 1) := by decide +kernel
theorem dX12_jumps_18 : decode cX12_jumps 18 = .ok (.aload_n 0, 1) := by decide +kernel
theorem dX12_jumps_19 : decode cX12_jumps 19 = .ok (.aload_n 0, 1) := by decide +kernel
theorem dX12_jumps_20 : decode cX12_jumps 20 = .ok (.getfield 167, 3) := by decide +kernel
theorem dX12_jumps_23 : decode cX12_jumps 23 = .ok (.iconst 1, 1) := by decide +kernel
theorem dX12_jumps_24 : decode cX12_jumps 24 = .ok (.iadd, 1) := by decide +kernel
theorem dX12_jumps_25 : decode cX12_jumps 25 = .ok (.putfield 167, 3) := by decide +kernel
theorem dX12_jumps_28 : decode cX12_jumps 28 = .ok (.aload_n 0, 1) := by decide +kernel
theorem dX12_jumps_29 : decode cX12_jumps 29 = .ok (.iload_n 1, 1) := by decide +kernel
theorem dX12_jumps_30 : decode cX12_jumps 30 = .ok (.iconst 0, 1) := by decide +kernel
theorem dX12_jumps_31 : decode cX12_jumps 31 = .ok (.invokevirtual 173, 3) := by decide +kernel
theorem dX12_jumps_34 : decode cX12_jumps 34 = .ok (.aload_n 0, 1) := by decide +kernel
theorem dX12_jumps_35 : decode cX12_jumps 35 = .ok (.aload_n 0, 1) := by decide +kernel
theorem dX12_jumps_36 : decode cX12_jumps 36 = .ok (.getfield 136, 3) := by decide +kernel
theorem dX12_jumps_39 : decode cX12_jumps 39 = .ok (.iconst 1, 1) := by decide +kernel
theorem dX12_jumps_40 : decode cX12_jumps 40 = .ok (.iadd, 1) := by decide +kernel
theorem dX12_jumps_41 : decode cX12_jumps 41 = .ok (.putfield 136, 3) := by decide +kernel
theorem dX12_jumps_44 : decode cX12_jumps 44 = .ok (.return_, 1) := by decide +kernel
theorem dX12_readsCompared_0 : decode cX12_readsCompared 0 = .ok (.aload_n 0, 1) := by decide +kernel
theorem dX12_readsCompared_1 : decode cX12_readsCompared 1 = .ok (.invokevirtual 201, 3) := by decide +kernel
theorem dX12_readsCompared_4 : decode cX12_readsCompared 4 = .ok (.ifCond .ne 5, 3) := by decide +kernel
theorem dX12_readsCompared_7 : decode cX12_readsCompared 7 = .ok (.iconst 0, 1) := by decide +kernel
theorem dX12_readsCompared_8 : decode cX12_readsCompared 8 = .ok (.ireturn, 1) := by decide +kernel
theorem dX12_readsCompared_9 : decode cX12_readsCompared 9 = .ok (.aload_n 0, 1) := by decide +kernel
theorem dX12_readsCompared_10 : decode cX12_readsCompared 10 = .ok (.invokevirtual 142, 3) := by decide +kernel
theorem dX12_readsCompared_13 : decode cX12_readsCompared 13 = .ok (.bipush 60, 2) := by decide +kernel
theorem dX12_readsCompared_15 : decode cX12_readsCompared 15 = .ok (.if_icmp .ne 8, 3) := by decide +kernel
theorem dX12_readsCompared_18 : decode cX12_readsCompared 18 = .ok (.bipush 7, 2) := by decide +kernel
theorem dX12_readsCompared_20 : decode cX12_readsCompared 20 = .ok (.goto 32, 3) := by decide +kernel
theorem dX12_readsCompared_23 : decode cX12_readsCompared 23 = .ok (.aload_n 0, 1) := by decide +kernel
theorem dX12_readsCompared_24 : decode cX12_readsCompared 24 = .ok (.invokevirtual 142, 3) := by decide +kernel
theorem dX12_readsCompared_27 : decode cX12_readsCompared 27 = .ok (.bipush 62, 2) := by decide +kernel
theorem dX12_readsCompared_29 : decode cX12_readsCompared 29 = .ok (.if_icmp .ne 8, 3) := by decide +kernel
theorem dX12_readsCompared_32 : decode cX12_readsCompared 32 = .ok (.bipush 8, 2) := by decide +kernel
theorem dX12_readsCompared_34 : decode cX12_readsCompared 34 = .ok (.goto 18, 3) := by decide +kernel
theorem dX12_readsCompared_37 : decode cX12_readsCompared 37 = .ok (.aload_n 0, 1) := by decide +kernel
theorem dX12_readsCompared_38 : decode cX12_readsCompared 38 = .ok (.invokevirtual 142, 3) := by decide +kernel
theorem dX12_readsCompared_41 : decode cX12_readsCompared 41 = .ok (.bipush 61, 2) := by decide +kernel
theorem dX12_readsCompared_43 : decode cX12_readsCompared 43 = .ok (.if_icmp .ne 8, 3) := by decide +kernel
theorem dX12_readsCompared_46 : decode cX12_readsCompared 46 = .ok (.bipush 9, 2) := by decide +kernel
theorem dX12_readsCompared_48 : decode cX12_readsCompared 48 = .ok (.goto 4, 3) := by decide +kernel
theorem dX12_readsCompared_51 : decode cX12_readsCompared 51 = .ok (.iconst (-1), 1) := by decide +kernel
theorem dX12_readsCompared_52 : decode cX12_readsCompared 52 = .ok (.istore_n 1, 1) := by decide +kernel
theorem dX12_readsCompared_53 : decode cX12_readsCompared 53 = .ok (.iload_n 1, 1) := by decide +kernel
theorem dX12_readsCompared_54 : decode cX12_readsCompared 54 = .ok (.iconst (-1), 1) := by decide +kernel
theorem dX12_readsCompared_55 : decode cX12_readsCompared 55 = .ok (.if_icmp .ne 13, 3) := by decide +kernel
theorem dX12_readsCompared_58 : decode cX12_readsCompared 58 = .ok (.aload_n 0, 1) := by decide +kernel
theorem dX12_readsCompared_59 : decode cX12_readsCompared 59 = .ok (.iconst 1, 1) := by decide +kernel
theorem dX12_readsCompared_60 : decode cX12_readsCompared 60 = .ok (.aload_n 0, 1) := by decide +kernel
theorem dX12_readsCompared_61 : decode cX12_readsCompared 61 = .ok (.getfield 136, 3) := by decide +kernel
theorem dX12_readsCompared_64 : decode cX12_readsCompared 64 = .ok (.invokevirtual 149, 3) := by decide +kernel
theorem dX12_readsCompared_67 : decode cX12_readsCompared 67 = .ok (.ireturn, 1) := by decide +kernel
theorem dX12_readsCompared_68 : decode cX12_readsCompared 68 = .ok (.aload_n 0, 1) := by decide +kernel
theorem dX12_readsCompared_69 : decode cX12_readsCompared 69 = .ok (.aload_n 0, 1) := by decide +kernel
theorem dX12_readsCompared_70 : decode cX12_readsCompared 70 = .ok (.getfield 136, 3) := by decide +kernel
theorem dX12_readsCompared_73 : decode cX12_readsCompared 73 = .ok (.iconst 1, 1) := by decide +kernel
theorem dX12_readsCompared_74 : decode cX12_readsCompared 74 = .ok (.iadd, 1) := by decide +kernel
theorem dX12_readsCompared_75 : decode cX12_readsCompared 75 = .ok (.putfield 136, 3) := by decide +kernel
theorem dX12_readsCompared_78 : decode cX12_readsCompared 78 = .ok (.aload_n 0, 1) := by decide +kernel
theorem dX12_readsCompared_79 : decode cX12_readsCompared 79 = .ok (.invokevirtual 201, 3) := by decide +kernel
theorem dX12_readsCompared_82 : decode cX12_readsCompared 82 = .ok (.ifCond .ne 5, 3) := by decide +kernel
theorem dX12_readsCompared_85 : decode cX12_readsCompared 85 = .ok (.iconst 0, 1) := by decide +kernel
theorem dX12_readsCompared_86 : decode cX12_readsCompared 86 = .ok (.ireturn, 1) := by decide +kernel
theorem dX12_readsCompared_87 : decode cX12_readsCompared 87 = .ok (.aload_n 0, 1) := by decide +kernel
theorem dX12_readsCompared_88 : decode cX12_readsCompared 88 = .ok (.iload_n 1, 1) := by decide +kernel
theorem dX12_readsCompared_89 : decode cX12_readsCompared 89 = .ok (.iconst 0, 1) := by decide +kernel
theorem dX12_readsCompared_90 : decode cX12_readsCompared 90 = .ok (.invokevirtual 173, 3) := by decide +kernel
theorem dX12_readsCompared_93 : decode cX12_readsCompared 93 = .ok (.aload_n 0, 1) := by decide +kernel
theorem dX12_readsCompared_94 : decode cX12_readsCompared 94 = .ok (.invokevirtual 204, 3) := by decide +kernel
theorem dX12_readsCompared_97 : decode cX12_readsCompared 97 = .ok (.iconst 1, 1) := by decide +kernel
theorem dX12_readsCompared_98 : decode cX12_readsCompared 98 = .ok (.ireturn, 1) := by decide +kernel
theorem dX12_readsCondition_0 : decode cX12_readsCondition 0 = .ok (.aload_n 0, 1) := by decide +kernel
theorem dX12_readsCondition_1 : decode cX12_readsCondition 1 = .ok (.invokevirtual 142, 3) := by decide +kernel
theorem dX12_readsCondition_4 : decode cX12_readsCondition 4 = .ok (.bipush 40, 2) := by decide +kernel
theorem dX12_readsCondition_6 : decode cX12_readsCondition 6 = .ok (.if_icmp .eq 13, 3) := by decide +kernel
theorem dX12_readsCondition_9 : decode cX12_readsCondition 9 = .ok (.aload_n 0, 1) := by decide +kernel
theorem dX12_readsCondition_10 : decode cX12_readsCondition 10 = .ok (.iconst 1, 1) := by decide +kernel
theorem dX12_readsCondition_11 : decode cX12_readsCondition 11 = .ok (.aload_n 0, 1) := by decide +kernel
theorem dX12_readsCondition_12 : decode cX12_readsCondition 12 = .ok (.getfield 136, 3) := by decide +kernel
theorem dX12_readsCondition_15 : decode cX12_readsCondition 15 = .ok (.invokevirtual 149, 3) := by decide +kernel
theorem dX12_readsCondition_18 : decode cX12_readsCondition 18 = .ok (.ireturn, 1) := by decide +kernel
theorem dX12_readsCondition_19 : decode cX12_readsCondition 19 = .ok (.aload_n 0, 1) := by decide +kernel
theorem dX12_readsCondition_20 : decode cX12_readsCondition 20 = .ok (.iconst 0, 1) := by decide +kernel
theorem dX12_readsCondition_21 : decode cX12_readsCondition 21 = .ok (.putfield 164, 3) := by decide +kernel
theorem dX12_readsCondition_24 : decode cX12_readsCondition 24 = .ok (.aload_n 0, 1) := by decide +kernel
theorem dX12_readsCondition_25 : decode cX12_readsCondition 25 = .ok (.iconst 0, 1) := by decide +kernel
theorem dX12_readsCondition_26 : decode cX12_readsCondition 26 = .ok (.putfield 167, 3) := by decide +kernel
theorem dX12_readsCondition_29 : decode cX12_readsCondition 29 = .ok (.aload_n 0, 1) := by decide +kernel
theorem dX12_readsCondition_30 : decode cX12_readsCondition 30 = .ok (.bipush 13, 2) := by decide +kernel
theorem dX12_readsCondition_32 : decode cX12_readsCondition 32 = .ok (.invokevirtual 177, 3) := by decide +kernel
theorem dX12_readsCondition_35 : decode cX12_readsCondition 35 = .ok (.ifCond .ne 5, 3) := by decide +kernel
theorem dX12_readsCondition_38 : decode cX12_readsCondition 38 = .ok (.iconst 0, 1) := by decide +kernel
theorem dX12_readsCondition_39 : decode cX12_readsCondition 39 = .ok (.ireturn, 1) := by decide +kernel
theorem dX12_readsCondition_40 : decode cX12_readsCondition 40 = .ok (.aload_n 0, 1) := by decide +kernel
theorem dX12_readsCondition_41 : decode cX12_readsCondition 41 = .ok (.invokevirtual 142, 3) := by decide +kernel
theorem dX12_readsCondition_44 : decode cX12_readsCondition 44 = .ok (.bipush 33, 2) := by decide +kernel
theorem dX12_readsCondition_46 : decode cX12_readsCondition 46 = .ok (.if_icmp .eq 12, 3) := by decide +kernel
theorem dX12_readsCondition_49 : decode cX12_readsCondition 49 = .ok (.aload_n 0, 1) := by decide +kernel
theorem dX12_readsCondition_50 : decode cX12_readsCondition 50 = .ok (.invokevirtual 142, 3) := by decide +kernel
theorem dX12_readsCondition_53 : decode cX12_readsCondition 53 = .ok (.bipush 40, 2) := by decide +kernel
theorem dX12_readsCondition_55 : decode cX12_readsCondition 55 = .ok (.if_icmp .ne 28, 3) := by decide +kernel
theorem dX12_readsCondition_58 : decode cX12_readsCondition 58 = .ok (.aload_n 0, 1) := by decide +kernel
theorem dX12_readsCondition_59 : decode cX12_readsCondition 59 = .ok (.aload_n 0, 1) := by decide +kernel
theorem dX12_readsCondition_60 : decode cX12_readsCondition 60 = .ok (.invokevirtual 142, 3) := by decide +kernel
theorem dX12_readsCondition_63 : decode cX12_readsCondition 63 = .ok (.bipush 33, 2) := by decide +kernel
theorem dX12_readsCondition_65 : decode cX12_readsCondition 65 = .ok (.if_icmp .ne 8, 3) := by decide +kernel
theorem dX12_readsCondition_68 : decode cX12_readsCondition 68 = .ok (.bipush 10, 2) := by decide +kernel
theorem dX12_readsCondition_70 : decode cX12_readsCondition 70 = .ok (.goto 5, 3) := by decide +kernel
theorem dX12_readsCondition_73 : decode cX12_readsCondition 73 = .ok (.bipush 13, 2) := by decide +kernel
theorem dX12_readsCondition_75 : decode cX12_readsCondition 75 = .ok (.invokevirtual 177, 3) := by decide +kernel
theorem dX12_readsCondition_78 : decode cX12_readsCondition 78 = .ok (.ifCond .ne (-38), 3) := by decide +kernel
theorem dX12_readsCondition_81 : decode cX12_readsCondition 81 = .ok (.iconst 0, 1) := by decide +kernel
theorem dX12_readsCondition_82 : decode cX12_readsCondition 82 = .ok (.ireturn, 1) := by decide +kernel
theorem dX12_readsCondition_83 : decode cX12_readsCondition 83 = .ok (.aload_n 0, 1) := by decide +kernel
theorem dX12_readsCondition_84 : decode cX12_readsCondition 84 = .ok (.invokevirtual 207, 3) := by decide +kernel
theorem dX12_readsCondition_87 : decode cX12_readsCondition 87 = .ok (.ifCond .ne 5, 3) := by decide +kernel
theorem dX12_readsCondition_90 : decode cX12_readsCondition 90 = .ok (.iconst 0, 1) := by decide +kernel
theorem dX12_readsCondition_91 : decode cX12_readsCondition 91 = .ok (.ireturn, 1) := by decide +kernel
theorem dX12_readsCondition_92 : decode cX12_readsCondition 92 = .ok (.aload_n 0, 1) := by decide +kernel
theorem dX12_readsCondition_93 : decode cX12_readsCondition 93 = .ok (.invokevirtual 142, 3) := by decide +kernel
theorem dX12_readsCondition_96 : decode cX12_readsCondition 96 = .ok (.bipush 41, 2) := by decide +kernel
theorem dX12_readsCondition_98 : decode cX12_readsCondition 98 = .ok (.if_icmp .ne 54, 3) := by decide +kernel
theorem dX12_readsCondition_101 : decode cX12_readsCondition 101 = .ok (.aload_n 0, 1) := by decide +kernel
theorem dX12_readsCondition_102 : decode cX12_readsCondition 102 = .ok (.iconst 1, 1) := by decide +kernel
theorem dX12_readsCondition_103 : decode cX12_readsCondition 103 = .ok (.invokevirtual 210, 3) := by decide +kernel
theorem dX12_readsCondition_106 : decode cX12_readsCondition 106 = .ok (.aload_n 0, 1) := by decide +kernel
theorem dX12_readsCondition_107 : decode cX12_readsCondition 107 = .ok (.aload_n 0, 1) := by decide +kernel
theorem dX12_readsCondition_108 : decode cX12_readsCondition 108 = .ok (.getfield 167, 3) := by decide +kernel
theorem dX12_readsCondition_111 : decode cX12_readsCondition 111 = .ok (.iconst 1, 1) := by decide +kernel
theorem dX12_readsCondition_112 : decode cX12_readsCondition 112 = .ok (.isub, 1) := by decide +kernel
theorem dX12_readsCondition_113 : decode cX12_readsCondition 113 = .ok (.putfield 167, 3) := by decide +kernel
theorem dX12_readsCondition_116 : decode cX12_readsCondition 116 = .ok (.aload_n 0, 1) := by decide +kernel
theorem dX12_readsCondition_117 : decode cX12_readsCondition 117 = .ok (.aload_n 0, 1) := by decide +kernel
theorem dX12_readsCondition_118 : decode cX12_readsCondition 118 = .ok (.getfield 164, 3) := by decide +kernel
theorem dX12_readsCondition_121 : decode cX12_readsCondition 121 = .ok (.iconst 1, 1) := by decide +kernel
theorem dX12_readsCondition_122 : decode cX12_readsCondition 122 = .ok (.isub, 1) := by decide +kernel
theorem dX12_readsCondition_123 : decode cX12_readsCondition 123 = .ok (.putfield 164, 3) := by decide +kernel
theorem dX12_readsCondition_126 : decode cX12_readsCondition 126 = .ok (.aload_n 0, 1) := by decide +kernel
theorem dX12_readsCondition_127 : decode cX12_readsCondition 127 = .ok (.aload_n 0, 1) := by decide +kernel
theorem dX12_readsCondition_128 : decode cX12_readsCondition 128 = .ok (.getfield 136, 3) := by decide +kernel
theorem dX12_readsCondition_131 : decode cX12_readsCondition 131 = .ok (.iconst 1, 1) := by decide +kernel
theorem dX12_readsCondition_132 : decode cX12_readsCondition 132 = .ok (.iadd, 1) := by decide +kernel
theorem dX12_readsCondition_133 : decode cX12_readsCondition 133 = .ok (.putfield 136, 3) := by decide +kernel
theorem dX12_readsCondition_136 : decode cX12_readsCondition 136 = .ok (.aload_n 0, 1) := by decide +kernel
theorem dX12_readsCondition_137 : decode cX12_readsCondition 137 = .ok (.getfield 167, 3) := by decide +kernel
theorem dX12_readsCondition_140 : decode cX12_readsCondition 140 = .ok (.ifCond .ne 5, 3) := by decide +kernel
theorem dX12_readsCondition_143 : decode cX12_readsCondition 143 = .ok (.iconst 1, 1) := by decide +kernel
theorem dX12_readsCondition_144 : decode cX12_readsCondition 144 = .ok (.ireturn, 1) := by decide +kernel
theorem dX12_readsCondition_145 : decode cX12_readsCondition 145 = .ok (.aload_n 0, 1) := by decide +kernel
theorem dX12_readsCondition_146 : decode cX12_readsCondition 146 = .ok (.invokevirtual 204, 3) := by decide +kernel
theorem dX12_readsCondition_149 : decode cX12_readsCondition 149 = .ok (.goto (-57), 3) := by decide +kernel
theorem dX12_readsCondition_152 : decode cX12_readsCondition 152 = .ok (.aload_n 0, 1) := by decide +kernel
theorem dX12_readsCondition_153 : decode cX12_readsCondition 153 = .ok (.invokevirtual 142, 3) := by decide +kernel
theorem dX12_readsCondition_156 : decode cX12_readsCondition 156 = .ok (.bipush 38, 2) := by decide +kernel
theorem dX12_readsCondition_158 : decode cX12_readsCondition 158 = .ok (.if_icmp .eq 22, 3) := by decide +kernel
theorem dX12_readsCondition_161 : decode cX12_readsCondition 161 = .ok (.aload_n 0, 1) := by decide +kernel
theorem dX12_readsCondition_162 : decode cX12_readsCondition 162 = .ok (.invokevirtual 142, 3) := by decide +kernel
theorem dX12_readsCondition_165 : decode cX12_readsCondition 165 = .ok (.bipush 124, 2) := by decide +kernel
theorem dX12_readsCondition_167 : decode cX12_readsCondition 167 = .ok (.if_icmp .eq 13, 3) := by decide +kernel
theorem dX12_readsCondition_170 : decode cX12_readsCondition 170 = .ok (.aload_n 0, 1) := by decide +kernel
theorem dX12_readsCondition_171 : decode cX12_readsCondition 171 = .ok (.iconst 1, 1) := by decide +kernel
theorem dX12_readsCondition_172 : decode cX12_readsCondition 172 = .ok (.aload_n 0, 1) := by decide +kernel
theorem dX12_readsCondition_173 : decode cX12_readsCondition 173 = .ok (.getfield 136, 3) := by decide +kernel
theorem dX12_readsCondition_176 : decode cX12_readsCondition 176 = .ok (.invokevirtual 149, 3) := by decide +kernel
theorem dX12_readsCondition_179 : decode cX12_readsCondition 179 = .ok (.ireturn, 1) := by decide +kernel
theorem dX12_readsCondition_180 : decode cX12_readsCondition 180 = .ok (.aload_n 0, 1) := by decide +kernel
theorem dX12_readsCondition_181 : decode cX12_readsCondition 181 = .ok (.aload_n 0, 1) := by decide +kernel
theorem dX12_readsCondition_182 : decode cX12_readsCondition 182 = .ok (.invokevirtual 142, 3) := by decide +kernel
theorem dX12_readsCondition_185 : decode cX12_readsCondition 185 = .ok (.bipush 124, 2) := by decide +kernel
theorem dX12_readsCondition_187 : decode cX12_readsCondition 187 = .ok (.if_icmp .ne 7, 3) := by decide +kernel
theorem dX12_readsCondition_190 : decode cX12_readsCondition 190 = .ok (.iconst 1, 1) := by decide +kernel
theorem dX12_readsCondition_191 : decode cX12_readsCondition 191 = .ok (.goto 4, 3) := by decide +kernel
theorem dX12_readsCondition_194 : decode cX12_readsCondition 194 = .ok (.iconst 0, 1) := by decide +kernel
theorem dX12_readsCondition_195 : decode cX12_readsCondition 195 = .ok (.invokevirtual 210, 3) := by decide +kernel
theorem dX12_readsCondition_198 : decode cX12_readsCondition 198 = .ok (.aload_n 0, 1) := by decide +kernel
theorem dX12_readsCondition_199 : decode cX12_readsCondition 199 = .ok (.aload_n 0, 1) := by decide +kernel
theorem dX12_readsCondition_200 : decode cX12_readsCondition 200 = .ok (.invokevirtual 142, 3) := by decide +kernel
theorem dX12_readsCondition_203 : decode cX12_readsCondition 203 = .ok (.bipush 38, 2) := by decide +kernel
theorem dX12_readsCondition_205 : decode cX12_readsCondition 205 = .ok (.if_icmp .ne 8, 3) := by decide +kernel
theorem dX12_readsCondition_208 : decode cX12_readsCondition 208 = .ok (.bipush 11, 2) := by decide +kernel
theorem dX12_readsCondition_210 : decode cX12_readsCondition 210 = .ok (.goto 5, 3) := by decide +kernel
theorem dX12_readsCondition_213 : decode cX12_readsCondition 213 = .ok (.bipush 12, 2) := by decide +kernel
theorem dX12_readsCondition_215 : decode cX12_readsCondition 215 = .ok (.invokevirtual 213, 3) := by decide +kernel
theorem dX12_readsCondition_218 : decode cX12_readsCondition 218 = .ok (.goto (-178), 3) := by decide +kernel
theorem dX12_readsRule_0 : decode cX12_readsRule 0 = .ok (.aload_n 0, 1) := by decide +kernel
theorem dX12_readsRule_1 : decode cX12_readsRule 1 = .ok (.invokevirtual 142, 3) := by decide +kernel
theorem dX12_readsRule_4 : decode cX12_readsRule 4 = .ok (.istore_n 1, 1) := by decide +kernel
theorem dX12_readsRule_5 : decode cX12_readsRule 5 = .ok (.iload_n 1, 1) := by decide +kernel
theorem dX12_readsRule_6 : decode cX12_readsRule 6 = .ok (.bipush 103, 2) := by decide +kernel
theorem dX12_readsRule_8 : decode cX12_readsRule 8 = .ok (.if_icmp .eq 37, 3) := by decide +kernel
theorem dX12_readsRule_11 : decode cX12_readsRule 11 = .ok (.iload_n 1, 1) := by decide +kernel
theorem dX12_readsRule_12 : decode cX12_readsRule 12 = .ok (.bipush 102, 2) := by decide +kernel
theorem dX12_readsRule_14 : decode cX12_readsRule 14 = .ok (.if_icmp .eq 31, 3) := by decide +kernel
theorem dX12_readsRule_17 : decode cX12_readsRule 17 = .ok (.iload_n 1, 1) := by decide +kernel
theorem dX12_readsRule_18 : decode cX12_readsRule 18 = .ok (.bipush 97, 2) := by decide +kernel
theorem dX12_readsRule_20 : decode cX12_readsRule 20 = .ok (.if_icmp .eq 25, 3) := by decide +kernel
theorem dX12_readsRule_23 : decode cX12_readsRule 23 = .ok (.iload_n 1, 1) := by decide +kernel
theorem dX12_readsRule_24 : decode cX12_readsRule 24 = .ok (.bipush 100, 2) := by decide +kernel
theorem dX12_readsRule_26 : decode cX12_readsRule 26 = .ok (.if_icmp .eq 19, 3) := by decide +kernel
theorem dX12_readsRule_29 : decode cX12_readsRule 29 = .ok (.iload_n 1, 1) := by decide +kernel
theorem dX12_readsRule_30 : decode cX12_readsRule 30 = .ok (.bipush 120, 2) := by decide +kernel
theorem dX12_readsRule_32 : decode cX12_readsRule 32 = .ok (.if_icmp .eq 13, 3) := by decide +kernel
theorem dX12_readsRule_35 : decode cX12_readsRule 35 = .ok (.aload_n 0, 1) := by decide +kernel
theorem dX12_readsRule_36 : decode cX12_readsRule 36 = .ok (.iconst 1, 1) := by decide +kernel
theorem dX12_readsRule_37 : decode cX12_readsRule 37 = .ok (.aload_n 0, 1) := by decide +kernel
theorem dX12_readsRule_38 : decode cX12_readsRule 38 = .ok (.getfield 136, 3) := by decide +kernel
theorem dX12_readsRule_41 : decode cX12_readsRule 41 = .ok (.invokevirtual 149, 3) := by decide +kernel
theorem dX12_readsRule_44 : decode cX12_readsRule 44 = .ok (.ireturn, 1) := by decide +kernel
theorem dX12_readsRule_45 : decode cX12_readsRule 45 = .ok (.aload_n 0, 1) := by decide +kernel
theorem dX12_readsRule_46 : decode cX12_readsRule 46 = .ok (.getfield 216, 3) := by decide +kernel
theorem dX12_readsRule_49 : decode cX12_readsRule 49 = .ok (.bipush 16, 2) := by decide +kernel
theorem dX12_readsRule_51 : decode cX12_readsRule 51 = .ok (.if_icmp .ne 13, 3) := by decide +kernel
theorem dX12_readsRule_54 : decode cX12_readsRule 54 = .ok (.aload_n 0, 1) := by decide +kernel
theorem dX12_readsRule_55 : decode cX12_readsRule 55 = .ok (.iconst 4, 1) := by decide +kernel
theorem dX12_readsRule_56 : decode cX12_readsRule 56 = .ok (.aload_n 0, 1) := by decide +kernel
theorem dX12_readsRule_57 : decode cX12_readsRule 57 = .ok (.getfield 136, 3) := by decide +kernel
theorem dX12_readsRule_60 : decode cX12_readsRule 60 = .ok (.invokevirtual 149, 3) := by decide +kernel
theorem dX12_readsRule_63 : decode cX12_readsRule 63 = .ok (.ireturn, 1) := by decide +kernel
theorem dX12_readsRule_64 : decode cX12_readsRule 64 = .ok (.aload_n 0, 1) := by decide +kernel
theorem dX12_readsRule_65 : decode cX12_readsRule 65 = .ok (.getfield 38, 3) := by decide +kernel
theorem dX12_readsRule_68 : decode cX12_readsRule 68 = .ok (.aload_n 0, 1) := by decide +kernel
theorem dX12_readsRule_69 : decode cX12_readsRule 69 = .ok (.getfield 216, 3) := by decide +kernel
theorem dX12_readsRule_72 : decode cX12_readsRule 72 = .ok (.iload_n 1, 1) := by decide +kernel
theorem dX12_readsRule_73 : decode cX12_readsRule 73 = .ok (.iastore, 1) := by decide +kernel
theorem dX12_readsRule_74 : decode cX12_readsRule 74 = .ok (.aload_n 0, 1) := by decide +kernel
theorem dX12_readsRule_75 : decode cX12_readsRule 75 = .ok (.aload_n 0, 1) := by decide +kernel
theorem dX12_readsRule_76 : decode cX12_readsRule 76 = .ok (.getfield 136, 3) := by decide +kernel
theorem dX12_readsRule_79 : decode cX12_readsRule 79 = .ok (.iconst 1, 1) := by decide +kernel
theorem dX12_readsRule_80 : decode cX12_readsRule 80 = .ok (.iadd, 1) := by decide +kernel
theorem dX12_readsRule_81 : decode cX12_readsRule 81 = .ok (.putfield 136, 3) := by decide +kernel
theorem dX12_readsRule_84 : decode cX12_readsRule 84 = .ok (.aload_n 0, 1) := by decide +kernel
theorem dX12_readsRule_85 : decode cX12_readsRule 85 = .ok (.getfield 41, 3) := by decide +kernel
theorem dX12_readsRule_88 : decode cX12_readsRule 88 = .ok (.aload_n 0, 1) := by decide +kernel
theorem dX12_readsRule_89 : decode cX12_readsRule 89 = .ok (.getfield 216, 3) := by decide +kernel
theorem dX12_readsRule_92 : decode cX12_readsRule 92 = .ok (.aload_n 0, 1) := by decide +kernel
theorem dX12_readsRule_93 : decode cX12_readsRule 93 = .ok (.getfield 160, 3) := by decide +kernel
theorem dX12_readsRule_96 : decode cX12_readsRule 96 = .ok (.iastore, 1) := by decide +kernel
theorem dX12_readsRule_97 : decode cX12_readsRule 97 = .ok (.aload_n 0, 1) := by decide +kernel
theorem dX12_readsRule_98 : decode cX12_readsRule 98 = .ok (.iconst 0, 1) := by decide +kernel
theorem dX12_readsRule_99 : decode cX12_readsRule 99 = .ok (.putfield 164, 3) := by decide +kernel
theorem dX12_readsRule_102 : decode cX12_readsRule 102 = .ok (.aload_n 0, 1) := by decide +kernel
theorem dX12_readsRule_103 : decode cX12_readsRule 103 = .ok (.iconst 0, 1) := by decide +kernel
theorem dX12_readsRule_104 : decode cX12_readsRule 104 = .ok (.putfield 167, 3) := by decide +kernel
theorem dX12_readsRule_107 : decode cX12_readsRule 107 = .ok (.iload_n 1, 1) := by decide +kernel
theorem dX12_readsRule_108 : decode cX12_readsRule 108 = .ok (.bipush 120, 2) := by decide +kernel
theorem dX12_readsRule_110 : decode cX12_readsRule 110 = .ok (.if_icmp .eq 12, 3) := by decide +kernel
theorem dX12_readsRule_113 : decode cX12_readsRule 113 = .ok (.aload_n 0, 1) := by decide +kernel
theorem dX12_readsRule_114 : decode cX12_readsRule 114 = .ok (.invokevirtual 201, 3) := by decide +kernel
theorem dX12_readsRule_117 : decode cX12_readsRule 117 = .ok (.ifCond .ne 5, 3) := by decide +kernel
theorem dX12_readsRule_120 : decode cX12_readsRule 120 = .ok (.iconst 0, 1) := by decide +kernel
theorem dX12_readsRule_121 : decode cX12_readsRule 121 = .ok (.ireturn, 1) := by decide +kernel
theorem dX12_readsRule_122 : decode cX12_readsRule 122 = .ok (.aload_n 0, 1) := by decide +kernel
theorem dX12_readsRule_123 : decode cX12_readsRule 123 = .ok (.getfield 44, 3) := by decide +kernel
theorem dX12_readsRule_126 : decode cX12_readsRule 126 = .ok (.aload_n 0, 1) := by decide +kernel
theorem dX12_readsRule_127 : decode cX12_readsRule 127 = .ok (.getfield 216, 3) := by decide +kernel
theorem dX12_readsRule_130 : decode cX12_readsRule 130 = .ok (.aload_n 0, 1) := by decide +kernel
theorem dX12_readsRule_131 : decode cX12_readsRule 131 = .ok (.getfield 160, 3) := by decide +kernel
theorem dX12_readsRule_134 : decode cX12_readsRule 134 = .ok (.iastore, 1) := by decide +kernel
theorem dX12_readsRule_135 : decode cX12_readsRule 135 = .ok (.aload_n 0, 1) := by decide +kernel
theorem dX12_readsRule_136 : decode cX12_readsRule 136 = .ok (.invokevirtual 219, 3) := by decide +kernel
theorem dX12_readsRule_139 : decode cX12_readsRule 139 = .ok (.ifCond .ne 5, 3) := by decide +kernel
theorem dX12_readsRule_142 : decode cX12_readsRule 142 = .ok (.iconst 0, 1) := by decide +kernel
theorem dX12_readsRule_143 : decode cX12_readsRule 143 = .ok (.ireturn, 1) := by decide +kernel
theorem dX12_readsRule_144 : decode cX12_readsRule 144 = .ok (.aload_n 0, 1) := by decide +kernel
theorem dX12_readsRule_145 : decode cX12_readsRule 145 = .ok (.getfield 47, 3) := by decide +kernel
theorem dX12_readsRule_148 : decode cX12_readsRule 148 = .ok (.aload_n 0, 1) := by decide +kernel
theorem dX12_readsRule_149 : decode cX12_readsRule 149 = .ok (.getfield 216, 3) := by decide +kernel
theorem dX12_readsRule_152 : decode cX12_readsRule 152 = .ok (.aload_n 0, 1) := by decide +kernel
theorem dX12_readsRule_153 : decode cX12_readsRule 153 = .ok (.getfield 160, 3) := by decide +kernel
theorem dX12_readsRule_156 : decode cX12_readsRule 156 = .ok (.iastore, 1) := by decide +kernel
theorem dX12_readsRule_157 : decode cX12_readsRule 157 = .ok (.aload_n 0, 1) := by decide +kernel
theorem dX12_readsRule_158 : decode cX12_readsRule 158 = .ok (.aload_n 0, 1) := by decide +kernel
theorem dX12_readsRule_159 : decode cX12_readsRule 159 = .ok (.getfield 216, 3) := by decide +kernel
theorem dX12_readsRule_162 : decode cX12_readsRule 162 = .ok (.iconst 1, 1) := by decide +kernel
theorem dX12_readsRule_163 : decode cX12_readsRule 163 = .ok (.iadd, 1) := by decide +kernel
theorem dX12_readsRule_164 : decode cX12_readsRule 164 = .ok (.putfield 216, 3) := by decide +kernel
theorem dX12_readsRule_167 : decode cX12_readsRule 167 = .ok (.iconst 1, 1) := by decide +kernel
theorem dX12_readsRule_168 : decode cX12_readsRule 168 = .ok (.ireturn, 1) := by decide +kernel
theorem dX12_beginsText_0 : decode cX12_beginsText 0 = .ok (.aload_n 0, 1) := by decide +kernel
theorem dX12_beginsText_1 : decode cX12_beginsText 1 = .ok (.iconst 0, 1) := by decide +kernel
theorem dX12_beginsText_2 : decode cX12_beginsText 2 = .ok (.putfield 136, 3) := by decide +kernel
theorem dX12_beginsText_5 : decode cX12_beginsText 5 = .ok (.aload_n 0, 1) := by decide +kernel
theorem dX12_beginsText_6 : decode cX12_beginsText 6 = .ok (.iload_n 1, 1) := by decide +kernel
theorem dX12_beginsText_7 : decode cX12_beginsText 7 = .ok (.putfield 139, 3) := by decide +kernel
theorem dX12_beginsText_10 : decode cX12_beginsText 10 = .ok (.aload_n 0, 1) := by decide +kernel
theorem dX12_beginsText_11 : decode cX12_beginsText 11 = .ok (.iconst 0, 1) := by decide +kernel
theorem dX12_beginsText_12 : decode cX12_beginsText 12 = .ok (.putfield 160, 3) := by decide +kernel
theorem dX12_beginsText_15 : decode cX12_beginsText 15 = .ok (.aload_n 0, 1) := by decide +kernel
theorem dX12_beginsText_16 : decode cX12_beginsText 16 = .ok (.iconst 0, 1) := by decide +kernel
theorem dX12_beginsText_17 : decode cX12_beginsText 17 = .ok (.putfield 216, 3) := by decide +kernel
theorem dX12_beginsText_20 : decode cX12_beginsText 20 = .ok (.return_, 1) := by decide +kernel
theorem dX12_law_0 : decode cX12_law 0 = .ok (.iload_n 1, 1) := by decide +kernel
theorem dX12_law_1 : decode cX12_law 1 = .ok (.iconst 1, 1) := by decide +kernel
theorem dX12_law_2 : decode cX12_law 2 = .ok (.sipush 240, 3) := by decide +kernel
theorem dX12_law_5 : decode cX12_law 5 = .ok (.invokestatic 124, 3) := by decide +kernel
theorem dX12_law_8 : decode cX12_law 8 = .ok (.ifCond .eq 11, 3) := by decide +kernel
theorem dX12_law_11 : decode cX12_law 11 = .ok (.iload_n 1, 1) := by decide +kernel
theorem dX12_law_12 : decode cX12_law 12 = .ok (.aload_n 0, 1) := by decide +kernel
theorem dX12_law_13 : decode cX12_law 13 = .ok (.getfield 128, 3) := by decide +kernel
theorem dX12_law_16 : decode cX12_law 16 = .ok (.if_icmp .le 5, 3) := by decide +kernel
theorem dX12_law_19 : decode cX12_law 19 = .ok (.iconst (-1), 1) := by decide +kernel
theorem dX12_law_20 : decode cX12_law 20 = .ok (.ireturn, 1) := by decide +kernel
theorem dX12_law_21 : decode cX12_law 21 = .ok (.aload_n 0, 1) := by decide +kernel
theorem dX12_law_22 : decode cX12_law 22 = .ok (.iload_n 1, 1) := by decide +kernel
theorem dX12_law_23 : decode cX12_law 23 = .ok (.invokevirtual 222, 3) := by decide +kernel
theorem dX12_law_26 : decode cX12_law 26 = .ok (.aload_n 0, 1) := by decide +kernel
theorem dX12_law_27 : decode cX12_law 27 = .ok (.invokevirtual 225, 3) := by decide +kernel
theorem dX12_law_30 : decode cX12_law 30 = .ok (.istore_n 2, 1) := by decide +kernel
theorem dX12_law_31 : decode cX12_law 31 = .ok (.iload_n 2, 1) := by decide +kernel
theorem dX12_law_32 : decode cX12_law 32 = .ok (.ifCond .eq 39, 3) := by decide +kernel
theorem dX12_law_35 : decode cX12_law 35 = .ok (.aload_n 0, 1) := by decide +kernel
theorem dX12_law_36 : decode cX12_law 36 = .ok (.getfield 136, 3) := by decide +kernel
theorem dX12_law_39 : decode cX12_law 39 = .ok (.aload_n 0, 1) := by decide +kernel
theorem dX12_law_40 : decode cX12_law 40 = .ok (.getfield 139, 3) := by decide +kernel
theorem dX12_law_43 : decode cX12_law 43 = .ok (.if_icmp .ge 28, 3) := by decide +kernel
theorem dX12_law_46 : decode cX12_law 46 = .ok (.aload_n 0, 1) := by decide +kernel
theorem dX12_law_47 : decode cX12_law 47 = .ok (.bipush 59, 2) := by decide +kernel
theorem dX12_law_49 : decode cX12_law 49 = .ok (.invokevirtual 228, 3) := by decide +kernel
theorem dX12_law_52 : decode cX12_law 52 = .ok (.ifCond .eq 14, 3) := by decide +kernel
theorem dX12_law_55 : decode cX12_law 55 = .ok (.aload_n 0, 1) := by decide +kernel
theorem dX12_law_56 : decode cX12_law 56 = .ok (.invokevirtual 225, 3) := by decide +kernel
theorem dX12_law_59 : decode cX12_law 59 = .ok (.ifCond .eq 7, 3) := by decide +kernel
theorem dX12_law_62 : decode cX12_law 62 = .ok (.iconst 1, 1) := by decide +kernel
theorem dX12_law_63 : decode cX12_law 63 = .ok (.goto 4, 3) := by decide +kernel
theorem dX12_law_66 : decode cX12_law 66 = .ok (.iconst 0, 1) := by decide +kernel
theorem dX12_law_67 : decode cX12_law 67 = .ok (.istore_n 2, 1) := by decide +kernel
theorem dX12_law_68 : decode cX12_law 68 = .ok (.goto (-37), 3) := by decide +kernel
theorem dX12_law_71 : decode cX12_law 71 = .ok (.aload_n 0, 1) := by decide +kernel
theorem dX12_law_72 : decode cX12_law 72 = .ok (.iconst 0, 1) := by decide +kernel
theorem dX12_law_73 : decode cX12_law 73 = .ok (.putfield 128, 3) := by decide +kernel
theorem dX12_law_76 : decode cX12_law 76 = .ok (.iload_n 2, 1) := by decide +kernel
theorem dX12_law_77 : decode cX12_law 77 = .ok (.ifCond .ne 8, 3) := by decide +kernel
theorem dX12_law_80 : decode cX12_law 80 = .ok (.aload_n 0, 1) := by decide +kernel
theorem dX12_law_81 : decode cX12_law 81 = .ok (.getfield 146, 3) := by decide +kernel
theorem dX12_law_84 : decode cX12_law 84 = .ok (.ireturn, 1) := by decide +kernel
theorem dX12_law_85 : decode cX12_law 85 = .ok (.aload_n 0, 1) := by decide +kernel
theorem dX12_law_86 : decode cX12_law 86 = .ok (.aload_n 0, 1) := by decide +kernel
theorem dX12_law_87 : decode cX12_law 87 = .ok (.getfield 216, 3) := by decide +kernel
theorem dX12_law_90 : decode cX12_law 90 = .ok (.putfield 231, 3) := by decide +kernel
theorem dX12_law_93 : decode cX12_law 93 = .ok (.iconst 0, 1) := by decide +kernel
theorem dX12_law_94 : decode cX12_law 94 = .ok (.istore_n 3, 1) := by decide +kernel
theorem dX12_law_95 : decode cX12_law 95 = .ok (.iload_n 3, 1) := by decide +kernel
theorem dX12_law_96 : decode cX12_law 96 = .ok (.aload_n 0, 1) := by decide +kernel
theorem dX12_law_97 : decode cX12_law 97 = .ok (.getfield 160, 3) := by decide +kernel
theorem dX12_law_100 : decode cX12_law 100 = .ok (.if_icmp .ge 21, 3) := by decide +kernel
theorem dX12_law_103 : decode cX12_law 103 = .ok (.aload_n 0, 1) := by decide +kernel
theorem dX12_law_104 : decode cX12_law 104 = .ok (.getfield 50, 3) := by decide +kernel
theorem dX12_law_107 : decode cX12_law 107 = .ok (.iload_n 3, 1) := by decide +kernel
theorem dX12_law_108 : decode cX12_law 108 = .ok (.aload_n 0, 1) := by decide +kernel
theorem dX12_law_109 : decode cX12_law 109 = .ok (.getfield 32, 3) := by decide +kernel
theorem dX12_law_112 : decode cX12_law 112 = .ok (.iload_n 3, 1) := by decide +kernel
theorem dX12_law_113 : decode cX12_law 113 = .ok (.iaload, 1) := by decide +kernel
theorem dX12_law_114 : decode cX12_law 114 = .ok (.iastore, 1) := by decide +kernel
theorem dX12_law_115 : decode cX12_law 115 = .ok (.iinc 3 1, 3) := by decide +kernel
theorem dX12_law_118 : decode cX12_law 118 = .ok (.goto (-23), 3) := by decide +kernel
theorem dX12_law_121 : decode cX12_law 121 = .ok (.iconst 0, 1) := by decide +kernel
theorem dX12_law_122 : decode cX12_law 122 = .ok (.istore_n 3, 1) := by decide +kernel
theorem dX12_law_123 : decode cX12_law 123 = .ok (.iload_n 3, 1) := by decide +kernel
theorem dX12_law_124 : decode cX12_law 124 = .ok (.aload_n 0, 1) := by decide +kernel
theorem dX12_law_125 : decode cX12_law 125 = .ok (.getfield 216, 3) := by decide +kernel
theorem dX12_law_128 : decode cX12_law 128 = .ok (.if_icmp .ge 57, 3) := by decide +kernel
theorem dX12_law_131 : decode cX12_law 131 = .ok (.aload_n 0, 1) := by decide +kernel
theorem dX12_law_132 : decode cX12_law 132 = .ok (.getfield 53, 3) := by decide +kernel
theorem dX12_law_135 : decode cX12_law 135 = .ok (.iload_n 3, 1) := by decide +kernel
theorem dX12_law_136 : decode cX12_law 136 = .ok (.aload_n 0, 1) := by decide +kernel
theorem dX12_law_137 : decode cX12_law 137 = .ok (.getfield 38, 3) := by decide +kernel
theorem dX12_law_140 : decode cX12_law 140 = .ok (.iload_n 3, 1) := by decide +kernel
theorem dX12_law_141 : decode cX12_law 141 = .ok (.iaload, 1) := by decide +kernel
theorem dX12_law_142 : decode cX12_law 142 = .ok (.iastore, 1) := by decide +kernel
theorem dX12_law_143 : decode cX12_law 143 = .ok (.aload_n 0, 1) := by decide +kernel
theorem dX12_law_144 : decode cX12_law 144 = .ok (.getfield 56, 3) := by decide +kernel
theorem dX12_law_147 : decode cX12_law 147 = .ok (.iload_n 3, 1) := by decide +kernel
theorem dX12_law_148 : decode cX12_law 148 = .ok (.aload_n 0, 1) := by decide +kernel
theorem dX12_law_149 : decode cX12_law 149 = .ok (.getfield 41, 3) := by decide +kernel
theorem dX12_law_152 : decode cX12_law 152 = .ok (.iload_n 3, 1) := by decide +kernel
theorem dX12_law_153 : decode cX12_law 153 = .ok (.iaload, 1) := by decide +kernel
theorem dX12_law_154 : decode cX12_law 154 = .ok (.iastore, 1) := by decide +kernel
theorem dX12_law_155 : decode cX12_law 155 = .ok (.aload_n 0, 1) := by decide +kernel
theorem dX12_law_156 : decode cX12_law 156 = .ok (.getfield 59, 3) := by decide +kernel
theorem dX12_law_159 : decode cX12_law 159 = .ok (.iload_n 3, 1) := by decide +kernel
theorem dX12_law_160 : decode cX12_law 160 = .ok (.aload_n 0, 1) := by decide +kernel
theorem dX12_law_161 : decode cX12_law 161 = .ok (.getfield 44, 3) := by decide +kernel
theorem dX12_law_164 : decode cX12_law 164 = .ok (.iload_n 3, 1) := by decide +kernel
theorem dX12_law_165 : decode cX12_law 165 = .ok (.iaload, 1) := by decide +kernel
theorem dX12_law_166 : decode cX12_law 166 = .ok (.iastore, 1) := by decide +kernel
theorem dX12_law_167 : decode cX12_law 167 = .ok (.aload_n 0, 1) := by decide +kernel
theorem dX12_law_168 : decode cX12_law 168 = .ok (.getfield 62, 3) := by decide +kernel
theorem dX12_law_171 : decode cX12_law 171 = .ok (.iload_n 3, 1) := by decide +kernel
theorem dX12_law_172 : decode cX12_law 172 = .ok (.aload_n 0, 1) := by decide +kernel
theorem dX12_law_173 : decode cX12_law 173 = .ok (.getfield 47, 3) := by decide +kernel
theorem dX12_law_176 : decode cX12_law 176 = .ok (.iload_n 3, 1) := by decide +kernel
theorem dX12_law_177 : decode cX12_law 177 = .ok (.iaload, 1) := by decide +kernel
theorem dX12_law_178 : decode cX12_law 178 = .ok (.iastore, 1) := by decide +kernel
theorem dX12_law_179 : decode cX12_law 179 = .ok (.iinc 3 1, 3) := by decide +kernel
theorem dX12_law_182 : decode cX12_law 182 = .ok (.goto (-59), 3) := by decide +kernel
theorem dX12_law_185 : decode cX12_law 185 = .ok (.aload_n 0, 1) := by decide +kernel
theorem dX12_law_186 : decode cX12_law 186 = .ok (.getfield 216, 3) := by decide +kernel
theorem dX12_law_189 : decode cX12_law 189 = .ok (.ireturn, 1) := by decide +kernel
theorem dX12_reckon_0 : decode cX12_reckon 0 = .ok (.iload_n 0, 1) := by decide +kernel
theorem dX12_reckon_1 : decode cX12_reckon 1 = .ok (.tableswitch 85 2 8 #[43, 47, 51, 55, 59, 63, 74], 43) := by decide +kernel
theorem dX12_reckon_44 : decode cX12_reckon 44 = .ok (.iload_n 1, 1) := by decide +kernel
theorem dX12_reckon_45 : decode cX12_reckon 45 = .ok (.iload_n 2, 1) := by decide +kernel
theorem dX12_reckon_46 : decode cX12_reckon 46 = .ok (.iadd, 1) := by decide +kernel
theorem dX12_reckon_47 : decode cX12_reckon 47 = .ok (.ireturn, 1) := by decide +kernel
theorem dX12_reckon_48 : decode cX12_reckon 48 = .ok (.iload_n 1, 1) := by decide +kernel
theorem dX12_reckon_49 : decode cX12_reckon 49 = .ok (.iload_n 2, 1) := by decide +kernel
theorem dX12_reckon_50 : decode cX12_reckon 50 = .ok (.isub, 1) := by decide +kernel
theorem dX12_reckon_51 : decode cX12_reckon 51 = .ok (.ireturn, 1) := by decide +kernel
theorem dX12_reckon_52 : decode cX12_reckon 52 = .ok (.iload_n 1, 1) := by decide +kernel
theorem dX12_reckon_53 : decode cX12_reckon 53 = .ok (.iload_n 2, 1) := by decide +kernel
theorem dX12_reckon_54 : decode cX12_reckon 54 = .ok (.imul, 1) := by decide +kernel
theorem dX12_reckon_55 : decode cX12_reckon 55 = .ok (.ireturn, 1) := by decide +kernel
theorem dX12_reckon_56 : decode cX12_reckon 56 = .ok (.iload_n 1, 1) := by decide +kernel
theorem dX12_reckon_57 : decode cX12_reckon 57 = .ok (.iload_n 2, 1) := by decide +kernel
theorem dX12_reckon_58 : decode cX12_reckon 58 = .ok (.idiv, 1) := by decide +kernel
theorem dX12_reckon_59 : decode cX12_reckon 59 = .ok (.ireturn, 1) := by decide +kernel
theorem dX12_reckon_60 : decode cX12_reckon 60 = .ok (.iload_n 1, 1) := by decide +kernel
theorem dX12_reckon_61 : decode cX12_reckon 61 = .ok (.iload_n 2, 1) := by decide +kernel
theorem dX12_reckon_62 : decode cX12_reckon 62 = .ok (.irem, 1) := by decide +kernel
theorem dX12_reckon_63 : decode cX12_reckon 63 = .ok (.ireturn, 1) := by decide +kernel
theorem dX12_reckon_64 : decode cX12_reckon 64 = .ok (.iload_n 1, 1) := by decide +kernel
theorem dX12_reckon_65 : decode cX12_reckon 65 = .ok (.iload_n 2, 1) := by decide +kernel
theorem dX12_reckon_66 : decode cX12_reckon 66 = .ok (.if_icmp .ge 7, 3) := by decide +kernel
theorem dX12_reckon_69 : decode cX12_reckon 69 = .ok (.iconst 1, 1) := by decide +kernel
theorem dX12_reckon_70 : decode cX12_reckon 70 = .ok (.goto 4, 3) := by decide +kernel
theorem dX12_reckon_73 : decode cX12_reckon 73 = .ok (.iconst 0, 1) := by decide +kernel
theorem dX12_reckon_74 : decode cX12_reckon 74 = .ok (.ireturn, 1) := by decide +kernel
theorem dX12_reckon_75 : decode cX12_reckon 75 = .ok (.iload_n 1, 1) := by decide +kernel
theorem dX12_reckon_76 : decode cX12_reckon 76 = .ok (.iload_n 2, 1) := by decide +kernel
theorem dX12_reckon_77 : decode cX12_reckon 77 = .ok (.if_icmp .le 7, 3) := by decide +kernel
theorem dX12_reckon_80 : decode cX12_reckon 80 = .ok (.iconst 1, 1) := by decide +kernel
theorem dX12_reckon_81 : decode cX12_reckon 81 = .ok (.goto 4, 3) := by decide +kernel
theorem dX12_reckon_84 : decode cX12_reckon 84 = .ok (.iconst 0, 1) := by decide +kernel
theorem dX12_reckon_85 : decode cX12_reckon 85 = .ok (.ireturn, 1) := by decide +kernel
theorem dX12_reckon_86 : decode cX12_reckon 86 = .ok (.iload_n 1, 1) := by decide +kernel
theorem dX12_reckon_87 : decode cX12_reckon 87 = .ok (.iload_n 2, 1) := by decide +kernel
theorem dX12_reckon_88 : decode cX12_reckon 88 = .ok (.if_icmp .ne 7, 3) := by decide +kernel
theorem dX12_reckon_91 : decode cX12_reckon 91 = .ok (.iconst 1, 1) := by decide +kernel
theorem dX12_reckon_92 : decode cX12_reckon 92 = .ok (.goto 4, 3) := by decide +kernel
theorem dX12_reckon_95 : decode cX12_reckon 95 = .ok (.iconst 0, 1) := by decide +kernel
theorem dX12_reckon_96 : decode cX12_reckon 96 = .ok (.ireturn, 1) := by decide +kernel
theorem dX12_reckonsTo_0 : decode cX12_reckonsTo 0 = .ok (.iconst 0, 1) := by decide +kernel
theorem dX12_reckonsTo_1 : decode cX12_reckonsTo 1 = .ok (.istore_n 3, 1) := by decide +kernel
theorem dX12_reckonsTo_2 : decode cX12_reckonsTo 2 = .ok (.sipush 260, 3) := by decide +kernel
theorem dX12_reckonsTo_5 : decode cX12_reckonsTo 5 = .ok (.iload_n 1, 1) := by decide +kernel
theorem dX12_reckonsTo_6 : decode cX12_reckonsTo 6 = .ok (.sipush 260, 3) := by decide +kernel
theorem dX12_reckonsTo_9 : decode cX12_reckonsTo 9 = .ok (.idiv, 1) := by decide +kernel
theorem dX12_reckonsTo_10 : decode cX12_reckonsTo 10 = .ok (.imul, 1) := by decide +kernel
theorem dX12_reckonsTo_11 : decode cX12_reckonsTo 11 = .ok (.istore 4, 2) := by decide +kernel
theorem dX12_reckonsTo_13 : decode cX12_reckonsTo 13 = .ok (.iload_n 1, 1) := by decide +kernel
theorem dX12_reckonsTo_14 : decode cX12_reckonsTo 14 = .ok (.istore 5, 2) := by decide +kernel
theorem dX12_reckonsTo_16 : decode cX12_reckonsTo 16 = .ok (.iload 5, 2) := by decide +kernel
theorem dX12_reckonsTo_18 : decode cX12_reckonsTo 18 = .ok (.iload_n 2, 1) := by decide +kernel
theorem dX12_reckonsTo_19 : decode cX12_reckonsTo 19 = .ok (.if_icmp .ge 214, 3) := by decide +kernel
theorem dX12_reckonsTo_22 : decode cX12_reckonsTo 22 = .ok (.aload_n 0, 1) := by decide +kernel
theorem dX12_reckonsTo_23 : decode cX12_reckonsTo 23 = .ok (.getfield 50, 3) := by decide +kernel
theorem dX12_reckonsTo_26 : decode cX12_reckonsTo 26 = .ok (.iload 5, 2) := by decide +kernel
theorem dX12_reckonsTo_28 : decode cX12_reckonsTo 28 = .ok (.iaload, 1) := by decide +kernel
theorem dX12_reckonsTo_29 : decode cX12_reckonsTo 29 = .ok (.ldc 163, 2) := by decide +kernel
theorem dX12_reckonsTo_31 : decode cX12_reckonsTo 31 = .ok (.idiv, 1) := by decide +kernel
theorem dX12_reckonsTo_32 : decode cX12_reckonsTo 32 = .ok (.istore 6, 2) := by decide +kernel
theorem dX12_reckonsTo_34 : decode cX12_reckonsTo 34 = .ok (.aload_n 0, 1) := by decide +kernel
theorem dX12_reckonsTo_35 : decode cX12_reckonsTo 35 = .ok (.getfield 50, 3) := by decide +kernel
theorem dX12_reckonsTo_38 : decode cX12_reckonsTo 38 = .ok (.iload 5, 2) := by decide +kernel
theorem dX12_reckonsTo_40 : decode cX12_reckonsTo 40 = .ok (.iaload, 1) := by decide +kernel
theorem dX12_reckonsTo_41 : decode cX12_reckonsTo 41 = .ok (.ldc 163, 2) := by decide +kernel
theorem dX12_reckonsTo_43 : decode cX12_reckonsTo 43 = .ok (.irem, 1) := by decide +kernel
theorem dX12_reckonsTo_44 : decode cX12_reckonsTo 44 = .ok (.istore 7, 2) := by decide +kernel
theorem dX12_reckonsTo_46 : decode cX12_reckonsTo 46 = .ok (.iload 5, 2) := by decide +kernel
theorem dX12_reckonsTo_48 : decode cX12_reckonsTo 48 = .ok (.iconst 1, 1) := by decide +kernel
theorem dX12_reckonsTo_49 : decode cX12_reckonsTo 49 = .ok (.iadd, 1) := by decide +kernel
theorem dX12_reckonsTo_50 : decode cX12_reckonsTo 50 = .ok (.istore 5, 2) := by decide +kernel
theorem dX12_reckonsTo_52 : decode cX12_reckonsTo 52 = .ok (.iload 6, 2) := by decide +kernel
theorem dX12_reckonsTo_54 : decode cX12_reckonsTo 54 = .ok (.ifCond .eq 9, 3) := by decide +kernel
theorem dX12_reckonsTo_57 : decode cX12_reckonsTo 57 = .ok (.iload 6, 2) := by decide +kernel
theorem dX12_reckonsTo_59 : decode cX12_reckonsTo 59 = .ok (.iconst 1, 1) := by decide +kernel
theorem dX12_reckonsTo_60 : decode cX12_reckonsTo 60 = .ok (.if_icmp .ne 33, 3) := by decide +kernel
theorem dX12_reckonsTo_63 : decode cX12_reckonsTo 63 = .ok (.aload_n 0, 1) := by decide +kernel
theorem dX12_reckonsTo_64 : decode cX12_reckonsTo 64 = .ok (.getfield 65, 3) := by decide +kernel
theorem dX12_reckonsTo_67 : decode cX12_reckonsTo 67 = .ok (.iload_n 3, 1) := by decide +kernel
theorem dX12_reckonsTo_68 : decode cX12_reckonsTo 68 = .ok (.iload 6, 2) := by decide +kernel
theorem dX12_reckonsTo_70 : decode cX12_reckonsTo 70 = .ok (.ifCond .ne 8, 3) := by decide +kernel
theorem dX12_reckonsTo_73 : decode cX12_reckonsTo 73 = .ok (.iload 7, 2) := by decide +kernel
theorem dX12_reckonsTo_75 : decode cX12_reckonsTo 75 = .ok (.goto 10, 3) := by decide +kernel
theorem dX12_reckonsTo_78 : decode cX12_reckonsTo 78 = .ok (.aload_n 0, 1) := by decide +kernel
theorem dX12_reckonsTo_79 : decode cX12_reckonsTo 79 = .ok (.getfield 68, 3) := by decide +kernel
theorem dX12_reckonsTo_82 : decode cX12_reckonsTo 82 = .ok (.iload 7, 2) := by decide +kernel
theorem dX12_reckonsTo_84 : decode cX12_reckonsTo 84 = .ok (.iaload, 1) := by decide +kernel
theorem dX12_reckonsTo_85 : decode cX12_reckonsTo 85 = .ok (.iastore, 1) := by decide +kernel
theorem dX12_reckonsTo_86 : decode cX12_reckonsTo 86 = .ok (.iload_n 3, 1) := by decide +kernel
theorem dX12_reckonsTo_87 : decode cX12_reckonsTo 87 = .ok (.iconst 1, 1) := by decide +kernel
theorem dX12_reckonsTo_88 : decode cX12_reckonsTo 88 = .ok (.iadd, 1) := by decide +kernel
theorem dX12_reckonsTo_89 : decode cX12_reckonsTo 89 = .ok (.istore_n 3, 1) := by decide +kernel
theorem dX12_reckonsTo_90 : decode cX12_reckonsTo 90 = .ok (.goto 140, 3) := by decide +kernel
theorem dX12_reckonsTo_93 : decode cX12_reckonsTo 93 = .ok (.iload 6, 2) := by decide +kernel
theorem dX12_reckonsTo_95 : decode cX12_reckonsTo 95 = .ok (.bipush 10, 2) := by decide +kernel
theorem dX12_reckonsTo_97 : decode cX12_reckonsTo 97 = .ok (.if_icmp .ne 24, 3) := by decide +kernel
theorem dX12_reckonsTo_100 : decode cX12_reckonsTo 100 = .ok (.aload_n 0, 1) := by decide +kernel
theorem dX12_reckonsTo_101 : decode cX12_reckonsTo 101 = .ok (.getfield 65, 3) := by decide +kernel
theorem dX12_reckonsTo_104 : decode cX12_reckonsTo 104 = .ok (.iload_n 3, 1) := by decide +kernel
theorem dX12_reckonsTo_105 : decode cX12_reckonsTo 105 = .ok (.iconst 1, 1) := by decide +kernel
theorem dX12_reckonsTo_106 : decode cX12_reckonsTo 106 = .ok (.isub, 1) := by decide +kernel
theorem dX12_reckonsTo_107 : decode cX12_reckonsTo 107 = .ok (.iconst 1, 1) := by decide +kernel
theorem dX12_reckonsTo_108 : decode cX12_reckonsTo 108 = .ok (.aload_n 0, 1) := by decide +kernel
theorem dX12_reckonsTo_109 : decode cX12_reckonsTo 109 = .ok (.getfield 65, 3) := by decide +kernel
theorem dX12_reckonsTo_112 : decode cX12_reckonsTo 112 = .ok (.iload_n 3, 1) := by decide +kernel
theorem dX12_reckonsTo_113 : decode cX12_reckonsTo 113 = .ok (.iconst 1, 1) := by decide +kernel
theorem dX12_reckonsTo_114 : decode cX12_reckonsTo 114 = .ok (.isub, 1) := by decide +kernel
theorem dX12_reckonsTo_115 : decode cX12_reckonsTo 115 = .ok (.iaload, 1) := by decide +kernel
theorem dX12_reckonsTo_116 : decode cX12_reckonsTo 116 = .ok (.isub, 1) := by decide +kernel
theorem dX12_reckonsTo_117 : decode cX12_reckonsTo 117 = .ok (.iastore, 1) := by decide +kernel
theorem dX12_reckonsTo_118 : decode cX12_reckonsTo 118 = .ok (.goto 112, 3) := by decide +kernel
theorem dX12_reckonsTo_121 : decode cX12_reckonsTo 121 = .ok (.iload 6, 2) := by decide +kernel
theorem dX12_reckonsTo_123 : decode cX12_reckonsTo 123 = .ok (.bipush 11, 2) := by decide +kernel
theorem dX12_reckonsTo_125 : decode cX12_reckonsTo 125 = .ok (.if_icmp .eq 10, 3) := by decide +kernel
theorem dX12_reckonsTo_128 : decode cX12_reckonsTo 128 = .ok (.iload 6, 2) := by decide +kernel
theorem dX12_reckonsTo_130 : decode cX12_reckonsTo 130 = .ok (.bipush 12, 2) := by decide +kernel
theorem dX12_reckonsTo_132 : decode cX12_reckonsTo 132 = .ok (.if_icmp .ne 43, 3) := by decide +kernel
theorem dX12_reckonsTo_135 : decode cX12_reckonsTo 135 = .ok (.aload_n 0, 1) := by decide +kernel
theorem dX12_reckonsTo_136 : decode cX12_reckonsTo 136 = .ok (.getfield 65, 3) := by decide +kernel
theorem dX12_reckonsTo_139 : decode cX12_reckonsTo 139 = .ok (.iload_n 3, 1) := by decide +kernel
theorem dX12_reckonsTo_140 : decode cX12_reckonsTo 140 = .ok (.iconst 1, 1) := by decide +kernel
theorem dX12_reckonsTo_141 : decode cX12_reckonsTo 141 = .ok (.isub, 1) := by decide +kernel
theorem dX12_reckonsTo_142 : decode cX12_reckonsTo 142 = .ok (.iaload, 1) := by decide +kernel
theorem dX12_reckonsTo_143 : decode cX12_reckonsTo 143 = .ok (.iload 6, 2) := by decide +kernel
theorem dX12_reckonsTo_145 : decode cX12_reckonsTo 145 = .ok (.bipush 12, 2) := by decide +kernel
theorem dX12_reckonsTo_147 : decode cX12_reckonsTo 147 = .ok (.if_icmp .ne 7, 3) := by decide +kernel
theorem dX12_reckonsTo_150 : decode cX12_reckonsTo 150 = .ok (.iconst 1, 1) := by decide +kernel
theorem dX12_reckonsTo_151 : decode cX12_reckonsTo 151 = .ok (.goto 4, 3) := by decide +kernel
theorem dX12_reckonsTo_154 : decode cX12_reckonsTo 154 = .ok (.iconst 0, 1) := by decide +kernel
theorem dX12_reckonsTo_155 : decode cX12_reckonsTo 155 = .ok (.if_icmp .ne 13, 3) := by decide +kernel
theorem dX12_reckonsTo_158 : decode cX12_reckonsTo 158 = .ok (.iload 4, 2) := by decide +kernel
theorem dX12_reckonsTo_160 : decode cX12_reckonsTo 160 = .ok (.iload 7, 2) := by decide +kernel
theorem dX12_reckonsTo_162 : decode cX12_reckonsTo 162 = .ok (.iadd, 1) := by decide +kernel
theorem dX12_reckonsTo_163 : decode cX12_reckonsTo 163 = .ok (.istore 5, 2) := by decide +kernel
theorem dX12_reckonsTo_165 : decode cX12_reckonsTo 165 = .ok (.goto 65, 3) := by decide +kernel
theorem dX12_reckonsTo_168 : decode cX12_reckonsTo 168 = .ok (.iload_n 3, 1) := by decide +kernel
theorem dX12_reckonsTo_169 : decode cX12_reckonsTo 169 = .ok (.iconst 1, 1) := by decide +kernel
theorem dX12_reckonsTo_170 : decode cX12_reckonsTo 170 = .ok (.isub, 1) := by decide +kernel
theorem dX12_reckonsTo_171 : decode cX12_reckonsTo 171 = .ok (.istore_n 3, 1) := by decide +kernel
theorem dX12_reckonsTo_172 : decode cX12_reckonsTo 172 = .ok (.goto 58, 3) := by decide +kernel
theorem dX12_reckonsTo_175 : decode cX12_reckonsTo 175 = .ok (.iload_n 3, 1) := by decide +kernel
theorem dX12_reckonsTo_176 : decode cX12_reckonsTo 176 = .ok (.iconst 1, 1) := by decide +kernel
theorem dX12_reckonsTo_177 : decode cX12_reckonsTo 177 = .ok (.isub, 1) := by decide +kernel
theorem dX12_reckonsTo_178 : decode cX12_reckonsTo 178 = .ok (.istore_n 3, 1) := by decide +kernel
theorem dX12_reckonsTo_179 : decode cX12_reckonsTo 179 = .ok (.iload 6, 2) := by decide +kernel
theorem dX12_reckonsTo_181 : decode cX12_reckonsTo 181 = .ok (.iconst 5, 1) := by decide +kernel
theorem dX12_reckonsTo_182 : decode cX12_reckonsTo 182 = .ok (.if_icmp .eq 10, 3) := by decide +kernel
theorem dX12_reckonsTo_185 : decode cX12_reckonsTo 185 = .ok (.iload 6, 2) := by decide +kernel
theorem dX12_reckonsTo_187 : decode cX12_reckonsTo 187 = .ok (.bipush 6, 2) := by decide +kernel
theorem dX12_reckonsTo_189 : decode cX12_reckonsTo 189 = .ok (.if_icmp .ne 14, 3) := by decide +kernel
theorem dX12_reckonsTo_192 : decode cX12_reckonsTo 192 = .ok (.aload_n 0, 1) := by decide +kernel
theorem dX12_reckonsTo_193 : decode cX12_reckonsTo 193 = .ok (.getfield 65, 3) := by decide +kernel
theorem dX12_reckonsTo_196 : decode cX12_reckonsTo 196 = .ok (.iload_n 3, 1) := by decide +kernel
theorem dX12_reckonsTo_197 : decode cX12_reckonsTo 197 = .ok (.iaload, 1) := by decide +kernel
theorem dX12_reckonsTo_198 : decode cX12_reckonsTo 198 = .ok (.ifCond .ne 5, 3) := by decide +kernel
theorem dX12_reckonsTo_201 : decode cX12_reckonsTo 201 = .ok (.iconst 0, 1) := by decide +kernel
theorem dX12_reckonsTo_202 : decode cX12_reckonsTo 202 = .ok (.ireturn, 1) := by decide +kernel
theorem dX12_reckonsTo_203 : decode cX12_reckonsTo 203 = .ok (.aload_n 0, 1) := by decide +kernel
theorem dX12_reckonsTo_204 : decode cX12_reckonsTo 204 = .ok (.getfield 65, 3) := by decide +kernel
theorem dX12_reckonsTo_207 : decode cX12_reckonsTo 207 = .ok (.iload_n 3, 1) := by decide +kernel
theorem dX12_reckonsTo_208 : decode cX12_reckonsTo 208 = .ok (.iconst 1, 1) := by decide +kernel
theorem dX12_reckonsTo_209 : decode cX12_reckonsTo 209 = .ok (.isub, 1) := by decide +kernel
theorem dX12_reckonsTo_210 : decode cX12_reckonsTo 210 = .ok (.iload 6, 2) := by decide +kernel
theorem dX12_reckonsTo_212 : decode cX12_reckonsTo 212 = .ok (.aload_n 0, 1) := by decide +kernel
theorem dX12_reckonsTo_213 : decode cX12_reckonsTo 213 = .ok (.getfield 65, 3) := by decide +kernel
theorem dX12_reckonsTo_216 : decode cX12_reckonsTo 216 = .ok (.iload_n 3, 1) := by decide +kernel
theorem dX12_reckonsTo_217 : decode cX12_reckonsTo 217 = .ok (.iconst 1, 1) := by decide +kernel
theorem dX12_reckonsTo_218 : decode cX12_reckonsTo 218 = .ok (.isub, 1) := by decide +kernel
theorem dX12_reckonsTo_219 : decode cX12_reckonsTo 219 = .ok (.iaload, 1) := by decide +kernel
theorem dX12_reckonsTo_220 : decode cX12_reckonsTo 220 = .ok (.aload_n 0, 1) := by decide +kernel
theorem dX12_reckonsTo_221 : decode cX12_reckonsTo 221 = .ok (.getfield 65, 3) := by decide +kernel
theorem dX12_reckonsTo_224 : decode cX12_reckonsTo 224 = .ok (.iload_n 3, 1) := by decide +kernel
theorem dX12_reckonsTo_225 : decode cX12_reckonsTo 225 = .ok (.iaload, 1) := by decide +kernel
theorem dX12_reckonsTo_226 : decode cX12_reckonsTo 226 = .ok (.invokestatic 234, 3) := by decide +kernel
theorem dX12_reckonsTo_229 : decode cX12_reckonsTo 229 = .ok (.iastore, 1) := by decide +kernel
theorem dX12_reckonsTo_230 : decode cX12_reckonsTo 230 = .ok (.goto (-214), 3) := by decide +kernel
theorem dX12_reckonsTo_233 : decode cX12_reckonsTo 233 = .ok (.aload_n 0, 1) := by decide +kernel
theorem dX12_reckonsTo_234 : decode cX12_reckonsTo 234 = .ok (.getfield 65, 3) := by decide +kernel
theorem dX12_reckonsTo_237 : decode cX12_reckonsTo 237 = .ok (.iconst 0, 1) := by decide +kernel
theorem dX12_reckonsTo_238 : decode cX12_reckonsTo 238 = .ok (.iaload, 1) := by decide +kernel
theorem dX12_reckonsTo_239 : decode cX12_reckonsTo 239 = .ok (.ireturn, 1) := by decide +kernel
theorem dX12_byLaw_0 : decode cX12_byLaw 0 = .ok (.iconst 0, 1) := by decide +kernel
theorem dX12_byLaw_1 : decode cX12_byLaw 1 = .ok (.istore_n 3, 1) := by decide +kernel
theorem dX12_byLaw_2 : decode cX12_byLaw 2 = .ok (.iload_n 3, 1) := by decide +kernel
theorem dX12_byLaw_3 : decode cX12_byLaw 3 = .ok (.aload_n 0, 1) := by decide +kernel
theorem dX12_byLaw_4 : decode cX12_byLaw 4 = .ok (.getfield 231, 3) := by decide +kernel
theorem dX12_byLaw_7 : decode cX12_byLaw 7 = .ok (.if_icmp .ge 82, 3) := by decide +kernel
theorem dX12_byLaw_10 : decode cX12_byLaw 10 = .ok (.aload_n 0, 1) := by decide +kernel
theorem dX12_byLaw_11 : decode cX12_byLaw 11 = .ok (.getfield 53, 3) := by decide +kernel
theorem dX12_byLaw_14 : decode cX12_byLaw 14 = .ok (.iload_n 3, 1) := by decide +kernel
theorem dX12_byLaw_15 : decode cX12_byLaw 15 = .ok (.iaload, 1) := by decide +kernel
theorem dX12_byLaw_16 : decode cX12_byLaw 16 = .ok (.iload_n 1, 1) := by decide +kernel
theorem dX12_byLaw_17 : decode cX12_byLaw 17 = .ok (.if_icmp .ne 66, 3) := by decide +kernel
theorem dX12_byLaw_20 : decode cX12_byLaw 20 = .ok (.aload_n 0, 1) := by decide +kernel
theorem dX12_byLaw_21 : decode cX12_byLaw 21 = .ok (.aload_n 0, 1) := by decide +kernel
theorem dX12_byLaw_22 : decode cX12_byLaw 22 = .ok (.getfield 59, 3) := by decide +kernel
theorem dX12_byLaw_25 : decode cX12_byLaw 25 = .ok (.iload_n 3, 1) := by decide +kernel
theorem dX12_byLaw_26 : decode cX12_byLaw 26 = .ok (.iaload, 1) := by decide +kernel
theorem dX12_byLaw_27 : decode cX12_byLaw 27 = .ok (.aload_n 0, 1) := by decide +kernel
theorem dX12_byLaw_28 : decode cX12_byLaw 28 = .ok (.getfield 62, 3) := by decide +kernel
theorem dX12_byLaw_31 : decode cX12_byLaw 31 = .ok (.iload_n 3, 1) := by decide +kernel
theorem dX12_byLaw_32 : decode cX12_byLaw 32 = .ok (.iaload, 1) := by decide +kernel
theorem dX12_byLaw_33 : decode cX12_byLaw 33 = .ok (.invokevirtual 238, 3) := by decide +kernel
theorem dX12_byLaw_36 : decode cX12_byLaw 36 = .ok (.iconst 1, 1) := by decide +kernel
theorem dX12_byLaw_37 : decode cX12_byLaw 37 = .ok (.if_icmp .eq 6, 3) := by decide +kernel
theorem dX12_byLaw_40 : decode cX12_byLaw 40 = .ok (.goto 43, 3) := by decide +kernel
theorem dX12_byLaw_43 : decode cX12_byLaw 43 = .ok (.aload_n 0, 1) := by decide +kernel
theorem dX12_byLaw_44 : decode cX12_byLaw 44 = .ok (.aload_n 0, 1) := by decide +kernel
theorem dX12_byLaw_45 : decode cX12_byLaw 45 = .ok (.getfield 56, 3) := by decide +kernel
theorem dX12_byLaw_48 : decode cX12_byLaw 48 = .ok (.iload_n 3, 1) := by decide +kernel
theorem dX12_byLaw_49 : decode cX12_byLaw 49 = .ok (.iaload, 1) := by decide +kernel
theorem dX12_byLaw_50 : decode cX12_byLaw 50 = .ok (.aload_n 0, 1) := by decide +kernel
theorem dX12_byLaw_51 : decode cX12_byLaw 51 = .ok (.getfield 59, 3) := by decide +kernel
theorem dX12_byLaw_54 : decode cX12_byLaw 54 = .ok (.iload_n 3, 1) := by decide +kernel
theorem dX12_byLaw_55 : decode cX12_byLaw 55 = .ok (.iaload, 1) := by decide +kernel
theorem dX12_byLaw_56 : decode cX12_byLaw 56 = .ok (.invokevirtual 238, 3) := by decide +kernel
theorem dX12_byLaw_59 : decode cX12_byLaw 59 = .ok (.istore 4, 2) := by decide +kernel
theorem dX12_byLaw_61 : decode cX12_byLaw 61 = .ok (.iload 4, 2) := by decide +kernel
theorem dX12_byLaw_63 : decode cX12_byLaw 63 = .ok (.ifCond .ge 7, 3) := by decide +kernel
theorem dX12_byLaw_66 : decode cX12_byLaw 66 = .ok (.iconst 0, 1) := by decide +kernel
theorem dX12_byLaw_67 : decode cX12_byLaw 67 = .ok (.goto 15, 3) := by decide +kernel
theorem dX12_byLaw_70 : decode cX12_byLaw 70 = .ok (.iload 4, 2) := by decide +kernel
theorem dX12_byLaw_72 : decode cX12_byLaw 72 = .ok (.iload_n 2, 1) := by decide +kernel
theorem dX12_byLaw_73 : decode cX12_byLaw 73 = .ok (.if_icmp .le 7, 3) := by decide +kernel
theorem dX12_byLaw_76 : decode cX12_byLaw 76 = .ok (.iload_n 2, 1) := by decide +kernel
theorem dX12_byLaw_77 : decode cX12_byLaw 77 = .ok (.goto 5, 3) := by decide +kernel
theorem dX12_byLaw_80 : decode cX12_byLaw 80 = .ok (.iload 4, 2) := by decide +kernel
theorem dX12_byLaw_82 : decode cX12_byLaw 82 = .ok (.ireturn, 1) := by decide +kernel
theorem dX12_byLaw_83 : decode cX12_byLaw 83 = .ok (.iinc 3 1, 3) := by decide +kernel
theorem dX12_byLaw_86 : decode cX12_byLaw 86 = .ok (.goto (-84), 3) := by decide +kernel
theorem dX12_byLaw_89 : decode cX12_byLaw 89 = .ok (.iconst 0, 1) := by decide +kernel
theorem dX12_byLaw_90 : decode cX12_byLaw 90 = .ok (.ireturn, 1) := by decide +kernel
theorem dX12_holdsAny_0 : decode cX12_holdsAny 0 = .ok (.iconst 0, 1) := by decide +kernel
theorem dX12_holdsAny_1 : decode cX12_holdsAny 1 = .ok (.istore_n 2, 1) := by decide +kernel
theorem dX12_holdsAny_2 : decode cX12_holdsAny 2 = .ok (.iload_n 2, 1) := by decide +kernel
theorem dX12_holdsAny_3 : decode cX12_holdsAny 3 = .ok (.aload_n 0, 1) := by decide +kernel
theorem dX12_holdsAny_4 : decode cX12_holdsAny 4 = .ok (.getfield 231, 3) := by decide +kernel
theorem dX12_holdsAny_7 : decode cX12_holdsAny 7 = .ok (.if_icmp .ge 41, 3) := by decide +kernel
theorem dX12_holdsAny_10 : decode cX12_holdsAny 10 = .ok (.aload_n 0, 1) := by decide +kernel
theorem dX12_holdsAny_11 : decode cX12_holdsAny 11 = .ok (.getfield 53, 3) := by decide +kernel
theorem dX12_holdsAny_14 : decode cX12_holdsAny 14 = .ok (.iload_n 2, 1) := by decide +kernel
theorem dX12_holdsAny_15 : decode cX12_holdsAny 15 = .ok (.iaload, 1) := by decide +kernel
theorem dX12_holdsAny_16 : decode cX12_holdsAny 16 = .ok (.iload_n 1, 1) := by decide +kernel
theorem dX12_holdsAny_17 : decode cX12_holdsAny 17 = .ok (.if_icmp .ne 25, 3) := by decide +kernel
theorem dX12_holdsAny_20 : decode cX12_holdsAny 20 = .ok (.aload_n 0, 1) := by decide +kernel
theorem dX12_holdsAny_21 : decode cX12_holdsAny 21 = .ok (.aload_n 0, 1) := by decide +kernel
theorem dX12_holdsAny_22 : decode cX12_holdsAny 22 = .ok (.getfield 59, 3) := by decide +kernel
theorem dX12_holdsAny_25 : decode cX12_holdsAny 25 = .ok (.iload_n 2, 1) := by decide +kernel
theorem dX12_holdsAny_26 : decode cX12_holdsAny 26 = .ok (.iaload, 1) := by decide +kernel
theorem dX12_holdsAny_27 : decode cX12_holdsAny 27 = .ok (.aload_n 0, 1) := by decide +kernel
theorem dX12_holdsAny_28 : decode cX12_holdsAny 28 = .ok (.getfield 62, 3) := by decide +kernel
theorem dX12_holdsAny_31 : decode cX12_holdsAny 31 = .ok (.iload_n 2, 1) := by decide +kernel
theorem dX12_holdsAny_32 : decode cX12_holdsAny 32 = .ok (.iaload, 1) := by decide +kernel
theorem dX12_holdsAny_33 : decode cX12_holdsAny 33 = .ok (.invokevirtual 238, 3) := by decide +kernel
theorem dX12_holdsAny_36 : decode cX12_holdsAny 36 = .ok (.iconst 1, 1) := by decide +kernel
theorem dX12_holdsAny_37 : decode cX12_holdsAny 37 = .ok (.if_icmp .ne 5, 3) := by decide +kernel
theorem dX12_holdsAny_40 : decode cX12_holdsAny 40 = .ok (.iconst 1, 1) := by decide +kernel
theorem dX12_holdsAny_41 : decode cX12_holdsAny 41 = .ok (.ireturn, 1) := by decide +kernel
theorem dX12_holdsAny_42 : decode cX12_holdsAny 42 = .ok (.iinc 2 1, 3) := by decide +kernel
theorem dX12_holdsAny_45 : decode cX12_holdsAny 45 = .ok (.goto (-43), 3) := by decide +kernel
theorem dX12_holdsAny_48 : decode cX12_holdsAny 48 = .ok (.iconst 0, 1) := by decide +kernel
theorem dX12_holdsAny_49 : decode cX12_holdsAny 49 = .ok (.ireturn, 1) := by decide +kernel
theorem dX12_readsTimes_0 : decode cX12_readsTimes 0 = .ok (.aload_n 0, 1) := by decide +kernel
theorem dX12_readsTimes_1 : decode cX12_readsTimes 1 = .ok (.aload_n 0, 1) := by decide +kernel
theorem dX12_readsTimes_2 : decode cX12_readsTimes 2 = .ok (.getfield 136, 3) := by decide +kernel
theorem dX12_readsTimes_5 : decode cX12_readsTimes 5 = .ok (.putfield 242, 3) := by decide +kernel
theorem dX12_readsTimes_8 : decode cX12_readsTimes 8 = .ok (.aload_n 0, 1) := by decide +kernel
theorem dX12_readsTimes_9 : decode cX12_readsTimes 9 = .ok (.iconst 1, 1) := by decide +kernel
theorem dX12_readsTimes_10 : decode cX12_readsTimes 10 = .ok (.putfield 245, 3) := by decide +kernel
theorem dX12_readsTimes_13 : decode cX12_readsTimes 13 = .ok (.aload_n 0, 1) := by decide +kernel
theorem dX12_readsTimes_14 : decode cX12_readsTimes 14 = .ok (.getfield 248, 3) := by decide +kernel
theorem dX12_readsTimes_17 : decode cX12_readsTimes 17 = .ok (.ifCond .eq 48, 3) := by decide +kernel
theorem dX12_readsTimes_20 : decode cX12_readsTimes 20 = .ok (.aload_n 0, 1) := by decide +kernel
theorem dX12_readsTimes_21 : decode cX12_readsTimes 21 = .ok (.invokevirtual 142, 3) := by decide +kernel
theorem dX12_readsTimes_24 : decode cX12_readsTimes 24 = .ok (.bipush 42, 2) := by decide +kernel
theorem dX12_readsTimes_26 : decode cX12_readsTimes 26 = .ok (.if_icmp .eq 5, 3) := by decide +kernel
theorem dX12_readsTimes_29 : decode cX12_readsTimes 29 = .ok (.iconst 1, 1) := by decide +kernel
theorem dX12_readsTimes_30 : decode cX12_readsTimes 30 = .ok (.ireturn, 1) := by decide +kernel
theorem dX12_readsTimes_31 : decode cX12_readsTimes 31 = .ok (.aload_n 0, 1) := by decide +kernel
theorem dX12_readsTimes_32 : decode cX12_readsTimes 32 = .ok (.aload_n 0, 1) := by decide +kernel
theorem dX12_readsTimes_33 : decode cX12_readsTimes 33 = .ok (.getfield 136, 3) := by decide +kernel
theorem dX12_readsTimes_36 : decode cX12_readsTimes 36 = .ok (.iconst 1, 1) := by decide +kernel
theorem dX12_readsTimes_37 : decode cX12_readsTimes 37 = .ok (.iadd, 1) := by decide +kernel
theorem dX12_readsTimes_38 : decode cX12_readsTimes 38 = .ok (.putfield 136, 3) := by decide +kernel
theorem dX12_readsTimes_41 : decode cX12_readsTimes 41 = .ok (.aload_n 0, 1) := by decide +kernel
