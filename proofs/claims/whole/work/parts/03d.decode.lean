theorem dX12_readsTimes_42 : decode cX12_readsTimes 42 = .ok (.invokevirtual 142, 3) := by decide +kernel
theorem dX12_readsTimes_45 : decode cX12_readsTimes 45 = .ok (.bipush 50, 2) := by decide +kernel
theorem dX12_readsTimes_47 : decode cX12_readsTimes 47 = .ok (.bipush 57, 2) := by decide +kernel
theorem dX12_readsTimes_49 : decode cX12_readsTimes 49 = .ok (.invokestatic 124, 3) := by decide +kernel
theorem dX12_readsTimes_52 : decode cX12_readsTimes 52 = .ok (.ifCond .ne 29, 3) := by decide +kernel
theorem dX12_readsTimes_55 : decode cX12_readsTimes 55 = .ok (.aload_n 0, 1) := by decide +kernel
theorem dX12_readsTimes_56 : decode cX12_readsTimes 56 = .ok (.iconst 1, 1) := by decide +kernel
theorem dX12_readsTimes_57 : decode cX12_readsTimes 57 = .ok (.aload_n 0, 1) := by decide +kernel
theorem dX12_readsTimes_58 : decode cX12_readsTimes 58 = .ok (.getfield 136, 3) := by decide +kernel
theorem dX12_readsTimes_61 : decode cX12_readsTimes 61 = .ok (.invokevirtual 149, 3) := by decide +kernel
theorem dX12_readsTimes_64 : decode cX12_readsTimes 64 = .ok (.ireturn, 1) := by decide +kernel
theorem dX12_readsTimes_65 : decode cX12_readsTimes 65 = .ok (.aload_n 0, 1) := by decide +kernel
theorem dX12_readsTimes_66 : decode cX12_readsTimes 66 = .ok (.invokevirtual 142, 3) := by decide +kernel
theorem dX12_readsTimes_69 : decode cX12_readsTimes 69 = .ok (.bipush 50, 2) := by decide +kernel
theorem dX12_readsTimes_71 : decode cX12_readsTimes 71 = .ok (.bipush 57, 2) := by decide +kernel
theorem dX12_readsTimes_73 : decode cX12_readsTimes 73 = .ok (.invokestatic 124, 3) := by decide +kernel
theorem dX12_readsTimes_76 : decode cX12_readsTimes 76 = .ok (.ifCond .ne 5, 3) := by decide +kernel
theorem dX12_readsTimes_79 : decode cX12_readsTimes 79 = .ok (.iconst 1, 1) := by decide +kernel
theorem dX12_readsTimes_80 : decode cX12_readsTimes 80 = .ok (.ireturn, 1) := by decide +kernel
theorem dX12_readsTimes_81 : decode cX12_readsTimes 81 = .ok (.aload_n 0, 1) := by decide +kernel
theorem dX12_readsTimes_82 : decode cX12_readsTimes 82 = .ok (.aload_n 0, 1) := by decide +kernel
theorem dX12_readsTimes_83 : decode cX12_readsTimes 83 = .ok (.invokevirtual 142, 3) := by decide +kernel
theorem dX12_readsTimes_86 : decode cX12_readsTimes 86 = .ok (.bipush 48, 2) := by decide +kernel
theorem dX12_readsTimes_88 : decode cX12_readsTimes 88 = .ok (.isub, 1) := by decide +kernel
theorem dX12_readsTimes_89 : decode cX12_readsTimes 89 = .ok (.putfield 245, 3) := by decide +kernel
theorem dX12_readsTimes_92 : decode cX12_readsTimes 92 = .ok (.aload_n 0, 1) := by decide +kernel
theorem dX12_readsTimes_93 : decode cX12_readsTimes 93 = .ok (.aload_n 0, 1) := by decide +kernel
theorem dX12_readsTimes_94 : decode cX12_readsTimes 94 = .ok (.getfield 136, 3) := by decide +kernel
theorem dX12_readsTimes_97 : decode cX12_readsTimes 97 = .ok (.iconst 1, 1) := by decide +kernel
theorem dX12_readsTimes_98 : decode cX12_readsTimes 98 = .ok (.iadd, 1) := by decide +kernel
theorem dX12_readsTimes_99 : decode cX12_readsTimes 99 = .ok (.putfield 136, 3) := by decide +kernel
theorem dX12_readsTimes_102 : decode cX12_readsTimes 102 = .ok (.iconst 1, 1) := by decide +kernel
theorem dX12_readsTimes_103 : decode cX12_readsTimes 103 = .ok (.ireturn, 1) := by decide +kernel
theorem dX12_repeats_0 : decode cX12_repeats 0 = .ok (.aload_n 0, 1) := by decide +kernel
theorem dX12_repeats_1 : decode cX12_repeats 1 = .ok (.getfield 252, 3) := by decide +kernel
theorem dX12_repeats_4 : decode cX12_repeats 4 = .ok (.iload_n 1, 1) := by decide +kernel
theorem dX12_repeats_5 : decode cX12_repeats 5 = .ok (.isub, 1) := by decide +kernel
theorem dX12_repeats_6 : decode cX12_repeats 6 = .ok (.istore 4, 2) := by decide +kernel
theorem dX12_repeats_8 : decode cX12_repeats 8 = .ok (.iload_n 1, 1) := by decide +kernel
theorem dX12_repeats_9 : decode cX12_repeats 9 = .ok (.iload 4, 2) := by decide +kernel
theorem dX12_repeats_11 : decode cX12_repeats 11 = .ok (.iload_n 2, 1) := by decide +kernel
theorem dX12_repeats_12 : decode cX12_repeats 12 = .ok (.imul, 1) := by decide +kernel
theorem dX12_repeats_13 : decode cX12_repeats 13 = .ok (.iadd, 1) := by decide +kernel
theorem dX12_repeats_14 : decode cX12_repeats 14 = .ok (.aload_n 0, 1) := by decide +kernel
theorem dX12_repeats_15 : decode cX12_repeats 15 = .ok (.getfield 255, 3) := by decide +kernel
theorem dX12_repeats_18 : decode cX12_repeats 18 = .ok (.if_icmp .le 11, 3) := by decide +kernel
theorem dX12_repeats_21 : decode cX12_repeats 21 = .ok (.aload_n 0, 1) := by decide +kernel
theorem dX12_repeats_22 : decode cX12_repeats 22 = .ok (.bipush 6, 2) := by decide +kernel
theorem dX12_repeats_24 : decode cX12_repeats 24 = .ok (.iload_n 3, 1) := by decide +kernel
theorem dX12_repeats_25 : decode cX12_repeats 25 = .ok (.invokevirtual 149, 3) := by decide +kernel
theorem dX12_repeats_28 : decode cX12_repeats 28 = .ok (.ireturn, 1) := by decide +kernel
theorem dX12_repeats_29 : decode cX12_repeats 29 = .ok (.iload 4, 2) := by decide +kernel
theorem dX12_repeats_31 : decode cX12_repeats 31 = .ok (.istore 5, 2) := by decide +kernel
theorem dX12_repeats_33 : decode cX12_repeats 33 = .ok (.iload 5, 2) := by decide +kernel
theorem dX12_repeats_35 : decode cX12_repeats 35 = .ok (.iload 4, 2) := by decide +kernel
theorem dX12_repeats_37 : decode cX12_repeats 37 = .ok (.iload_n 2, 1) := by decide +kernel
theorem dX12_repeats_38 : decode cX12_repeats 38 = .ok (.imul, 1) := by decide +kernel
theorem dX12_repeats_39 : decode cX12_repeats 39 = .ok (.if_icmp .ge 30, 3) := by decide +kernel
theorem dX12_repeats_42 : decode cX12_repeats 42 = .ok (.aload_n 0, 1) := by decide +kernel
theorem dX12_repeats_43 : decode cX12_repeats 43 = .ok (.getfield 71, 3) := by decide +kernel
theorem dX12_repeats_46 : decode cX12_repeats 46 = .ok (.iload_n 1, 1) := by decide +kernel
theorem dX12_repeats_47 : decode cX12_repeats 47 = .ok (.iload 5, 2) := by decide +kernel
theorem dX12_repeats_49 : decode cX12_repeats 49 = .ok (.iadd, 1) := by decide +kernel
theorem dX12_repeats_50 : decode cX12_repeats 50 = .ok (.aload_n 0, 1) := by decide +kernel
theorem dX12_repeats_51 : decode cX12_repeats 51 = .ok (.getfield 71, 3) := by decide +kernel
theorem dX12_repeats_54 : decode cX12_repeats 54 = .ok (.iload_n 1, 1) := by decide +kernel
theorem dX12_repeats_55 : decode cX12_repeats 55 = .ok (.iload 5, 2) := by decide +kernel
theorem dX12_repeats_57 : decode cX12_repeats 57 = .ok (.iadd, 1) := by decide +kernel
theorem dX12_repeats_58 : decode cX12_repeats 58 = .ok (.iload 4, 2) := by decide +kernel
theorem dX12_repeats_60 : decode cX12_repeats 60 = .ok (.isub, 1) := by decide +kernel
theorem dX12_repeats_61 : decode cX12_repeats 61 = .ok (.iaload, 1) := by decide +kernel
theorem dX12_repeats_62 : decode cX12_repeats 62 = .ok (.iastore, 1) := by decide +kernel
theorem dX12_repeats_63 : decode cX12_repeats 63 = .ok (.iinc 5 1, 3) := by decide +kernel
theorem dX12_repeats_66 : decode cX12_repeats 66 = .ok (.goto (-33), 3) := by decide +kernel
theorem dX12_repeats_69 : decode cX12_repeats 69 = .ok (.aload_n 0, 1) := by decide +kernel
theorem dX12_repeats_70 : decode cX12_repeats 70 = .ok (.iload_n 1, 1) := by decide +kernel
theorem dX12_repeats_71 : decode cX12_repeats 71 = .ok (.iload 4, 2) := by decide +kernel
theorem dX12_repeats_73 : decode cX12_repeats 73 = .ok (.iload_n 2, 1) := by decide +kernel
theorem dX12_repeats_74 : decode cX12_repeats 74 = .ok (.imul, 1) := by decide +kernel
theorem dX12_repeats_75 : decode cX12_repeats 75 = .ok (.iadd, 1) := by decide +kernel
theorem dX12_repeats_76 : decode cX12_repeats 76 = .ok (.putfield 252, 3) := by decide +kernel
theorem dX12_repeats_79 : decode cX12_repeats 79 = .ok (.iconst 1, 1) := by decide +kernel
theorem dX12_repeats_80 : decode cX12_repeats 80 = .ok (.ireturn, 1) := by decide +kernel
theorem dX12_readsLayer_0 : decode cX12_readsLayer 0 = .ok (.iconst 0, 1) := by decide +kernel
theorem dX12_readsLayer_1 : decode cX12_readsLayer 1 = .ok (.istore_n 1, 1) := by decide +kernel
theorem dX12_readsLayer_2 : decode cX12_readsLayer 2 = .ok (.iconst 0, 1) := by decide +kernel
theorem dX12_readsLayer_3 : decode cX12_readsLayer 3 = .ok (.istore_n 2, 1) := by decide +kernel
theorem dX12_readsLayer_4 : decode cX12_readsLayer 4 = .ok (.iload_n 2, 1) := by decide +kernel
theorem dX12_readsLayer_5 : decode cX12_readsLayer 5 = .ok (.iconst 2, 1) := by decide +kernel
theorem dX12_readsLayer_6 : decode cX12_readsLayer 6 = .ok (.if_icmp .ge 49, 3) := by decide +kernel
theorem dX12_readsLayer_9 : decode cX12_readsLayer 9 = .ok (.aload_n 0, 1) := by decide +kernel
theorem dX12_readsLayer_10 : decode cX12_readsLayer 10 = .ok (.invokevirtual 156, 3) := by decide +kernel
theorem dX12_readsLayer_13 : decode cX12_readsLayer 13 = .ok (.ifCond .ne 13, 3) := by decide +kernel
theorem dX12_readsLayer_16 : decode cX12_readsLayer 16 = .ok (.aload_n 0, 1) := by decide +kernel
theorem dX12_readsLayer_17 : decode cX12_readsLayer 17 = .ok (.iconst 1, 1) := by decide +kernel
theorem dX12_readsLayer_18 : decode cX12_readsLayer 18 = .ok (.aload_n 0, 1) := by decide +kernel
theorem dX12_readsLayer_19 : decode cX12_readsLayer 19 = .ok (.getfield 136, 3) := by decide +kernel
theorem dX12_readsLayer_22 : decode cX12_readsLayer 22 = .ok (.invokevirtual 149, 3) := by decide +kernel
theorem dX12_readsLayer_25 : decode cX12_readsLayer 25 = .ok (.ireturn, 1) := by decide +kernel
theorem dX12_readsLayer_26 : decode cX12_readsLayer 26 = .ok (.bipush 10, 2) := by decide +kernel
theorem dX12_readsLayer_28 : decode cX12_readsLayer 28 = .ok (.iload_n 1, 1) := by decide +kernel
theorem dX12_readsLayer_29 : decode cX12_readsLayer 29 = .ok (.imul, 1) := by decide +kernel
theorem dX12_readsLayer_30 : decode cX12_readsLayer 30 = .ok (.aload_n 0, 1) := by decide +kernel
theorem dX12_readsLayer_31 : decode cX12_readsLayer 31 = .ok (.invokevirtual 142, 3) := by decide +kernel
theorem dX12_readsLayer_34 : decode cX12_readsLayer 34 = .ok (.iadd, 1) := by decide +kernel
theorem dX12_readsLayer_35 : decode cX12_readsLayer 35 = .ok (.bipush 48, 2) := by decide +kernel
theorem dX12_readsLayer_37 : decode cX12_readsLayer 37 = .ok (.isub, 1) := by decide +kernel
theorem dX12_readsLayer_38 : decode cX12_readsLayer 38 = .ok (.istore_n 1, 1) := by decide +kernel
theorem dX12_readsLayer_39 : decode cX12_readsLayer 39 = .ok (.aload_n 0, 1) := by decide +kernel
theorem dX12_readsLayer_40 : decode cX12_readsLayer 40 = .ok (.aload_n 0, 1) := by decide +kernel
theorem dX12_readsLayer_41 : decode cX12_readsLayer 41 = .ok (.getfield 136, 3) := by decide +kernel
theorem dX12_readsLayer_44 : decode cX12_readsLayer 44 = .ok (.iconst 1, 1) := by decide +kernel
theorem dX12_readsLayer_45 : decode cX12_readsLayer 45 = .ok (.iadd, 1) := by decide +kernel
theorem dX12_readsLayer_46 : decode cX12_readsLayer 46 = .ok (.putfield 136, 3) := by decide +kernel
theorem dX12_readsLayer_49 : decode cX12_readsLayer 49 = .ok (.iinc 2 1, 3) := by decide +kernel
theorem dX12_readsLayer_52 : decode cX12_readsLayer 52 = .ok (.goto (-48), 3) := by decide +kernel
theorem dX12_readsLayer_55 : decode cX12_readsLayer 55 = .ok (.aload_n 0, 1) := by decide +kernel
theorem dX12_readsLayer_56 : decode cX12_readsLayer 56 = .ok (.invokevirtual 142, 3) := by decide +kernel
theorem dX12_readsLayer_59 : decode cX12_readsLayer 59 = .ok (.bipush 97, 2) := by decide +kernel
theorem dX12_readsLayer_61 : decode cX12_readsLayer 61 = .ok (.bipush 112, 2) := by decide +kernel
theorem dX12_readsLayer_63 : decode cX12_readsLayer 63 = .ok (.invokestatic 124, 3) := by decide +kernel
theorem dX12_readsLayer_66 : decode cX12_readsLayer 66 = .ok (.ifCond .ne 13, 3) := by decide +kernel
theorem dX12_readsLayer_69 : decode cX12_readsLayer 69 = .ok (.aload_n 0, 1) := by decide +kernel
theorem dX12_readsLayer_70 : decode cX12_readsLayer 70 = .ok (.iconst 1, 1) := by decide +kernel
theorem dX12_readsLayer_71 : decode cX12_readsLayer 71 = .ok (.aload_n 0, 1) := by decide +kernel
theorem dX12_readsLayer_72 : decode cX12_readsLayer 72 = .ok (.getfield 136, 3) := by decide +kernel
theorem dX12_readsLayer_75 : decode cX12_readsLayer 75 = .ok (.invokevirtual 149, 3) := by decide +kernel
theorem dX12_readsLayer_78 : decode cX12_readsLayer 78 = .ok (.ireturn, 1) := by decide +kernel
theorem dX12_readsLayer_79 : decode cX12_readsLayer 79 = .ok (.aload_n 0, 1) := by decide +kernel
theorem dX12_readsLayer_80 : decode cX12_readsLayer 80 = .ok (.bipush 16, 2) := by decide +kernel
theorem dX12_readsLayer_82 : decode cX12_readsLayer 82 = .ok (.iload_n 1, 1) := by decide +kernel
theorem dX12_readsLayer_83 : decode cX12_readsLayer 83 = .ok (.imul, 1) := by decide +kernel
theorem dX12_readsLayer_84 : decode cX12_readsLayer 84 = .ok (.aload_n 0, 1) := by decide +kernel
theorem dX12_readsLayer_85 : decode cX12_readsLayer 85 = .ok (.invokevirtual 142, 3) := by decide +kernel
theorem dX12_readsLayer_88 : decode cX12_readsLayer 88 = .ok (.iadd, 1) := by decide +kernel
theorem dX12_readsLayer_89 : decode cX12_readsLayer 89 = .ok (.bipush 97, 2) := by decide +kernel
theorem dX12_readsLayer_91 : decode cX12_readsLayer 91 = .ok (.isub, 1) := by decide +kernel
theorem dX12_readsLayer_92 : decode cX12_readsLayer 92 = .ok (.putfield 153, 3) := by decide +kernel
theorem dX12_readsLayer_95 : decode cX12_readsLayer 95 = .ok (.aload_n 0, 1) := by decide +kernel
theorem dX12_readsLayer_96 : decode cX12_readsLayer 96 = .ok (.aload_n 0, 1) := by decide +kernel
theorem dX12_readsLayer_97 : decode cX12_readsLayer 97 = .ok (.getfield 136, 3) := by decide +kernel
theorem dX12_readsLayer_100 : decode cX12_readsLayer 100 = .ok (.iconst 1, 1) := by decide +kernel
theorem dX12_readsLayer_101 : decode cX12_readsLayer 101 = .ok (.iadd, 1) := by decide +kernel
theorem dX12_readsLayer_102 : decode cX12_readsLayer 102 = .ok (.putfield 136, 3) := by decide +kernel
theorem dX12_readsLayer_105 : decode cX12_readsLayer 105 = .ok (.iconst 1, 1) := by decide +kernel
theorem dX12_readsLayer_106 : decode cX12_readsLayer 106 = .ok (.ireturn, 1) := by decide +kernel
theorem dX12_readsDeed_0 : decode cX12_readsDeed 0 = .ok (.aload_n 0, 1) := by decide +kernel
theorem dX12_readsDeed_1 : decode cX12_readsDeed 1 = .ok (.invokevirtual 142, 3) := by decide +kernel
theorem dX12_readsDeed_4 : decode cX12_readsDeed 4 = .ok (.istore_n 1, 1) := by decide +kernel
theorem dX12_readsDeed_5 : decode cX12_readsDeed 5 = .ok (.aload_n 0, 1) := by decide +kernel
theorem dX12_readsDeed_6 : decode cX12_readsDeed 6 = .ok (.iload_n 1, 1) := by decide +kernel
theorem dX12_readsDeed_7 : decode cX12_readsDeed 7 = .ok (.bipush 116, 2) := by decide +kernel
theorem dX12_readsDeed_9 : decode cX12_readsDeed 9 = .ok (.if_icmp .ne 7, 3) := by decide +kernel
theorem dX12_readsDeed_12 : decode cX12_readsDeed 12 = .ok (.iconst 0, 1) := by decide +kernel
theorem dX12_readsDeed_13 : decode cX12_readsDeed 13 = .ok (.goto 54, 3) := by decide +kernel
theorem dX12_readsDeed_16 : decode cX12_readsDeed 16 = .ok (.iload_n 1, 1) := by decide +kernel
theorem dX12_readsDeed_17 : decode cX12_readsDeed 17 = .ok (.bipush 112, 2) := by decide +kernel
theorem dX12_readsDeed_19 : decode cX12_readsDeed 19 = .ok (.if_icmp .ne 7, 3) := by decide +kernel
theorem dX12_readsDeed_22 : decode cX12_readsDeed 22 = .ok (.iconst 1, 1) := by decide +kernel
theorem dX12_readsDeed_23 : decode cX12_readsDeed 23 = .ok (.goto 44, 3) := by decide +kernel
theorem dX12_readsDeed_26 : decode cX12_readsDeed 26 = .ok (.iload_n 1, 1) := by decide +kernel
theorem dX12_readsDeed_27 : decode cX12_readsDeed 27 = .ok (.bipush 115, 2) := by decide +kernel
theorem dX12_readsDeed_29 : decode cX12_readsDeed 29 = .ok (.if_icmp .ne 7, 3) := by decide +kernel
theorem dX12_readsDeed_32 : decode cX12_readsDeed 32 = .ok (.iconst 2, 1) := by decide +kernel
theorem dX12_readsDeed_33 : decode cX12_readsDeed 33 = .ok (.goto 34, 3) := by decide +kernel
theorem dX12_readsDeed_36 : decode cX12_readsDeed 36 = .ok (.iload_n 1, 1) := by decide +kernel
theorem dX12_readsDeed_37 : decode cX12_readsDeed 37 = .ok (.bipush 98, 2) := by decide +kernel
theorem dX12_readsDeed_39 : decode cX12_readsDeed 39 = .ok (.if_icmp .ne 7, 3) := by decide +kernel
theorem dX12_readsDeed_42 : decode cX12_readsDeed 42 = .ok (.iconst 3, 1) := by decide +kernel
theorem dX12_readsDeed_43 : decode cX12_readsDeed 43 = .ok (.goto 24, 3) := by decide +kernel
theorem dX12_readsDeed_46 : decode cX12_readsDeed 46 = .ok (.iload_n 1, 1) := by decide +kernel
theorem dX12_readsDeed_47 : decode cX12_readsDeed 47 = .ok (.bipush 111, 2) := by decide +kernel
theorem dX12_readsDeed_49 : decode cX12_readsDeed 49 = .ok (.if_icmp .ne 7, 3) := by decide +kernel
theorem dX12_readsDeed_52 : decode cX12_readsDeed 52 = .ok (.iconst 4, 1) := by decide +kernel
theorem dX12_readsDeed_53 : decode cX12_readsDeed 53 = .ok (.goto 14, 3) := by decide +kernel
theorem dX12_readsDeed_56 : decode cX12_readsDeed 56 = .ok (.iload_n 1, 1) := by decide +kernel
theorem dX12_readsDeed_57 : decode cX12_readsDeed 57 = .ok (.bipush 99, 2) := by decide +kernel
theorem dX12_readsDeed_59 : decode cX12_readsDeed 59 = .ok (.if_icmp .ne 7, 3) := by decide +kernel
theorem dX12_readsDeed_62 : decode cX12_readsDeed 62 = .ok (.iconst 5, 1) := by decide +kernel
theorem dX12_readsDeed_63 : decode cX12_readsDeed 63 = .ok (.goto 4, 3) := by decide +kernel
theorem dX12_readsDeed_66 : decode cX12_readsDeed 66 = .ok (.iconst (-1), 1) := by decide +kernel
theorem dX12_readsDeed_67 : decode cX12_readsDeed 67 = .ok (.putfield 153, 3) := by decide +kernel
theorem dX12_readsDeed_70 : decode cX12_readsDeed 70 = .ok (.aload_n 0, 1) := by decide +kernel
theorem dX12_readsDeed_71 : decode cX12_readsDeed 71 = .ok (.getfield 153, 3) := by decide +kernel
theorem dX12_readsDeed_74 : decode cX12_readsDeed 74 = .ok (.iconst (-1), 1) := by decide +kernel
theorem dX12_readsDeed_75 : decode cX12_readsDeed 75 = .ok (.if_icmp .ne 13, 3) := by decide +kernel
theorem dX12_readsDeed_78 : decode cX12_readsDeed 78 = .ok (.aload_n 0, 1) := by decide +kernel
theorem dX12_readsDeed_79 : decode cX12_readsDeed 79 = .ok (.iconst 1, 1) := by decide +kernel
theorem dX12_readsDeed_80 : decode cX12_readsDeed 80 = .ok (.aload_n 0, 1) := by decide +kernel
theorem dX12_readsDeed_81 : decode cX12_readsDeed 81 = .ok (.getfield 136, 3) := by decide +kernel
theorem dX12_readsDeed_84 : decode cX12_readsDeed 84 = .ok (.invokevirtual 149, 3) := by decide +kernel
theorem dX12_readsDeed_87 : decode cX12_readsDeed 87 = .ok (.ireturn, 1) := by decide +kernel
theorem dX12_readsDeed_88 : decode cX12_readsDeed 88 = .ok (.aload_n 0, 1) := by decide +kernel
theorem dX12_readsDeed_89 : decode cX12_readsDeed 89 = .ok (.aload_n 0, 1) := by decide +kernel
theorem dX12_readsDeed_90 : decode cX12_readsDeed 90 = .ok (.getfield 136, 3) := by decide +kernel
theorem dX12_readsDeed_93 : decode cX12_readsDeed 93 = .ok (.iconst 1, 1) := by decide +kernel
theorem dX12_readsDeed_94 : decode cX12_readsDeed 94 = .ok (.iadd, 1) := by decide +kernel
theorem dX12_readsDeed_95 : decode cX12_readsDeed 95 = .ok (.putfield 136, 3) := by decide +kernel
theorem dX12_readsDeed_98 : decode cX12_readsDeed 98 = .ok (.iconst 1, 1) := by decide +kernel
theorem dX12_readsDeed_99 : decode cX12_readsDeed 99 = .ok (.ireturn, 1) := by decide +kernel
theorem dX12_readsIt_0 : decode cX12_readsIt 0 = .ok (.aload_n 0, 1) := by decide +kernel
theorem dX12_readsIt_1 : decode cX12_readsIt 1 = .ok (.invokevirtual 258, 3) := by decide +kernel
theorem dX12_readsIt_4 : decode cX12_readsIt 4 = .ok (.ifCond .ne 5, 3) := by decide +kernel
theorem dX12_readsIt_7 : decode cX12_readsIt 7 = .ok (.iconst 0, 1) := by decide +kernel
theorem dX12_readsIt_8 : decode cX12_readsIt 8 = .ok (.ireturn, 1) := by decide +kernel
theorem dX12_readsIt_9 : decode cX12_readsIt 9 = .ok (.aload_n 0, 1) := by decide +kernel
theorem dX12_readsIt_10 : decode cX12_readsIt 10 = .ok (.invokevirtual 142, 3) := by decide +kernel
theorem dX12_readsIt_13 : decode cX12_readsIt 13 = .ok (.bipush 40, 2) := by decide +kernel
theorem dX12_readsIt_15 : decode cX12_readsIt 15 = .ok (.if_icmp .ne 89, 3) := by decide +kernel
theorem dX12_readsIt_18 : decode cX12_readsIt 18 = .ok (.aload_n 0, 1) := by decide +kernel
theorem dX12_readsIt_19 : decode cX12_readsIt 19 = .ok (.getfield 261, 3) := by decide +kernel
theorem dX12_readsIt_22 : decode cX12_readsIt 22 = .ok (.iconst 2, 1) := by decide +kernel
theorem dX12_readsIt_23 : decode cX12_readsIt 23 = .ok (.if_icmp .ne 13, 3) := by decide +kernel
theorem dX12_readsIt_26 : decode cX12_readsIt 26 = .ok (.aload_n 0, 1) := by decide +kernel
theorem dX12_readsIt_27 : decode cX12_readsIt 27 = .ok (.iconst 5, 1) := by decide +kernel
theorem dX12_readsIt_28 : decode cX12_readsIt 28 = .ok (.aload_n 0, 1) := by decide +kernel
theorem dX12_readsIt_29 : decode cX12_readsIt 29 = .ok (.getfield 136, 3) := by decide +kernel
theorem dX12_readsIt_32 : decode cX12_readsIt 32 = .ok (.invokevirtual 149, 3) := by decide +kernel
theorem dX12_readsIt_35 : decode cX12_readsIt 35 = .ok (.ireturn, 1) := by decide +kernel
theorem dX12_readsIt_36 : decode cX12_readsIt 36 = .ok (.aload_n 0, 1) := by decide +kernel
theorem dX12_readsIt_37 : decode cX12_readsIt 37 = .ok (.getfield 74, 3) := by decide +kernel
theorem dX12_readsIt_40 : decode cX12_readsIt 40 = .ok (.aload_n 0, 1) := by decide +kernel
theorem dX12_readsIt_41 : decode cX12_readsIt 41 = .ok (.getfield 261, 3) := by decide +kernel
theorem dX12_readsIt_44 : decode cX12_readsIt 44 = .ok (.aload_n 0, 1) := by decide +kernel
theorem dX12_readsIt_45 : decode cX12_readsIt 45 = .ok (.getfield 242, 3) := by decide +kernel
theorem dX12_readsIt_48 : decode cX12_readsIt 48 = .ok (.iastore, 1) := by decide +kernel
theorem dX12_readsIt_49 : decode cX12_readsIt 49 = .ok (.aload_n 0, 1) := by decide +kernel
theorem dX12_readsIt_50 : decode cX12_readsIt 50 = .ok (.getfield 77, 3) := by decide +kernel
theorem dX12_readsIt_53 : decode cX12_readsIt 53 = .ok (.aload_n 0, 1) := by decide +kernel
theorem dX12_readsIt_54 : decode cX12_readsIt 54 = .ok (.getfield 261, 3) := by decide +kernel
theorem dX12_readsIt_57 : decode cX12_readsIt 57 = .ok (.aload_n 0, 1) := by decide +kernel
theorem dX12_readsIt_58 : decode cX12_readsIt 58 = .ok (.getfield 252, 3) := by decide +kernel
theorem dX12_readsIt_61 : decode cX12_readsIt 61 = .ok (.iastore, 1) := by decide +kernel
theorem dX12_readsIt_62 : decode cX12_readsIt 62 = .ok (.aload_n 0, 1) := by decide +kernel
theorem dX12_readsIt_63 : decode cX12_readsIt 63 = .ok (.getfield 80, 3) := by decide +kernel
theorem dX12_readsIt_66 : decode cX12_readsIt 66 = .ok (.aload_n 0, 1) := by decide +kernel
theorem dX12_readsIt_67 : decode cX12_readsIt 67 = .ok (.getfield 261, 3) := by decide +kernel
theorem dX12_readsIt_70 : decode cX12_readsIt 70 = .ok (.aload_n 0, 1) := by decide +kernel
theorem dX12_readsIt_71 : decode cX12_readsIt 71 = .ok (.getfield 245, 3) := by decide +kernel
theorem dX12_readsIt_74 : decode cX12_readsIt 74 = .ok (.iastore, 1) := by decide +kernel
theorem dX12_readsIt_75 : decode cX12_readsIt 75 = .ok (.aload_n 0, 1) := by decide +kernel
theorem dX12_readsIt_76 : decode cX12_readsIt 76 = .ok (.aload_n 0, 1) := by decide +kernel
theorem dX12_readsIt_77 : decode cX12_readsIt 77 = .ok (.getfield 261, 3) := by decide +kernel
theorem dX12_readsIt_80 : decode cX12_readsIt 80 = .ok (.iconst 1, 1) := by decide +kernel
theorem dX12_readsIt_81 : decode cX12_readsIt 81 = .ok (.iadd, 1) := by decide +kernel
theorem dX12_readsIt_82 : decode cX12_readsIt 82 = .ok (.putfield 261, 3) := by decide +kernel
theorem dX12_readsIt_85 : decode cX12_readsIt 85 = .ok (.aload_n 0, 1) := by decide +kernel
theorem dX12_readsIt_86 : decode cX12_readsIt 86 = .ok (.aload_n 0, 1) := by decide +kernel
theorem dX12_readsIt_87 : decode cX12_readsIt 87 = .ok (.getfield 136, 3) := by decide +kernel
theorem dX12_readsIt_90 : decode cX12_readsIt 90 = .ok (.iconst 1, 1) := by decide +kernel
theorem dX12_readsIt_91 : decode cX12_readsIt 91 = .ok (.iadd, 1) := by decide +kernel
theorem dX12_readsIt_92 : decode cX12_readsIt 92 = .ok (.putfield 136, 3) := by decide +kernel
theorem dX12_readsIt_95 : decode cX12_readsIt 95 = .ok (.aload_n 0, 1) := by decide +kernel
theorem dX12_readsIt_96 : decode cX12_readsIt 96 = .ok (.invokevirtual 258, 3) := by decide +kernel
theorem dX12_readsIt_99 : decode cX12_readsIt 99 = .ok (.ifCond .ne (-90), 3) := by decide +kernel
theorem dX12_readsIt_102 : decode cX12_readsIt 102 = .ok (.iconst 0, 1) := by decide +kernel
theorem dX12_readsIt_103 : decode cX12_readsIt 103 = .ok (.ireturn, 1) := by decide +kernel
theorem dX12_readsIt_104 : decode cX12_readsIt 104 = .ok (.aload_n 0, 1) := by decide +kernel
theorem dX12_readsIt_105 : decode cX12_readsIt 105 = .ok (.getfield 242, 3) := by decide +kernel
theorem dX12_readsIt_108 : decode cX12_readsIt 108 = .ok (.istore_n 1, 1) := by decide +kernel
theorem dX12_readsIt_109 : decode cX12_readsIt 109 = .ok (.aload_n 0, 1) := by decide +kernel
theorem dX12_readsIt_110 : decode cX12_readsIt 110 = .ok (.getfield 245, 3) := by decide +kernel
theorem dX12_readsIt_113 : decode cX12_readsIt 113 = .ok (.istore_n 2, 1) := by decide +kernel
theorem dX12_readsIt_114 : decode cX12_readsIt 114 = .ok (.aload_n 0, 1) := by decide +kernel
theorem dX12_readsIt_115 : decode cX12_readsIt 115 = .ok (.getfield 248, 3) := by decide +kernel
theorem dX12_readsIt_118 : decode cX12_readsIt 118 = .ok (.ifCond .eq 13, 3) := by decide +kernel
theorem dX12_readsIt_121 : decode cX12_readsIt 121 = .ok (.aload_n 0, 1) := by decide +kernel
theorem dX12_readsIt_122 : decode cX12_readsIt 122 = .ok (.invokevirtual 264, 3) := by decide +kernel
theorem dX12_readsIt_125 : decode cX12_readsIt 125 = .ok (.ifCond .eq 13, 3) := by decide +kernel
theorem dX12_readsIt_128 : decode cX12_readsIt 128 = .ok (.goto 12, 3) := by decide +kernel
theorem dX12_readsIt_131 : decode cX12_readsIt 131 = .ok (.aload_n 0, 1) := by decide +kernel
theorem dX12_readsIt_132 : decode cX12_readsIt 132 = .ok (.invokevirtual 267, 3) := by decide +kernel
theorem dX12_readsIt_135 : decode cX12_readsIt 135 = .ok (.ifCond .ne 5, 3) := by decide +kernel
theorem dX12_readsIt_138 : decode cX12_readsIt 138 = .ok (.iconst 0, 1) := by decide +kernel
theorem dX12_readsIt_139 : decode cX12_readsIt 139 = .ok (.ireturn, 1) := by decide +kernel
theorem dX12_readsIt_140 : decode cX12_readsIt 140 = .ok (.aload_n 0, 1) := by decide +kernel
theorem dX12_readsIt_141 : decode cX12_readsIt 141 = .ok (.getfield 252, 3) := by decide +kernel
theorem dX12_readsIt_144 : decode cX12_readsIt 144 = .ok (.iload_n 2, 1) := by decide +kernel
theorem dX12_readsIt_145 : decode cX12_readsIt 145 = .ok (.iadd, 1) := by decide +kernel
theorem dX12_readsIt_146 : decode cX12_readsIt 146 = .ok (.aload_n 0, 1) := by decide +kernel
theorem dX12_readsIt_147 : decode cX12_readsIt 147 = .ok (.getfield 255, 3) := by decide +kernel
theorem dX12_readsIt_150 : decode cX12_readsIt 150 = .ok (.if_icmp .le 11, 3) := by decide +kernel
theorem dX12_readsIt_153 : decode cX12_readsIt 153 = .ok (.aload_n 0, 1) := by decide +kernel
theorem dX12_readsIt_154 : decode cX12_readsIt 154 = .ok (.bipush 6, 2) := by decide +kernel
theorem dX12_readsIt_156 : decode cX12_readsIt 156 = .ok (.iload_n 1, 1) := by decide +kernel
theorem dX12_readsIt_157 : decode cX12_readsIt 157 = .ok (.invokevirtual 149, 3) := by decide +kernel
theorem dX12_readsIt_160 : decode cX12_readsIt 160 = .ok (.ireturn, 1) := by decide +kernel
theorem dX12_readsIt_161 : decode cX12_readsIt 161 = .ok (.aload_n 0, 1) := by decide +kernel
theorem dX12_readsIt_162 : decode cX12_readsIt 162 = .ok (.getfield 71, 3) := by decide +kernel
theorem dX12_readsIt_165 : decode cX12_readsIt 165 = .ok (.aload_n 0, 1) := by decide +kernel
theorem dX12_readsIt_166 : decode cX12_readsIt 166 = .ok (.getfield 252, 3) := by decide +kernel
theorem dX12_readsIt_169 : decode cX12_readsIt 169 = .ok (.aload_n 0, 1) := by decide +kernel
theorem dX12_readsIt_170 : decode cX12_readsIt 170 = .ok (.getfield 153, 3) := by decide +kernel
theorem dX12_readsIt_173 : decode cX12_readsIt 173 = .ok (.iastore, 1) := by decide +kernel
theorem dX12_readsIt_174 : decode cX12_readsIt 174 = .ok (.aload_n 0, 1) := by decide +kernel
theorem dX12_readsIt_175 : decode cX12_readsIt 175 = .ok (.aload_n 0, 1) := by decide +kernel
theorem dX12_readsIt_176 : decode cX12_readsIt 176 = .ok (.getfield 252, 3) := by decide +kernel
theorem dX12_readsIt_179 : decode cX12_readsIt 179 = .ok (.iconst 1, 1) := by decide +kernel
theorem dX12_readsIt_180 : decode cX12_readsIt 180 = .ok (.iadd, 1) := by decide +kernel
theorem dX12_readsIt_181 : decode cX12_readsIt 181 = .ok (.putfield 252, 3) := by decide +kernel
theorem dX12_readsIt_184 : decode cX12_readsIt 184 = .ok (.aload_n 0, 1) := by decide +kernel
theorem dX12_readsIt_185 : decode cX12_readsIt 185 = .ok (.aload_n 0, 1) := by decide +kernel
theorem dX12_readsIt_186 : decode cX12_readsIt 186 = .ok (.getfield 252, 3) := by decide +kernel
theorem dX12_readsIt_189 : decode cX12_readsIt 189 = .ok (.iconst 1, 1) := by decide +kernel
theorem dX12_readsIt_190 : decode cX12_readsIt 190 = .ok (.isub, 1) := by decide +kernel
theorem dX12_readsIt_191 : decode cX12_readsIt 191 = .ok (.iload_n 2, 1) := by decide +kernel
theorem dX12_readsIt_192 : decode cX12_readsIt 192 = .ok (.iload_n 1, 1) := by decide +kernel
theorem dX12_readsIt_193 : decode cX12_readsIt 193 = .ok (.invokevirtual 270, 3) := by decide +kernel
theorem dX12_readsIt_196 : decode cX12_readsIt 196 = .ok (.ifCond .ne 5, 3) := by decide +kernel
theorem dX12_readsIt_199 : decode cX12_readsIt 199 = .ok (.iconst 0, 1) := by decide +kernel
theorem dX12_readsIt_200 : decode cX12_readsIt 200 = .ok (.ireturn, 1) := by decide +kernel
theorem dX12_readsIt_201 : decode cX12_readsIt 201 = .ok (.aload_n 0, 1) := by decide +kernel
theorem dX12_readsIt_202 : decode cX12_readsIt 202 = .ok (.invokevirtual 142, 3) := by decide +kernel
theorem dX12_readsIt_205 : decode cX12_readsIt 205 = .ok (.bipush 41, 2) := by decide +kernel
theorem dX12_readsIt_207 : decode cX12_readsIt 207 = .ok (.if_icmp .ne 66, 3) := by decide +kernel
theorem dX12_readsIt_210 : decode cX12_readsIt 210 = .ok (.aload_n 0, 1) := by decide +kernel
theorem dX12_readsIt_211 : decode cX12_readsIt 211 = .ok (.getfield 261, 3) := by decide +kernel
theorem dX12_readsIt_214 : decode cX12_readsIt 214 = .ok (.ifCond .le 59, 3) := by decide +kernel
theorem dX12_readsIt_217 : decode cX12_readsIt 217 = .ok (.aload_n 0, 1) := by decide +kernel
theorem dX12_readsIt_218 : decode cX12_readsIt 218 = .ok (.aload_n 0, 1) := by decide +kernel
theorem dX12_readsIt_219 : decode cX12_readsIt 219 = .ok (.getfield 136, 3) := by decide +kernel
theorem dX12_readsIt_222 : decode cX12_readsIt 222 = .ok (.iconst 1, 1) := by decide +kernel
theorem dX12_readsIt_223 : decode cX12_readsIt 223 = .ok (.iadd, 1) := by decide +kernel
theorem dX12_readsIt_224 : decode cX12_readsIt 224 = .ok (.putfield 136, 3) := by decide +kernel
theorem dX12_readsIt_227 : decode cX12_readsIt 227 = .ok (.aload_n 0, 1) := by decide +kernel
theorem dX12_readsIt_228 : decode cX12_readsIt 228 = .ok (.aload_n 0, 1) := by decide +kernel
theorem dX12_readsIt_229 : decode cX12_readsIt 229 = .ok (.getfield 261, 3) := by decide +kernel
theorem dX12_readsIt_232 : decode cX12_readsIt 232 = .ok (.iconst 1, 1) := by decide +kernel
theorem dX12_readsIt_233 : decode cX12_readsIt 233 = .ok (.isub, 1) := by decide +kernel
theorem dX12_readsIt_234 : decode cX12_readsIt 234 = .ok (.putfield 261, 3) := by decide +kernel
theorem dX12_readsIt_237 : decode cX12_readsIt 237 = .ok (.aload_n 0, 1) := by decide +kernel
theorem dX12_readsIt_238 : decode cX12_readsIt 238 = .ok (.aload_n 0, 1) := by decide +kernel
theorem dX12_readsIt_239 : decode cX12_readsIt 239 = .ok (.getfield 77, 3) := by decide +kernel
theorem dX12_readsIt_242 : decode cX12_readsIt 242 = .ok (.aload_n 0, 1) := by decide +kernel
theorem dX12_readsIt_243 : decode cX12_readsIt 243 = .ok (.getfield 261, 3) := by decide +kernel
theorem dX12_readsIt_246 : decode cX12_readsIt 246 = .ok (.iaload, 1) := by decide +kernel
theorem dX12_readsIt_247 : decode cX12_readsIt 247 = .ok (.aload_n 0, 1) := by decide +kernel
theorem dX12_readsIt_248 : decode cX12_readsIt 248 = .ok (.getfield 80, 3) := by decide +kernel
theorem dX12_readsIt_251 : decode cX12_readsIt 251 = .ok (.aload_n 0, 1) := by decide +kernel
theorem dX12_readsIt_252 : decode cX12_readsIt 252 = .ok (.getfield 261, 3) := by decide +kernel
theorem dX12_readsIt_255 : decode cX12_readsIt 255 = .ok (.iaload, 1) := by decide +kernel
theorem dX12_readsIt_256 : decode cX12_readsIt 256 = .ok (.aload_n 0, 1) := by decide +kernel
theorem dX12_readsIt_257 : decode cX12_readsIt 257 = .ok (.getfield 74, 3) := by decide +kernel
theorem dX12_readsIt_260 : decode cX12_readsIt 260 = .ok (.aload_n 0, 1) := by decide +kernel
theorem dX12_readsIt_261 : decode cX12_readsIt 261 = .ok (.getfield 261, 3) := by decide +kernel
theorem dX12_readsIt_264 : decode cX12_readsIt 264 = .ok (.iaload, 1) := by decide +kernel
theorem dX12_readsIt_265 : decode cX12_readsIt 265 = .ok (.invokevirtual 270, 3) := by decide +kernel
theorem dX12_readsIt_268 : decode cX12_readsIt 268 = .ok (.ifCond .ne (-67), 3) := by decide +kernel
theorem dX12_readsIt_271 : decode cX12_readsIt 271 = .ok (.iconst 0, 1) := by decide +kernel
theorem dX12_readsIt_272 : decode cX12_readsIt 272 = .ok (.ireturn, 1) := by decide +kernel
theorem dX12_readsIt_273 : decode cX12_readsIt 273 = .ok (.iconst 1, 1) := by decide +kernel
theorem dX12_readsIt_274 : decode cX12_readsIt 274 = .ok (.ireturn, 1) := by decide +kernel
theorem dX12_readsRow_0 : decode cX12_readsRow 0 = .ok (.aload_n 0, 1) := by decide +kernel
theorem dX12_readsRow_1 : decode cX12_readsRow 1 = .ok (.iload_n 1, 1) := by decide +kernel
theorem dX12_readsRow_2 : decode cX12_readsRow 2 = .ok (.invokevirtual 222, 3) := by decide +kernel
theorem dX12_readsRow_5 : decode cX12_readsRow 5 = .ok (.aload_n 0, 1) := by decide +kernel
theorem dX12_readsRow_6 : decode cX12_readsRow 6 = .ok (.iload_n 2, 1) := by decide +kernel
theorem dX12_readsRow_7 : decode cX12_readsRow 7 = .ok (.putfield 248, 3) := by decide +kernel
theorem dX12_readsRow_10 : decode cX12_readsRow 10 = .ok (.aload_n 0, 1) := by decide +kernel
theorem dX12_readsRow_11 : decode cX12_readsRow 11 = .ok (.iload_n 2, 1) := by decide +kernel
theorem dX12_readsRow_12 : decode cX12_readsRow 12 = .ok (.ifCond .eq 8, 3) := by decide +kernel
theorem dX12_readsRow_15 : decode cX12_readsRow 15 = .ok (.bipush 24, 2) := by decide +kernel
theorem dX12_readsRow_17 : decode cX12_readsRow 17 = .ok (.goto 5, 3) := by decide +kernel
theorem dX12_readsRow_20 : decode cX12_readsRow 20 = .ok (.bipush 96, 2) := by decide +kernel
theorem dX12_readsRow_22 : decode cX12_readsRow 22 = .ok (.putfield 255, 3) := by decide +kernel
theorem dX12_readsRow_25 : decode cX12_readsRow 25 = .ok (.aload_n 0, 1) := by decide +kernel
theorem dX12_readsRow_26 : decode cX12_readsRow 26 = .ok (.iconst 0, 1) := by decide +kernel
theorem dX12_readsRow_27 : decode cX12_readsRow 27 = .ok (.putfield 252, 3) := by decide +kernel
theorem dX12_readsRow_30 : decode cX12_readsRow 30 = .ok (.aload_n 0, 1) := by decide +kernel
theorem dX12_readsRow_31 : decode cX12_readsRow 31 = .ok (.iconst 0, 1) := by decide +kernel
theorem dX12_readsRow_32 : decode cX12_readsRow 32 = .ok (.putfield 261, 3) := by decide +kernel
theorem dX12_readsRow_35 : decode cX12_readsRow 35 = .ok (.aload_n 0, 1) := by decide +kernel
theorem dX12_readsRow_36 : decode cX12_readsRow 36 = .ok (.invokevirtual 273, 3) := by decide +kernel
theorem dX12_readsRow_39 : decode cX12_readsRow 39 = .ok (.istore_n 3, 1) := by decide +kernel
theorem dX12_readsRow_40 : decode cX12_readsRow 40 = .ok (.iload_n 3, 1) := by decide +kernel
theorem dX12_readsRow_41 : decode cX12_readsRow 41 = .ok (.ifCond .eq 29, 3) := by decide +kernel
theorem dX12_readsRow_44 : decode cX12_readsRow 44 = .ok (.aload_n 0, 1) := by decide +kernel
theorem dX12_readsRow_45 : decode cX12_readsRow 45 = .ok (.getfield 136, 3) := by decide +kernel
theorem dX12_readsRow_48 : decode cX12_readsRow 48 = .ok (.aload_n 0, 1) := by decide +kernel
theorem dX12_readsRow_49 : decode cX12_readsRow 49 = .ok (.getfield 139, 3) := by decide +kernel
theorem dX12_readsRow_52 : decode cX12_readsRow 52 = .ok (.if_icmp .lt 10, 3) := by decide +kernel
theorem dX12_readsRow_55 : decode cX12_readsRow 55 = .ok (.aload_n 0, 1) := by decide +kernel
theorem dX12_readsRow_56 : decode cX12_readsRow 56 = .ok (.getfield 261, 3) := by decide +kernel
theorem dX12_readsRow_59 : decode cX12_readsRow 59 = .ok (.ifCond .le 11, 3) := by decide +kernel
theorem dX12_readsRow_62 : decode cX12_readsRow 62 = .ok (.aload_n 0, 1) := by decide +kernel
theorem dX12_readsRow_63 : decode cX12_readsRow 63 = .ok (.invokevirtual 273, 3) := by decide +kernel
theorem dX12_readsRow_66 : decode cX12_readsRow 66 = .ok (.istore_n 3, 1) := by decide +kernel
theorem dX12_readsRow_67 : decode cX12_readsRow 67 = .ok (.goto (-27), 3) := by decide +kernel
theorem dX12_readsRow_70 : decode cX12_readsRow 70 = .ok (.aload_n 0, 1) := by decide +kernel
theorem dX12_readsRow_71 : decode cX12_readsRow 71 = .ok (.iconst 0, 1) := by decide +kernel
theorem dX12_readsRow_72 : decode cX12_readsRow 72 = .ok (.putfield 128, 3) := by decide +kernel
theorem dX12_readsRow_75 : decode cX12_readsRow 75 = .ok (.iload_n 3, 1) := by decide +kernel
theorem dX12_readsRow_76 : decode cX12_readsRow 76 = .ok (.ireturn, 1) := by decide +kernel
theorem dX12_becomesNew_0 : decode cX12_becomesNew 0 = .ok (.aload_n 0, 1) := by decide +kernel
theorem dX12_becomesNew_1 : decode cX12_becomesNew 1 = .ok (.getfield 7, 3) := by decide +kernel
theorem dX12_becomesNew_4 : decode cX12_becomesNew 4 = .ok (.iconst 0, 1) := by decide +kernel
theorem dX12_becomesNew_5 : decode cX12_becomesNew 5 = .ok (.iload_n 1, 1) := by decide +kernel
theorem dX12_becomesNew_6 : decode cX12_becomesNew 6 = .ok (.iadd, 1) := by decide +kernel
theorem dX12_becomesNew_7 : decode cX12_becomesNew 7 = .ok (.iconst 0, 1) := by decide +kernel
theorem dX12_becomesNew_8 : decode cX12_becomesNew 8 = .ok (.iastore, 1) := by decide +kernel
theorem dX12_becomesNew_9 : decode cX12_becomesNew 9 = .ok (.aload_n 0, 1) := by decide +kernel
theorem dX12_becomesNew_10 : decode cX12_becomesNew 10 = .ok (.getfield 7, 3) := by decide +kernel
theorem dX12_becomesNew_13 : decode cX12_becomesNew 13 = .ok (.bipush 12, 2) := by decide +kernel
theorem dX12_becomesNew_15 : decode cX12_becomesNew 15 = .ok (.iload_n 1, 1) := by decide +kernel
theorem dX12_becomesNew_16 : decode cX12_becomesNew 16 = .ok (.iadd, 1) := by decide +kernel
theorem dX12_becomesNew_17 : decode cX12_becomesNew 17 = .ok (.bipush 9, 2) := by decide +kernel
theorem dX12_becomesNew_19 : decode cX12_becomesNew 19 = .ok (.iastore, 1) := by decide +kernel
theorem dX12_becomesNew_20 : decode cX12_becomesNew 20 = .ok (.aload_n 0, 1) := by decide +kernel
theorem dX12_becomesNew_21 : decode cX12_becomesNew 21 = .ok (.getfield 7, 3) := by decide +kernel
theorem dX12_becomesNew_24 : decode cX12_becomesNew 24 = .ok (.bipush 24, 2) := by decide +kernel
theorem dX12_becomesNew_26 : decode cX12_becomesNew 26 = .ok (.iload_n 1, 1) := by decide +kernel
theorem dX12_becomesNew_27 : decode cX12_becomesNew 27 = .ok (.iadd, 1) := by decide +kernel
theorem dX12_becomesNew_28 : decode cX12_becomesNew 28 = .ok (.iconst 0, 1) := by decide +kernel
theorem dX12_becomesNew_29 : decode cX12_becomesNew 29 = .ok (.iastore, 1) := by decide +kernel
theorem dX12_becomesNew_30 : decode cX12_becomesNew 30 = .ok (.aload_n 0, 1) := by decide +kernel
theorem dX12_becomesNew_31 : decode cX12_becomesNew 31 = .ok (.getfield 7, 3) := by decide +kernel
theorem dX12_becomesNew_34 : decode cX12_becomesNew 34 = .ok (.bipush 36, 2) := by decide +kernel
theorem dX12_becomesNew_36 : decode cX12_becomesNew 36 = .ok (.iload_n 1, 1) := by decide +kernel
theorem dX12_becomesNew_37 : decode cX12_becomesNew 37 = .ok (.iadd, 1) := by decide +kernel
theorem dX12_becomesNew_38 : decode cX12_becomesNew 38 = .ok (.iconst 0, 1) := by decide +kernel
theorem dX12_becomesNew_39 : decode cX12_becomesNew 39 = .ok (.iastore, 1) := by decide +kernel
theorem dX12_becomesNew_40 : decode cX12_becomesNew 40 = .ok (.aload_n 0, 1) := by decide +kernel
theorem dX12_becomesNew_41 : decode cX12_becomesNew 41 = .ok (.getfield 7, 3) := by decide +kernel
theorem dX12_becomesNew_44 : decode cX12_becomesNew 44 = .ok (.bipush 48, 2) := by decide +kernel
theorem dX12_becomesNew_46 : decode cX12_becomesNew 46 = .ok (.iload_n 1, 1) := by decide +kernel
theorem dX12_becomesNew_47 : decode cX12_becomesNew 47 = .ok (.iadd, 1) := by decide +kernel
theorem dX12_becomesNew_48 : decode cX12_becomesNew 48 = .ok (.iconst 0, 1) := by decide +kernel
theorem dX12_becomesNew_49 : decode cX12_becomesNew 49 = .ok (.iastore, 1) := by decide +kernel
theorem dX12_becomesNew_50 : decode cX12_becomesNew 50 = .ok (.aload_n 0, 1) := by decide +kernel
theorem dX12_becomesNew_51 : decode cX12_becomesNew 51 = .ok (.getfield 7, 3) := by decide +kernel
theorem dX12_becomesNew_54 : decode cX12_becomesNew 54 = .ok (.bipush 60, 2) := by decide +kernel
theorem dX12_becomesNew_56 : decode cX12_becomesNew 56 = .ok (.iload_n 1, 1) := by decide +kernel
theorem dX12_becomesNew_57 : decode cX12_becomesNew 57 = .ok (.iadd, 1) := by decide +kernel
theorem dX12_becomesNew_58 : decode cX12_becomesNew 58 = .ok (.iconst 0, 1) := by decide +kernel
theorem dX12_becomesNew_59 : decode cX12_becomesNew 59 = .ok (.iastore, 1) := by decide +kernel
theorem dX12_becomesNew_60 : decode cX12_becomesNew 60 = .ok (.return_, 1) := by decide +kernel
theorem dX12_witness_0 : decode cX12_witness 0 = .ok (.iload_n 1, 1) := by decide +kernel
theorem dX12_witness_1 : decode cX12_witness 1 = .ok (.iconst 0, 1) := by decide +kernel
theorem dX12_witness_2 : decode cX12_witness 2 = .ok (.bipush 11, 2) := by decide +kernel
theorem dX12_witness_4 : decode cX12_witness 4 = .ok (.invokestatic 124, 3) := by decide +kernel
theorem dX12_witness_7 : decode cX12_witness 7 = .ok (.ifCond .eq 21, 3) := by decide +kernel
theorem dX12_witness_10 : decode cX12_witness 10 = .ok (.iload_n 2, 1) := by decide +kernel
theorem dX12_witness_11 : decode cX12_witness 11 = .ok (.iconst 1, 1) := by decide +kernel
theorem dX12_witness_12 : decode cX12_witness 12 = .ok (.bipush 80, 2) := by decide +kernel
theorem dX12_witness_14 : decode cX12_witness 14 = .ok (.invokestatic 124, 3) := by decide +kernel
theorem dX12_witness_17 : decode cX12_witness 17 = .ok (.ifCond .eq 11, 3) := by decide +kernel
theorem dX12_witness_20 : decode cX12_witness 20 = .ok (.iload_n 2, 1) := by decide +kernel
theorem dX12_witness_21 : decode cX12_witness 21 = .ok (.aload_n 0, 1) := by decide +kernel
theorem dX12_witness_22 : decode cX12_witness 22 = .ok (.getfield 128, 3) := by decide +kernel
theorem dX12_witness_25 : decode cX12_witness 25 = .ok (.if_icmp .le 5, 3) := by decide +kernel
theorem dX12_witness_28 : decode cX12_witness 28 = .ok (.iconst (-1), 1) := by decide +kernel
theorem dX12_witness_29 : decode cX12_witness 29 = .ok (.ireturn, 1) := by decide +kernel
theorem dX12_witness_30 : decode cX12_witness 30 = .ok (.aload_n 0, 1) := by decide +kernel
theorem dX12_witness_31 : decode cX12_witness 31 = .ok (.iload_n 2, 1) := by decide +kernel
theorem dX12_witness_32 : decode cX12_witness 32 = .ok (.iconst 1, 1) := by decide +kernel
theorem dX12_witness_33 : decode cX12_witness 33 = .ok (.invokevirtual 276, 3) := by decide +kernel
theorem dX12_witness_36 : decode cX12_witness 36 = .ok (.ifCond .ne 8, 3) := by decide +kernel
theorem dX12_witness_39 : decode cX12_witness 39 = .ok (.aload_n 0, 1) := by decide +kernel
theorem dX12_witness_40 : decode cX12_witness 40 = .ok (.getfield 146, 3) := by decide +kernel
theorem dX12_witness_43 : decode cX12_witness 43 = .ok (.ireturn, 1) := by decide +kernel
theorem dX12_witness_44 : decode cX12_witness 44 = .ok (.aload_n 0, 1) := by decide +kernel
theorem dX12_witness_45 : decode cX12_witness 45 = .ok (.getfield 19, 3) := by decide +kernel
theorem dX12_witness_48 : decode cX12_witness 48 = .ok (.iload_n 1, 1) := by decide +kernel
theorem dX12_witness_49 : decode cX12_witness 49 = .ok (.aload_n 0, 1) := by decide +kernel
theorem dX12_witness_50 : decode cX12_witness 50 = .ok (.getfield 252, 3) := by decide +kernel
theorem dX12_witness_53 : decode cX12_witness 53 = .ok (.iastore, 1) := by decide +kernel
theorem dX12_witness_54 : decode cX12_witness 54 = .ok (.iconst 0, 1) := by decide +kernel
theorem dX12_witness_55 : decode cX12_witness 55 = .ok (.istore_n 3, 1) := by decide +kernel
theorem dX12_witness_56 : decode cX12_witness 56 = .ok (.iload_n 3, 1) := by decide +kernel
theorem dX12_witness_57 : decode cX12_witness 57 = .ok (.aload_n 0, 1) := by decide +kernel
theorem dX12_witness_58 : decode cX12_witness 58 = .ok (.getfield 252, 3) := by decide +kernel
theorem dX12_witness_61 : decode cX12_witness 61 = .ok (.if_icmp .ge 47, 3) := by decide +kernel
theorem dX12_witness_64 : decode cX12_witness 64 = .ok (.aload_n 0, 1) := by decide +kernel
theorem dX12_witness_65 : decode cX12_witness 65 = .ok (.getfield 22, 3) := by decide +kernel
theorem dX12_witness_68 : decode cX12_witness 68 = .ok (.iload_n 1, 1) := by decide +kernel
theorem dX12_witness_69 : decode cX12_witness 69 = .ok (.iload_n 3, 1) := by decide +kernel
theorem dX12_witness_70 : decode cX12_witness 70 = .ok (.invokestatic 280, 3) := by decide +kernel
theorem dX12_witness_73 : decode cX12_witness 73 = .ok (.aload_n 0, 1) := by decide +kernel
theorem dX12_witness_74 : decode cX12_witness 74 = .ok (.getfield 71, 3) := by decide +kernel
theorem dX12_witness_77 : decode cX12_witness 77 = .ok (.iload_n 3, 1) := by decide +kernel
theorem dX12_witness_78 : decode cX12_witness 78 = .ok (.iaload, 1) := by decide +kernel
theorem dX12_witness_79 : decode cX12_witness 79 = .ok (.bipush 16, 2) := by decide +kernel
theorem dX12_witness_81 : decode cX12_witness 81 = .ok (.idiv, 1) := by decide +kernel
theorem dX12_witness_82 : decode cX12_witness 82 = .ok (.iastore, 1) := by decide +kernel
theorem dX12_witness_83 : decode cX12_witness 83 = .ok (.aload_n 0, 1) := by decide +kernel
theorem dX12_witness_84 : decode cX12_witness 84 = .ok (.getfield 25, 3) := by decide +kernel
theorem dX12_witness_87 : decode cX12_witness 87 = .ok (.iload_n 1, 1) := by decide +kernel
theorem dX12_witness_88 : decode cX12_witness 88 = .ok (.iload_n 3, 1) := by decide +kernel
theorem dX12_witness_89 : decode cX12_witness 89 = .ok (.invokestatic 280, 3) := by decide +kernel
theorem dX12_witness_92 : decode cX12_witness 92 = .ok (.aload_n 0, 1) := by decide +kernel
theorem dX12_witness_93 : decode cX12_witness 93 = .ok (.getfield 71, 3) := by decide +kernel
theorem dX12_witness_96 : decode cX12_witness 96 = .ok (.iload_n 3, 1) := by decide +kernel
theorem dX12_witness_97 : decode cX12_witness 97 = .ok (.iaload, 1) := by decide +kernel
theorem dX12_witness_98 : decode cX12_witness 98 = .ok (.bipush 16, 2) := by decide +kernel
theorem dX12_witness_100 : decode cX12_witness 100 = .ok (.irem, 1) := by decide +kernel
theorem dX12_witness_101 : decode cX12_witness 101 = .ok (.iastore, 1) := by decide +kernel
theorem dX12_witness_102 : decode cX12_witness 102 = .ok (.iinc 3 1, 3) := by decide +kernel
theorem dX12_witness_105 : decode cX12_witness 105 = .ok (.goto (-49), 3) := by decide +kernel
theorem dX12_witness_108 : decode cX12_witness 108 = .ok (.aload_n 0, 1) := by decide +kernel
theorem dX12_witness_109 : decode cX12_witness 109 = .ok (.iload_n 1, 1) := by decide +kernel
theorem dX12_witness_110 : decode cX12_witness 110 = .ok (.invokevirtual 283, 3) := by decide +kernel
theorem dX12_witness_113 : decode cX12_witness 113 = .ok (.aload_n 0, 1) := by decide +kernel
theorem dX12_witness_114 : decode cX12_witness 114 = .ok (.getfield 252, 3) := by decide +kernel
theorem dX12_witness_117 : decode cX12_witness 117 = .ok (.ireturn, 1) := by decide +kernel
theorem dX12_feels_0 : decode cX12_feels 0 = .ok (.aload_n 0, 1) := by decide +kernel
theorem dX12_feels_1 : decode cX12_feels 1 = .ok (.iload_n 1, 1) := by decide +kernel
theorem dX12_feels_2 : decode cX12_feels 2 = .ok (.invokevirtual 286, 3) := by decide +kernel
theorem dX12_feels_5 : decode cX12_feels 5 = .ok (.ifCond .le 7, 3) := by decide +kernel
theorem dX12_feels_8 : decode cX12_feels 8 = .ok (.iconst 1, 1) := by decide +kernel
theorem dX12_feels_9 : decode cX12_feels 9 = .ok (.goto 4, 3) := by decide +kernel
theorem dX12_feels_12 : decode cX12_feels 12 = .ok (.iconst 0, 1) := by decide +kernel
theorem dX12_feels_13 : decode cX12_feels 13 = .ok (.istore 4, 2) := by decide +kernel
theorem dX12_feels_15 : decode cX12_feels 15 = .ok (.aload_n 0, 1) := by decide +kernel
theorem dX12_feels_16 : decode cX12_feels 16 = .ok (.getfield 68, 3) := by decide +kernel
theorem dX12_feels_19 : decode cX12_feels 19 = .ok (.iconst 0, 1) := by decide +kernel
theorem dX12_feels_20 : decode cX12_feels 20 = .ok (.iload_n 1, 1) := by decide +kernel
theorem dX12_feels_21 : decode cX12_feels 21 = .ok (.iastore, 1) := by decide +kernel
theorem dX12_feels_22 : decode cX12_feels 22 = .ok (.aload_n 0, 1) := by decide +kernel
theorem dX12_feels_23 : decode cX12_feels 23 = .ok (.getfield 68, 3) := by decide +kernel
theorem dX12_feels_26 : decode cX12_feels 26 = .ok (.iconst 1, 1) := by decide +kernel
theorem dX12_feels_27 : decode cX12_feels 27 = .ok (.aload_n 0, 1) := by decide +kernel
theorem dX12_feels_28 : decode cX12_feels 28 = .ok (.iload_n 1, 1) := by decide +kernel
theorem dX12_feels_29 : decode cX12_feels 29 = .ok (.invokevirtual 286, 3) := by decide +kernel
theorem dX12_feels_32 : decode cX12_feels 32 = .ok (.iastore, 1) := by decide +kernel
theorem dX12_feels_33 : decode cX12_feels 33 = .ok (.aload_n 0, 1) := by decide +kernel
theorem dX12_feels_34 : decode cX12_feels 34 = .ok (.getfield 68, 3) := by decide +kernel
theorem dX12_feels_37 : decode cX12_feels 37 = .ok (.iconst 2, 1) := by decide +kernel
theorem dX12_feels_38 : decode cX12_feels 38 = .ok (.aload_n 0, 1) := by decide +kernel
theorem dX12_feels_39 : decode cX12_feels 39 = .ok (.getfield 7, 3) := by decide +kernel
theorem dX12_feels_42 : decode cX12_feels 42 = .ok (.iconst 0, 1) := by decide +kernel
theorem dX12_feels_43 : decode cX12_feels 43 = .ok (.iload_n 1, 1) := by decide +kernel
theorem dX12_feels_44 : decode cX12_feels 44 = .ok (.iadd, 1) := by decide +kernel
theorem dX12_feels_45 : decode cX12_feels 45 = .ok (.iaload, 1) := by decide +kernel
theorem dX12_feels_46 : decode cX12_feels 46 = .ok (.iastore, 1) := by decide +kernel
theorem dX12_feels_47 : decode cX12_feels 47 = .ok (.aload_n 0, 1) := by decide +kernel
theorem dX12_feels_48 : decode cX12_feels 48 = .ok (.getfield 68, 3) := by decide +kernel
theorem dX12_feels_51 : decode cX12_feels 51 = .ok (.iconst 3, 1) := by decide +kernel
theorem dX12_feels_52 : decode cX12_feels 52 = .ok (.aload_n 0, 1) := by decide +kernel
theorem dX12_feels_53 : decode cX12_feels 53 = .ok (.getfield 7, 3) := by decide +kernel
theorem dX12_feels_56 : decode cX12_feels 56 = .ok (.bipush 12, 2) := by decide +kernel
theorem dX12_feels_58 : decode cX12_feels 58 = .ok (.iload_n 1, 1) := by decide +kernel
theorem dX12_feels_59 : decode cX12_feels 59 = .ok (.iadd, 1) := by decide +kernel
theorem dX12_feels_60 : decode cX12_feels 60 = .ok (.iaload, 1) := by decide +kernel
theorem dX12_feels_61 : decode cX12_feels 61 = .ok (.iastore, 1) := by decide +kernel
theorem dX12_feels_62 : decode cX12_feels 62 = .ok (.aload_n 0, 1) := by decide +kernel
theorem dX12_feels_63 : decode cX12_feels 63 = .ok (.getfield 68, 3) := by decide +kernel
theorem dX12_feels_66 : decode cX12_feels 66 = .ok (.iconst 4, 1) := by decide +kernel
theorem dX12_feels_67 : decode cX12_feels 67 = .ok (.aload_n 0, 1) := by decide +kernel
theorem dX12_feels_68 : decode cX12_feels 68 = .ok (.getfield 7, 3) := by decide +kernel
theorem dX12_feels_71 : decode cX12_feels 71 = .ok (.bipush 24, 2) := by decide +kernel
theorem dX12_feels_73 : decode cX12_feels 73 = .ok (.iload_n 1, 1) := by decide +kernel
theorem dX12_feels_74 : decode cX12_feels 74 = .ok (.iadd, 1) := by decide +kernel
theorem dX12_feels_75 : decode cX12_feels 75 = .ok (.iaload, 1) := by decide +kernel
theorem dX12_feels_76 : decode cX12_feels 76 = .ok (.iastore, 1) := by decide +kernel
theorem dX12_feels_77 : decode cX12_feels 77 = .ok (.aload_n 0, 1) := by decide +kernel
theorem dX12_feels_78 : decode cX12_feels 78 = .ok (.getfield 68, 3) := by decide +kernel
theorem dX12_feels_81 : decode cX12_feels 81 = .ok (.iconst 5, 1) := by decide +kernel
theorem dX12_feels_82 : decode cX12_feels 82 = .ok (.iload 4, 2) := by decide +kernel
theorem dX12_feels_84 : decode cX12_feels 84 = .ok (.ifCond .eq 24, 3) := by decide +kernel
theorem dX12_feels_87 : decode cX12_feels 87 = .ok (.aload_n 0, 1) := by decide +kernel
theorem dX12_feels_88 : decode cX12_feels 88 = .ok (.getfield 22, 3) := by decide +kernel
theorem dX12_feels_91 : decode cX12_feels 91 = .ok (.iload_n 1, 1) := by decide +kernel
theorem dX12_feels_92 : decode cX12_feels 92 = .ok (.aload_n 0, 1) := by decide +kernel
theorem dX12_feels_93 : decode cX12_feels 93 = .ok (.getfield 7, 3) := by decide +kernel
theorem dX12_feels_96 : decode cX12_feels 96 = .ok (.bipush 60, 2) := by decide +kernel
theorem dX12_feels_98 : decode cX12_feels 98 = .ok (.iload_n 1, 1) := by decide +kernel
theorem dX12_feels_99 : decode cX12_feels 99 = .ok (.iadd, 1) := by decide +kernel
theorem dX12_feels_100 : decode cX12_feels 100 = .ok (.iaload, 1) := by decide +kernel
theorem dX12_feels_101 : decode cX12_feels 101 = .ok (.invokestatic 280, 3) := by decide +kernel
theorem dX12_feels_104 : decode cX12_feels 104 = .ok (.iaload, 1) := by decide +kernel
theorem dX12_feels_105 : decode cX12_feels 105 = .ok (.goto 4, 3) := by decide +kernel
theorem dX12_feels_108 : decode cX12_feels 108 = .ok (.iconst 0, 1) := by decide +kernel
theorem dX12_feels_109 : decode cX12_feels 109 = .ok (.iastore, 1) := by decide +kernel
theorem dX12_feels_110 : decode cX12_feels 110 = .ok (.aload_n 0, 1) := by decide +kernel
theorem dX12_feels_111 : decode cX12_feels 111 = .ok (.getfield 68, 3) := by decide +kernel
theorem dX12_feels_114 : decode cX12_feels 114 = .ok (.bipush 6, 2) := by decide +kernel
theorem dX12_feels_116 : decode cX12_feels 116 = .ok (.iload 4, 2) := by decide +kernel
theorem dX12_feels_118 : decode cX12_feels 118 = .ok (.ifCond .eq 24, 3) := by decide +kernel
theorem dX12_feels_121 : decode cX12_feels 121 = .ok (.aload_n 0, 1) := by decide +kernel
theorem dX12_feels_122 : decode cX12_feels 122 = .ok (.getfield 25, 3) := by decide +kernel
theorem dX12_feels_125 : decode cX12_feels 125 = .ok (.iload_n 1, 1) := by decide +kernel
theorem dX12_feels_126 : decode cX12_feels 126 = .ok (.aload_n 0, 1) := by decide +kernel
theorem dX12_feels_127 : decode cX12_feels 127 = .ok (.getfield 7, 3) := by decide +kernel
theorem dX12_feels_130 : decode cX12_feels 130 = .ok (.bipush 60, 2) := by decide +kernel
theorem dX12_feels_132 : decode cX12_feels 132 = .ok (.iload_n 1, 1) := by decide +kernel
theorem dX12_feels_133 : decode cX12_feels 133 = .ok (.iadd, 1) := by decide +kernel
theorem dX12_feels_134 : decode cX12_feels 134 = .ok (.iaload, 1) := by decide +kernel
theorem dX12_feels_135 : decode cX12_feels 135 = .ok (.invokestatic 280, 3) := by decide +kernel
theorem dX12_feels_138 : decode cX12_feels 138 = .ok (.iaload, 1) := by decide +kernel
theorem dX12_feels_139 : decode cX12_feels 139 = .ok (.goto 4, 3) := by decide +kernel
theorem dX12_feels_142 : decode cX12_feels 142 = .ok (.iconst 0, 1) := by decide +kernel
theorem dX12_feels_143 : decode cX12_feels 143 = .ok (.iastore, 1) := by decide +kernel
theorem dX12_feels_144 : decode cX12_feels 144 = .ok (.aload_n 0, 1) := by decide +kernel
theorem dX12_feels_145 : decode cX12_feels 145 = .ok (.getfield 68, 3) := by decide +kernel
theorem dX12_feels_148 : decode cX12_feels 148 = .ok (.bipush 7, 2) := by decide +kernel
theorem dX12_feels_150 : decode cX12_feels 150 = .ok (.iload_n 2, 1) := by decide +kernel
theorem dX12_feels_151 : decode cX12_feels 151 = .ok (.iastore, 1) := by decide +kernel
theorem dX12_feels_152 : decode cX12_feels 152 = .ok (.aload_n 0, 1) := by decide +kernel
theorem dX12_feels_153 : decode cX12_feels 153 = .ok (.getfield 68, 3) := by decide +kernel
theorem dX12_feels_156 : decode cX12_feels 156 = .ok (.bipush 8, 2) := by decide +kernel
theorem dX12_feels_158 : decode cX12_feels 158 = .ok (.iload_n 3, 1) := by decide +kernel
theorem dX12_feels_159 : decode cX12_feels 159 = .ok (.iastore, 1) := by decide +kernel
theorem dX12_feels_160 : decode cX12_feels 160 = .ok (.return_, 1) := by decide +kernel
theorem dX12_layerComes_0 : decode cX12_layerComes 0 = .ok (.aload_n 0, 1) := by decide +kernel
theorem dX12_layerComes_1 : decode cX12_layerComes 1 = .ok (.iload_n 1, 1) := by decide +kernel
theorem dX12_layerComes_2 : decode cX12_layerComes 2 = .ok (.invokevirtual 286, 3) := by decide +kernel
theorem dX12_layerComes_5 : decode cX12_layerComes 5 = .ok (.ifCond .ne 4, 3) := by decide +kernel
theorem dX12_layerComes_8 : decode cX12_layerComes 8 = .ok (.return_, 1) := by decide +kernel
theorem dX12_layerComes_9 : decode cX12_layerComes 9 = .ok (.aload_n 0, 1) := by decide +kernel
theorem dX12_layerComes_10 : decode cX12_layerComes 10 = .ok (.aload_n 0, 1) := by decide +kernel
theorem dX12_layerComes_11 : decode cX12_layerComes 11 = .ok (.getfield 22, 3) := by decide +kernel
theorem dX12_layerComes_14 : decode cX12_layerComes 14 = .ok (.iload_n 1, 1) := by decide +kernel
theorem dX12_layerComes_15 : decode cX12_layerComes 15 = .ok (.aload_n 0, 1) := by decide +kernel
theorem dX12_layerComes_16 : decode cX12_layerComes 16 = .ok (.getfield 7, 3) := by decide +kernel
theorem dX12_layerComes_19 : decode cX12_layerComes 19 = .ok (.bipush 60, 2) := by decide +kernel
theorem dX12_layerComes_21 : decode cX12_layerComes 21 = .ok (.iload_n 1, 1) := by decide +kernel
theorem dX12_layerComes_22 : decode cX12_layerComes 22 = .ok (.iadd, 1) := by decide +kernel
theorem dX12_layerComes_23 : decode cX12_layerComes 23 = .ok (.iaload, 1) := by decide +kernel
theorem dX12_layerComes_24 : decode cX12_layerComes 24 = .ok (.invokestatic 280, 3) := by decide +kernel
theorem dX12_layerComes_27 : decode cX12_layerComes 27 = .ok (.iaload, 1) := by decide +kernel
theorem dX12_layerComes_28 : decode cX12_layerComes 28 = .ok (.putfield 289, 3) := by decide +kernel
theorem dX12_layerComes_31 : decode cX12_layerComes 31 = .ok (.aload_n 0, 1) := by decide +kernel
theorem dX12_layerComes_32 : decode cX12_layerComes 32 = .ok (.getfield 7, 3) := by decide +kernel
theorem dX12_layerComes_35 : decode cX12_layerComes 35 = .ok (.bipush 60, 2) := by decide +kernel
theorem dX12_layerComes_37 : decode cX12_layerComes 37 = .ok (.iload_n 1, 1) := by decide +kernel
theorem dX12_layerComes_38 : decode cX12_layerComes 38 = .ok (.iadd, 1) := by decide +kernel
theorem dX12_layerComes_39 : decode cX12_layerComes 39 = .ok (.aload_n 0, 1) := by decide +kernel
theorem dX12_layerComes_40 : decode cX12_layerComes 40 = .ok (.getfield 7, 3) := by decide +kernel
theorem dX12_layerComes_43 : decode cX12_layerComes 43 = .ok (.bipush 60, 2) := by decide +kernel
theorem dX12_layerComes_45 : decode cX12_layerComes 45 = .ok (.iload_n 1, 1) := by decide +kernel
theorem dX12_layerComes_46 : decode cX12_layerComes 46 = .ok (.iadd, 1) := by decide +kernel
theorem dX12_layerComes_47 : decode cX12_layerComes 47 = .ok (.iaload, 1) := by decide +kernel
theorem dX12_layerComes_48 : decode cX12_layerComes 48 = .ok (.iconst 1, 1) := by decide +kernel
theorem dX12_layerComes_49 : decode cX12_layerComes 49 = .ok (.iadd, 1) := by decide +kernel
theorem dX12_layerComes_50 : decode cX12_layerComes 50 = .ok (.iastore, 1) := by decide +kernel
theorem dX12_layerComes_51 : decode cX12_layerComes 51 = .ok (.aload_n 0, 1) := by decide +kernel
theorem dX12_layerComes_52 : decode cX12_layerComes 52 = .ok (.getfield 7, 3) := by decide +kernel
theorem dX12_layerComes_55 : decode cX12_layerComes 55 = .ok (.bipush 73, 2) := by decide +kernel
theorem dX12_layerComes_57 : decode cX12_layerComes 57 = .ok (.sipush 9999, 3) := by decide +kernel
theorem dX12_layerComes_60 : decode cX12_layerComes 60 = .ok (.aload_n 0, 1) := by decide +kernel
theorem dX12_layerComes_61 : decode cX12_layerComes 61 = .ok (.getfield 7, 3) := by decide +kernel
theorem dX12_layerComes_64 : decode cX12_layerComes 64 = .ok (.bipush 73, 2) := by decide +kernel
theorem dX12_layerComes_66 : decode cX12_layerComes 66 = .ok (.iaload, 1) := by decide +kernel
theorem dX12_layerComes_67 : decode cX12_layerComes 67 = .ok (.iconst 1, 1) := by decide +kernel
theorem dX12_layerComes_68 : decode cX12_layerComes 68 = .ok (.iadd, 1) := by decide +kernel
theorem dX12_layerComes_69 : decode cX12_layerComes 69 = .ok (.invokestatic 292, 3) := by decide +kernel
theorem dX12_layerComes_72 : decode cX12_layerComes 72 = .ok (.iastore, 1) := by decide +kernel
theorem dX12_layerComes_73 : decode cX12_layerComes 73 = .ok (.aload_n 0, 1) := by decide +kernel
theorem dX12_layerComes_74 : decode cX12_layerComes 74 = .ok (.aload_n 0, 1) := by decide +kernel
theorem dX12_layerComes_75 : decode cX12_layerComes 75 = .ok (.getfield 295, 3) := by decide +kernel
theorem dX12_layerComes_78 : decode cX12_layerComes 78 = .ok (.iconst 1, 1) := by decide +kernel
theorem dX12_layerComes_79 : decode cX12_layerComes 79 = .ok (.iadd, 1) := by decide +kernel
theorem dX12_layerComes_80 : decode cX12_layerComes 80 = .ok (.putfield 295, 3) := by decide +kernel
theorem dX12_layerComes_83 : decode cX12_layerComes 83 = .ok (.return_, 1) := by decide +kernel
theorem dX12_corkLess_0 : decode cX12_corkLess 0 = .ok (.aload_n 0, 1) := by decide +kernel
theorem dX12_corkLess_1 : decode cX12_corkLess 1 = .ok (.getfield 7, 3) := by decide +kernel
theorem dX12_corkLess_4 : decode cX12_corkLess 4 = .ok (.bipush 12, 2) := by decide +kernel
theorem dX12_corkLess_6 : decode cX12_corkLess 6 = .ok (.iload_n 1, 1) := by decide +kernel
theorem dX12_corkLess_7 : decode cX12_corkLess 7 = .ok (.iadd, 1) := by decide +kernel
theorem dX12_corkLess_8 : decode cX12_corkLess 8 = .ok (.iconst 0, 1) := by decide +kernel
theorem dX12_corkLess_9 : decode cX12_corkLess 9 = .ok (.aload_n 0, 1) := by decide +kernel
theorem dX12_corkLess_10 : decode cX12_corkLess 10 = .ok (.getfield 7, 3) := by decide +kernel
theorem dX12_corkLess_13 : decode cX12_corkLess 13 = .ok (.bipush 12, 2) := by decide +kernel
theorem dX12_corkLess_15 : decode cX12_corkLess 15 = .ok (.iload_n 1, 1) := by decide +kernel
theorem dX12_corkLess_16 : decode cX12_corkLess 16 = .ok (.iadd, 1) := by decide +kernel
theorem dX12_corkLess_17 : decode cX12_corkLess 17 = .ok (.iaload, 1) := by decide +kernel
theorem dX12_corkLess_18 : decode cX12_corkLess 18 = .ok (.iload_n 2, 1) := by decide +kernel
theorem dX12_corkLess_19 : decode cX12_corkLess 19 = .ok (.isub, 1) := by decide +kernel
theorem dX12_corkLess_20 : decode cX12_corkLess 20 = .ok (.invokestatic 298, 3) := by decide +kernel
theorem dX12_corkLess_23 : decode cX12_corkLess 23 = .ok (.iastore, 1) := by decide +kernel
theorem dX12_corkLess_24 : decode cX12_corkLess 24 = .ok (.aload_n 0, 1) := by decide +kernel
theorem dX12_corkLess_25 : decode cX12_corkLess 25 = .ok (.getfield 7, 3) := by decide +kernel
theorem dX12_corkLess_28 : decode cX12_corkLess 28 = .ok (.bipush 12, 2) := by decide +kernel
theorem dX12_corkLess_30 : decode cX12_corkLess 30 = .ok (.iload_n 1, 1) := by decide +kernel
theorem dX12_corkLess_31 : decode cX12_corkLess 31 = .ok (.iadd, 1) := by decide +kernel
theorem dX12_corkLess_32 : decode cX12_corkLess 32 = .ok (.iaload, 1) := by decide +kernel
theorem dX12_corkLess_33 : decode cX12_corkLess 33 = .ok (.ifCond .ne 13, 3) := by decide +kernel
theorem dX12_corkLess_36 : decode cX12_corkLess 36 = .ok (.aload_n 0, 1) := by decide +kernel
theorem dX12_corkLess_37 : decode cX12_corkLess 37 = .ok (.getfield 7, 3) := by decide +kernel
theorem dX12_corkLess_40 : decode cX12_corkLess 40 = .ok (.bipush 48, 2) := by decide +kernel
theorem dX12_corkLess_42 : decode cX12_corkLess 42 = .ok (.iload_n 1, 1) := by decide +kernel
theorem dX12_corkLess_43 : decode cX12_corkLess 43 = .ok (.iadd, 1) := by decide +kernel
theorem dX12_corkLess_44 : decode cX12_corkLess 44 = .ok (.iconst 1, 1) := by decide +kernel
theorem dX12_corkLess_45 : decode cX12_corkLess 45 = .ok (.iastore, 1) := by decide +kernel
theorem dX12_corkLess_46 : decode cX12_corkLess 46 = .ok (.return_, 1) := by decide +kernel
theorem dX12_turns0_0 : decode cX12_turns0 0 = .ok (.aload_n 0, 1) := by decide +kernel
theorem dX12_turns0_1 : decode cX12_turns0 1 = .ok (.getfield 7, 3) := by decide +kernel
theorem dX12_turns0_4 : decode cX12_turns0 4 = .ok (.bipush 24, 2) := by decide +kernel
theorem dX12_turns0_6 : decode cX12_turns0 6 = .ok (.iload_n 1, 1) := by decide +kernel
theorem dX12_turns0_7 : decode cX12_turns0 7 = .ok (.iadd, 1) := by decide +kernel
theorem dX12_turns0_8 : decode cX12_turns0 8 = .ok (.bipush 9, 2) := by decide +kernel
theorem dX12_turns0_10 : decode cX12_turns0 10 = .ok (.aload_n 0, 1) := by decide +kernel
theorem dX12_turns0_11 : decode cX12_turns0 11 = .ok (.getfield 7, 3) := by decide +kernel
theorem dX12_turns0_14 : decode cX12_turns0 14 = .ok (.bipush 24, 2) := by decide +kernel
theorem dX12_turns0_16 : decode cX12_turns0 16 = .ok (.iload_n 1, 1) := by decide +kernel
theorem dX12_turns0_17 : decode cX12_turns0 17 = .ok (.iadd, 1) := by decide +kernel
theorem dX12_turns0_18 : decode cX12_turns0 18 = .ok (.iaload, 1) := by decide +kernel
theorem dX12_turns0_19 : decode cX12_turns0 19 = .ok (.iconst 1, 1) := by decide +kernel
theorem dX12_turns0_20 : decode cX12_turns0 20 = .ok (.iadd, 1) := by decide +kernel
theorem dX12_turns0_21 : decode cX12_turns0 21 = .ok (.invokestatic 292, 3) := by decide +kernel
theorem dX12_turns0_24 : decode cX12_turns0 24 = .ok (.iastore, 1) := by decide +kernel
theorem dX12_turns0_25 : decode cX12_turns0 25 = .ok (.aload_n 0, 1) := by decide +kernel
theorem dX12_turns0_26 : decode cX12_turns0 26 = .ok (.getfield 7, 3) := by decide +kernel
theorem dX12_turns0_29 : decode cX12_turns0 29 = .ok (.bipush 24, 2) := by decide +kernel
theorem dX12_turns0_31 : decode cX12_turns0 31 = .ok (.iload_n 1, 1) := by decide +kernel
theorem dX12_turns0_32 : decode cX12_turns0 32 = .ok (.iadd, 1) := by decide +kernel
theorem dX12_turns0_33 : decode cX12_turns0 33 = .ok (.iaload, 1) := by decide +kernel
theorem dX12_turns0_34 : decode cX12_turns0 34 = .ok (.iconst 5, 1) := by decide +kernel
theorem dX12_turns0_35 : decode cX12_turns0 35 = .ok (.if_icmp .le 9, 3) := by decide +kernel
theorem dX12_turns0_38 : decode cX12_turns0 38 = .ok (.aload_n 0, 1) := by decide +kernel
theorem dX12_turns0_39 : decode cX12_turns0 39 = .ok (.iload_n 1, 1) := by decide +kernel
theorem dX12_turns0_40 : decode cX12_turns0 40 = .ok (.iconst 1, 1) := by decide +kernel
theorem dX12_turns0_41 : decode cX12_turns0 41 = .ok (.invokevirtual 301, 3) := by decide +kernel
theorem dX12_turns0_44 : decode cX12_turns0 44 = .ok (.return_, 1) := by decide +kernel
theorem dX12_unstops_0 : decode cX12_unstops 0 = .ok (.aload_n 0, 1) := by decide +kernel
theorem dX12_unstops_1 : decode cX12_unstops 1 = .ok (.getfield 7, 3) := by decide +kernel
theorem dX12_unstops_4 : decode cX12_unstops 4 = .ok (.bipush 36, 2) := by decide +kernel
theorem dX12_unstops_6 : decode cX12_unstops 6 = .ok (.iload_n 1, 1) := by decide +kernel
theorem dX12_unstops_7 : decode cX12_unstops 7 = .ok (.iadd, 1) := by decide +kernel
theorem dX12_unstops_8 : decode cX12_unstops 8 = .ok (.iconst 1, 1) := by decide +kernel
theorem dX12_unstops_9 : decode cX12_unstops 9 = .ok (.iastore, 1) := by decide +kernel
theorem dX12_unstops_10 : decode cX12_unstops 10 = .ok (.aload_n 0, 1) := by decide +kernel
theorem dX12_unstops_11 : decode cX12_unstops 11 = .ok (.getfield 7, 3) := by decide +kernel
theorem dX12_unstops_14 : decode cX12_unstops 14 = .ok (.bipush 24, 2) := by decide +kernel
theorem dX12_unstops_16 : decode cX12_unstops 16 = .ok (.iload_n 1, 1) := by decide +kernel
theorem dX12_unstops_17 : decode cX12_unstops 17 = .ok (.iadd, 1) := by decide +kernel
theorem dX12_unstops_18 : decode cX12_unstops 18 = .ok (.iconst 0, 1) := by decide +kernel
theorem dX12_unstops_19 : decode cX12_unstops 19 = .ok (.iastore, 1) := by decide +kernel
theorem dX12_unstops_20 : decode cX12_unstops 20 = .ok (.return_, 1) := by decide +kernel
theorem dX12_pulls_0 : decode cX12_pulls 0 = .ok (.aload_n 0, 1) := by decide +kernel
theorem dX12_pulls_1 : decode cX12_pulls 1 = .ok (.getfield 7, 3) := by decide +kernel
theorem dX12_pulls_4 : decode cX12_pulls 4 = .ok (.bipush 24, 2) := by decide +kernel
theorem dX12_pulls_6 : decode cX12_pulls 6 = .ok (.iload_n 1, 1) := by decide +kernel
theorem dX12_pulls_7 : decode cX12_pulls 7 = .ok (.iadd, 1) := by decide +kernel
theorem dX12_pulls_8 : decode cX12_pulls 8 = .ok (.iaload, 1) := by decide +kernel
theorem dX12_pulls_9 : decode cX12_pulls 9 = .ok (.aload_n 0, 1) := by decide +kernel
theorem dX12_pulls_10 : decode cX12_pulls 10 = .ok (.bipush 103, 2) := by decide +kernel
theorem dX12_pulls_12 : decode cX12_pulls 12 = .ok (.bipush 9, 2) := by decide +kernel
theorem dX12_pulls_14 : decode cX12_pulls 14 = .ok (.invokevirtual 304, 3) := by decide +kernel
theorem dX12_pulls_17 : decode cX12_pulls 17 = .ok (.if_icmp .lt 16, 3) := by decide +kernel
theorem dX12_pulls_20 : decode cX12_pulls 20 = .ok (.aload_n 0, 1) := by decide +kernel
theorem dX12_pulls_21 : decode cX12_pulls 21 = .ok (.bipush 120, 2) := by decide +kernel
theorem dX12_pulls_23 : decode cX12_pulls 23 = .ok (.invokevirtual 307, 3) := by decide +kernel
theorem dX12_pulls_26 : decode cX12_pulls 26 = .ok (.ifCond .ne 7, 3) := by decide +kernel
theorem dX12_pulls_29 : decode cX12_pulls 29 = .ok (.iconst 1, 1) := by decide +kernel
theorem dX12_pulls_30 : decode cX12_pulls 30 = .ok (.goto 4, 3) := by decide +kernel
theorem dX12_pulls_33 : decode cX12_pulls 33 = .ok (.iconst 0, 1) := by decide +kernel
theorem dX12_pulls_34 : decode cX12_pulls 34 = .ok (.istore_n 2, 1) := by decide +kernel
theorem dX12_pulls_35 : decode cX12_pulls 35 = .ok (.iload_n 2, 1) := by decide +kernel
theorem dX12_pulls_36 : decode cX12_pulls 36 = .ok (.ifCond .eq 11, 3) := by decide +kernel
theorem dX12_pulls_39 : decode cX12_pulls 39 = .ok (.aload_n 0, 1) := by decide +kernel
theorem dX12_pulls_40 : decode cX12_pulls 40 = .ok (.iload_n 1, 1) := by decide +kernel
theorem dX12_pulls_41 : decode cX12_pulls 41 = .ok (.invokevirtual 310, 3) := by decide +kernel
theorem dX12_pulls_44 : decode cX12_pulls 44 = .ok (.goto 9, 3) := by decide +kernel
theorem dX12_pulls_47 : decode cX12_pulls 47 = .ok (.aload_n 0, 1) := by decide +kernel
theorem dX12_pulls_48 : decode cX12_pulls 48 = .ok (.iload_n 1, 1) := by decide +kernel
theorem dX12_pulls_49 : decode cX12_pulls 49 = .ok (.iconst 2, 1) := by decide +kernel
theorem dX12_pulls_50 : decode cX12_pulls 50 = .ok (.invokevirtual 301, 3) := by decide +kernel
theorem dX12_pulls_53 : decode cX12_pulls 53 = .ok (.return_, 1) := by decide +kernel
theorem dX12_shakes_0 : decode cX12_shakes 0 = .ok (.aload_n 0, 1) := by decide +kernel
theorem dX12_shakes_1 : decode cX12_shakes 1 = .ok (.getfield 7, 3) := by decide +kernel
theorem dX12_shakes_4 : decode cX12_shakes 4 = .ok (.iconst 0, 1) := by decide +kernel
theorem dX12_shakes_5 : decode cX12_shakes 5 = .ok (.iload_n 1, 1) := by decide +kernel
theorem dX12_shakes_6 : decode cX12_shakes 6 = .ok (.iadd, 1) := by decide +kernel
theorem dX12_shakes_7 : decode cX12_shakes 7 = .ok (.bipush 19, 2) := by decide +kernel
theorem dX12_shakes_9 : decode cX12_shakes 9 = .ok (.aload_n 0, 1) := by decide +kernel
theorem dX12_shakes_10 : decode cX12_shakes 10 = .ok (.getfield 7, 3) := by decide +kernel
theorem dX12_shakes_13 : decode cX12_shakes 13 = .ok (.iconst 0, 1) := by decide +kernel
theorem dX12_shakes_14 : decode cX12_shakes 14 = .ok (.iload_n 1, 1) := by decide +kernel
theorem dX12_shakes_15 : decode cX12_shakes 15 = .ok (.iadd, 1) := by decide +kernel
theorem dX12_shakes_16 : decode cX12_shakes 16 = .ok (.iaload, 1) := by decide +kernel
theorem dX12_shakes_17 : decode cX12_shakes 17 = .ok (.aload_n 0, 1) := by decide +kernel
theorem dX12_shakes_18 : decode cX12_shakes 18 = .ok (.bipush 102, 2) := by decide +kernel
theorem dX12_shakes_20 : decode cX12_shakes 20 = .ok (.bipush 19, 2) := by decide +kernel
theorem dX12_shakes_22 : decode cX12_shakes 22 = .ok (.invokevirtual 304, 3) := by decide +kernel
theorem dX12_shakes_25 : decode cX12_shakes 25 = .ok (.iadd, 1) := by decide +kernel
theorem dX12_shakes_26 : decode cX12_shakes 26 = .ok (.invokestatic 292, 3) := by decide +kernel
theorem dX12_shakes_29 : decode cX12_shakes 29 = .ok (.iastore, 1) := by decide +kernel
theorem dX12_shakes_30 : decode cX12_shakes 30 = .ok (.aload_n 0, 1) := by decide +kernel
theorem dX12_shakes_31 : decode cX12_shakes 31 = .ok (.getfield 7, 3) := by decide +kernel
theorem dX12_shakes_34 : decode cX12_shakes 34 = .ok (.bipush 36, 2) := by decide +kernel
theorem dX12_shakes_36 : decode cX12_shakes 36 = .ok (.iload_n 1, 1) := by decide +kernel
theorem dX12_shakes_37 : decode cX12_shakes 37 = .ok (.iadd, 1) := by decide +kernel
theorem dX12_shakes_38 : decode cX12_shakes 38 = .ok (.iaload, 1) := by decide +kernel
theorem dX12_shakes_39 : decode cX12_shakes 39 = .ok (.iconst 1, 1) := by decide +kernel
theorem dX12_shakes_40 : decode cX12_shakes 40 = .ok (.if_icmp .eq 16, 3) := by decide +kernel
theorem dX12_shakes_43 : decode cX12_shakes 43 = .ok (.aload_n 0, 1) := by decide +kernel
theorem dX12_shakes_44 : decode cX12_shakes 44 = .ok (.getfield 7, 3) := by decide +kernel
theorem dX12_shakes_47 : decode cX12_shakes 47 = .ok (.iconst 0, 1) := by decide +kernel
theorem dX12_shakes_48 : decode cX12_shakes 48 = .ok (.iload_n 1, 1) := by decide +kernel
theorem dX12_shakes_49 : decode cX12_shakes 49 = .ok (.iadd, 1) := by decide +kernel
theorem dX12_shakes_50 : decode cX12_shakes 50 = .ok (.iaload, 1) := by decide +kernel
theorem dX12_shakes_51 : decode cX12_shakes 51 = .ok (.bipush 19, 2) := by decide +kernel
theorem dX12_shakes_53 : decode cX12_shakes 53 = .ok (.if_icmp .ge 4, 3) := by decide +kernel
theorem dX12_shakes_56 : decode cX12_shakes 56 = .ok (.return_, 1) := by decide +kernel
theorem dX12_shakes_57 : decode cX12_shakes 57 = .ok (.aload_n 0, 1) := by decide +kernel
theorem dX12_shakes_58 : decode cX12_shakes 58 = .ok (.iload_n 1, 1) := by decide +kernel
theorem dX12_shakes_59 : decode cX12_shakes 59 = .ok (.invokevirtual 310, 3) := by decide +kernel
theorem dX12_shakes_62 : decode cX12_shakes 62 = .ok (.aload_n 0, 1) := by decide +kernel
theorem dX12_shakes_63 : decode cX12_shakes 63 = .ok (.iload_n 1, 1) := by decide +kernel
theorem dX12_shakes_64 : decode cX12_shakes 64 = .ok (.invokevirtual 313, 3) := by decide +kernel
theorem dX12_shakes_67 : decode cX12_shakes 67 = .ok (.return_, 1) := by decide +kernel
theorem dX12_pours_0 : decode cX12_pours 0 = .ok (.aload_n 0, 1) := by decide +kernel
theorem dX12_pours_1 : decode cX12_pours 1 = .ok (.bipush 100, 2) := by decide +kernel
theorem dX12_pours_3 : decode cX12_pours 3 = .ok (.bipush 9, 2) := by decide +kernel
theorem dX12_pours_5 : decode cX12_pours 5 = .ok (.invokevirtual 304, 3) := by decide +kernel
theorem dX12_pours_8 : decode cX12_pours 8 = .ok (.aload_n 0, 1) := by decide +kernel
theorem dX12_pours_9 : decode cX12_pours 9 = .ok (.iload_n 1, 1) := by decide +kernel
theorem dX12_pours_10 : decode cX12_pours 10 = .ok (.invokevirtual 286, 3) := by decide +kernel
theorem dX12_pours_13 : decode cX12_pours 13 = .ok (.invokestatic 292, 3) := by decide +kernel
theorem dX12_pours_16 : decode cX12_pours 16 = .ok (.istore_n 2, 1) := by decide +kernel
theorem dX12_pours_17 : decode cX12_pours 17 = .ok (.iconst 0, 1) := by decide +kernel
theorem dX12_pours_18 : decode cX12_pours 18 = .ok (.istore_n 3, 1) := by decide +kernel
theorem dX12_pours_19 : decode cX12_pours 19 = .ok (.iload_n 3, 1) := by decide +kernel
theorem dX12_pours_20 : decode cX12_pours 20 = .ok (.iload_n 2, 1) := by decide +kernel
theorem dX12_pours_21 : decode cX12_pours 21 = .ok (.if_icmp .ge 14, 3) := by decide +kernel
theorem dX12_pours_24 : decode cX12_pours 24 = .ok (.aload_n 0, 1) := by decide +kernel
theorem dX12_pours_25 : decode cX12_pours 25 = .ok (.iload_n 1, 1) := by decide +kernel
theorem dX12_pours_26 : decode cX12_pours 26 = .ok (.invokevirtual 313, 3) := by decide +kernel
theorem dX12_pours_29 : decode cX12_pours 29 = .ok (.iinc 3 1, 3) := by decide +kernel
theorem dX12_pours_32 : decode cX12_pours 32 = .ok (.goto (-13), 3) := by decide +kernel
theorem dX12_pours_35 : decode cX12_pours 35 = .ok (.aload_n 0, 1) := by decide +kernel
theorem dX12_pours_36 : decode cX12_pours 36 = .ok (.getfield 7, 3) := by decide +kernel
theorem dX12_pours_39 : decode cX12_pours 39 = .ok (.iconst 0, 1) := by decide +kernel
theorem dX12_pours_40 : decode cX12_pours 40 = .ok (.iload_n 1, 1) := by decide +kernel
theorem dX12_pours_41 : decode cX12_pours 41 = .ok (.iadd, 1) := by decide +kernel
theorem dX12_pours_42 : decode cX12_pours 42 = .ok (.iconst 0, 1) := by decide +kernel
theorem dX12_pours_43 : decode cX12_pours 43 = .ok (.aload_n 0, 1) := by decide +kernel
theorem dX12_pours_44 : decode cX12_pours 44 = .ok (.getfield 7, 3) := by decide +kernel
theorem dX12_pours_47 : decode cX12_pours 47 = .ok (.iconst 0, 1) := by decide +kernel
theorem dX12_pours_48 : decode cX12_pours 48 = .ok (.iload_n 1, 1) := by decide +kernel
theorem dX12_pours_49 : decode cX12_pours 49 = .ok (.iadd, 1) := by decide +kernel
theorem dX12_pours_50 : decode cX12_pours 50 = .ok (.iaload, 1) := by decide +kernel
theorem dX12_pours_51 : decode cX12_pours 51 = .ok (.iload_n 2, 1) := by decide +kernel
theorem dX12_pours_52 : decode cX12_pours 52 = .ok (.isub, 1) := by decide +kernel
theorem dX12_pours_53 : decode cX12_pours 53 = .ok (.invokestatic 298, 3) := by decide +kernel
theorem dX12_pours_56 : decode cX12_pours 56 = .ok (.iastore, 1) := by decide +kernel
theorem dX12_pours_57 : decode cX12_pours 57 = .ok (.return_, 1) := by decide +kernel
theorem dX12_does_0 : decode cX12_does 0 = .ok (.aload_n 0, 1) := by decide +kernel
theorem dX12_does_1 : decode cX12_does 1 = .ok (.getfield 7, 3) := by decide +kernel
theorem dX12_does_4 : decode cX12_does 4 = .ok (.bipush 36, 2) := by decide +kernel
theorem dX12_does_6 : decode cX12_does 6 = .ok (.iload_n 1, 1) := by decide +kernel
theorem dX12_does_7 : decode cX12_does 7 = .ok (.iadd, 1) := by decide +kernel
theorem dX12_does_8 : decode cX12_does 8 = .ok (.iaload, 1) := by decide +kernel
theorem dX12_does_9 : decode cX12_does 9 = .ok (.ifCond .ne 7, 3) := by decide +kernel
theorem dX12_does_12 : decode cX12_does 12 = .ok (.iconst 1, 1) := by decide +kernel
theorem dX12_does_13 : decode cX12_does 13 = .ok (.goto 4, 3) := by decide +kernel
theorem dX12_does_16 : decode cX12_does 16 = .ok (.iconst 0, 1) := by decide +kernel
theorem dX12_does_17 : decode cX12_does 17 = .ok (.istore 4, 2) := by decide +kernel
theorem dX12_does_19 : decode cX12_does 19 = .ok (.iload_n 2, 1) := by decide +kernel
theorem dX12_does_20 : decode cX12_does 20 = .ok (.tableswitch 140 0 4 #[36, 82, 93, 99, 129], 36) := by decide +kernel
theorem dX12_does_56 : decode cX12_does 56 = .ok (.iload 4, 2) := by decide +kernel
theorem dX12_does_58 : decode cX12_does 58 = .ok (.ifCond .eq 17, 3) := by decide +kernel
theorem dX12_does_61 : decode cX12_does 61 = .ok (.iload_n 3, 1) := by decide +kernel
theorem dX12_does_62 : decode cX12_does 62 = .ok (.ifCond .eq 14, 3) := by decide +kernel
theorem dX12_does_65 : decode cX12_does 65 = .ok (.aload_n 0, 1) := by decide +kernel
theorem dX12_does_66 : decode cX12_does 66 = .ok (.getfield 7, 3) := by decide +kernel
theorem dX12_does_69 : decode cX12_does 69 = .ok (.bipush 72, 2) := by decide +kernel
theorem dX12_does_71 : decode cX12_does 71 = .ok (.iaload, 1) := by decide +kernel
theorem dX12_does_72 : decode cX12_does 72 = .ok (.ifCond .ne 4, 3) := by decide +kernel
theorem dX12_does_75 : decode cX12_does 75 = .ok (.return_, 1) := by decide +kernel
theorem dX12_does_76 : decode cX12_does 76 = .ok (.iload_n 3, 1) := by decide +kernel
theorem dX12_does_77 : decode cX12_does 77 = .ok (.ifCond .eq 19, 3) := by decide +kernel
theorem dX12_does_80 : decode cX12_does 80 = .ok (.aload_n 0, 1) := by decide +kernel
theorem dX12_does_81 : decode cX12_does 81 = .ok (.getfield 7, 3) := by decide +kernel
theorem dX12_does_84 : decode cX12_does 84 = .ok (.bipush 72, 2) := by decide +kernel
theorem dX12_does_86 : decode cX12_does 86 = .ok (.aload_n 0, 1) := by decide +kernel
theorem dX12_does_87 : decode cX12_does 87 = .ok (.getfield 7, 3) := by decide +kernel
theorem dX12_does_90 : decode cX12_does 90 = .ok (.bipush 72, 2) := by decide +kernel
theorem dX12_does_92 : decode cX12_does 92 = .ok (.iaload, 1) := by decide +kernel
theorem dX12_does_93 : decode cX12_does 93 = .ok (.iconst 1, 1) := by decide +kernel
theorem dX12_does_94 : decode cX12_does 94 = .ok (.isub, 1) := by decide +kernel
theorem dX12_does_95 : decode cX12_does 95 = .ok (.iastore, 1) := by decide +kernel
theorem dX12_does_96 : decode cX12_does 96 = .ok (.aload_n 0, 1) := by decide +kernel
theorem dX12_does_97 : decode cX12_does 97 = .ok (.iload_n 1, 1) := by decide +kernel
theorem dX12_does_98 : decode cX12_does 98 = .ok (.invokevirtual 316, 3) := by decide +kernel
theorem dX12_does_101 : decode cX12_does 101 = .ok (.return_, 1) := by decide +kernel
theorem dX12_does_102 : decode cX12_does 102 = .ok (.iload 4, 2) := by decide +kernel
theorem dX12_does_104 : decode cX12_does 104 = .ok (.ifCond .eq 8, 3) := by decide +kernel
theorem dX12_does_107 : decode cX12_does 107 = .ok (.aload_n 0, 1) := by decide +kernel
theorem dX12_does_108 : decode cX12_does 108 = .ok (.iload_n 1, 1) := by decide +kernel
theorem dX12_does_109 : decode cX12_does 109 = .ok (.invokevirtual 319, 3) := by decide +kernel
theorem dX12_does_112 : decode cX12_does 112 = .ok (.return_, 1) := by decide +kernel
theorem dX12_does_113 : decode cX12_does 113 = .ok (.aload_n 0, 1) := by decide +kernel
theorem dX12_does_114 : decode cX12_does 114 = .ok (.iload_n 1, 1) := by decide +kernel
theorem dX12_does_115 : decode cX12_does 115 = .ok (.invokevirtual 322, 3) := by decide +kernel
theorem dX12_does_118 : decode cX12_does 118 = .ok (.return_, 1) := by decide +kernel
theorem dX12_does_119 : decode cX12_does 119 = .ok (.aload_n 0, 1) := by decide +kernel
theorem dX12_does_120 : decode cX12_does 120 = .ok (.getfield 7, 3) := by decide +kernel
theorem dX12_does_123 : decode cX12_does 123 = .ok (.iconst 0, 1) := by decide +kernel
theorem dX12_does_124 : decode cX12_does 124 = .ok (.iload_n 1, 1) := by decide +kernel
theorem dX12_does_125 : decode cX12_does 125 = .ok (.iadd, 1) := by decide +kernel
theorem dX12_does_126 : decode cX12_does 126 = .ok (.iconst 0, 1) := by decide +kernel
theorem dX12_does_127 : decode cX12_does 127 = .ok (.aload_n 0, 1) := by decide +kernel
theorem dX12_does_128 : decode cX12_does 128 = .ok (.getfield 7, 3) := by decide +kernel
theorem dX12_does_131 : decode cX12_does 131 = .ok (.iconst 0, 1) := by decide +kernel
theorem dX12_does_132 : decode cX12_does 132 = .ok (.iload_n 1, 1) := by decide +kernel
theorem dX12_does_133 : decode cX12_does 133 = .ok (.iadd, 1) := by decide +kernel
theorem dX12_does_134 : decode cX12_does 134 = .ok (.iaload, 1) := by decide +kernel
theorem dX12_does_135 : decode cX12_does 135 = .ok (.aload_n 0, 1) := by decide +kernel
theorem dX12_does_136 : decode cX12_does 136 = .ok (.bipush 97, 2) := by decide +kernel
theorem dX12_does_138 : decode cX12_does 138 = .ok (.bipush 19, 2) := by decide +kernel
theorem dX12_does_140 : decode cX12_does 140 = .ok (.invokevirtual 304, 3) := by decide +kernel
theorem dX12_does_143 : decode cX12_does 143 = .ok (.isub, 1) := by decide +kernel
theorem dX12_does_144 : decode cX12_does 144 = .ok (.invokestatic 298, 3) := by decide +kernel
theorem dX12_does_147 : decode cX12_does 147 = .ok (.iastore, 1) := by decide +kernel
theorem dX12_does_148 : decode cX12_does 148 = .ok (.return_, 1) := by decide +kernel
theorem dX12_does_149 : decode cX12_does 149 = .ok (.iload 4, 2) := by decide +kernel
theorem dX12_does_151 : decode cX12_does 151 = .ok (.ifCond .ne 8, 3) := by decide +kernel
theorem dX12_does_154 : decode cX12_does 154 = .ok (.aload_n 0, 1) := by decide +kernel
theorem dX12_does_155 : decode cX12_does 155 = .ok (.iload_n 1, 1) := by decide +kernel
theorem dX12_does_156 : decode cX12_does 156 = .ok (.invokevirtual 325, 3) := by decide +kernel
theorem dX12_does_159 : decode cX12_does 159 = .ok (.return_, 1) := by decide +kernel
theorem dX12_does_160 : decode cX12_does 160 = .ok (.aload_n 0, 1) := by decide +kernel
theorem dX12_does_161 : decode cX12_does 161 = .ok (.getfield 7, 3) := by decide +kernel
theorem dX12_does_164 : decode cX12_does 164 = .ok (.bipush 36, 2) := by decide +kernel
theorem dX12_does_166 : decode cX12_does 166 = .ok (.iload_n 1, 1) := by decide +kernel
theorem dX12_does_167 : decode cX12_does 167 = .ok (.iadd, 1) := by decide +kernel
theorem dX12_does_168 : decode cX12_does 168 = .ok (.iconst 0, 1) := by decide +kernel
theorem dX12_does_169 : decode cX12_does 169 = .ok (.iastore, 1) := by decide +kernel
theorem dX12_does_170 : decode cX12_does 170 = .ok (.aload_n 0, 1) := by decide +kernel
theorem dX12_does_171 : decode cX12_does 171 = .ok (.getfield 7, 3) := by decide +kernel
theorem dX12_does_174 : decode cX12_does 174 = .ok (.bipush 12, 2) := by decide +kernel
theorem dX12_does_176 : decode cX12_does 176 = .ok (.iload_n 1, 1) := by decide +kernel
theorem dX12_does_177 : decode cX12_does 177 = .ok (.iadd, 1) := by decide +kernel
theorem dX12_does_178 : decode cX12_does 178 = .ok (.bipush 9, 2) := by decide +kernel
theorem dX12_does_180 : decode cX12_does 180 = .ok (.iastore, 1) := by decide +kernel
theorem dX12_does_181 : decode cX12_does 181 = .ok (.aload_n 0, 1) := by decide +kernel
theorem dX12_does_182 : decode cX12_does 182 = .ok (.getfield 7, 3) := by decide +kernel
theorem dX12_does_185 : decode cX12_does 185 = .ok (.bipush 24, 2) := by decide +kernel
theorem dX12_does_187 : decode cX12_does 187 = .ok (.iload_n 1, 1) := by decide +kernel
theorem dX12_does_188 : decode cX12_does 188 = .ok (.iadd, 1) := by decide +kernel
theorem dX12_does_189 : decode cX12_does 189 = .ok (.iconst 0, 1) := by decide +kernel
theorem dX12_does_190 : decode cX12_does 190 = .ok (.iastore, 1) := by decide +kernel
theorem dX12_does_191 : decode cX12_does 191 = .ok (.return_, 1) := by decide +kernel
theorem dX12_draws_0 : decode cX12_draws 0 = .ok (.aload_n 0, 1) := by decide +kernel
theorem dX12_draws_1 : decode cX12_draws 1 = .ok (.iconst 0, 1) := by decide +kernel
theorem dX12_draws_2 : decode cX12_draws 2 = .ok (.putfield 295, 3) := by decide +kernel
theorem dX12_draws_5 : decode cX12_draws 5 = .ok (.aload_n 0, 1) := by decide +kernel
theorem dX12_draws_6 : decode cX12_draws 6 = .ok (.bipush (-2), 2) := by decide +kernel
theorem dX12_draws_8 : decode cX12_draws 8 = .ok (.putfield 289, 3) := by decide +kernel
theorem dX12_draws_11 : decode cX12_draws 11 = .ok (.aload_n 0, 1) := by decide +kernel
theorem dX12_draws_12 : decode cX12_draws 12 = .ok (.aload_n 0, 1) := by decide +kernel
theorem dX12_draws_13 : decode cX12_draws 13 = .ok (.getfield 7, 3) := by decide +kernel
theorem dX12_draws_16 : decode cX12_draws 16 = .ok (.bipush 48, 2) := by decide +kernel
theorem dX12_draws_18 : decode cX12_draws 18 = .ok (.iload_n 1, 1) := by decide +kernel
theorem dX12_draws_19 : decode cX12_draws 19 = .ok (.iadd, 1) := by decide +kernel
theorem dX12_draws_20 : decode cX12_draws 20 = .ok (.iaload, 1) := by decide +kernel
theorem dX12_draws_21 : decode cX12_draws 21 = .ok (.iconst 1, 1) := by decide +kernel
theorem dX12_draws_22 : decode cX12_draws 22 = .ok (.if_icmp .ne 8, 3) := by decide +kernel
theorem dX12_draws_25 : decode cX12_draws 25 = .ok (.bipush (-3), 2) := by decide +kernel
theorem dX12_draws_27 : decode cX12_draws 27 = .ok (.goto 5, 3) := by decide +kernel
theorem dX12_draws_30 : decode cX12_draws 30 = .ok (.bipush (-2), 2) := by decide +kernel
theorem dX12_draws_32 : decode cX12_draws 32 = .ok (.putfield 328, 3) := by decide +kernel
theorem dX12_draws_35 : decode cX12_draws 35 = .ok (.iconst 0, 1) := by decide +kernel
theorem dX12_draws_36 : decode cX12_draws 36 = .ok (.istore_n 2, 1) := by decide +kernel
theorem dX12_draws_37 : decode cX12_draws 37 = .ok (.iload_n 2, 1) := by decide +kernel
theorem dX12_draws_38 : decode cX12_draws 38 = .ok (.aload_n 0, 1) := by decide +kernel
theorem dX12_draws_39 : decode cX12_draws 39 = .ok (.getfield 252, 3) := by decide +kernel
theorem dX12_draws_42 : decode cX12_draws 42 = .ok (.if_icmp .ge 93, 3) := by decide +kernel
theorem dX12_draws_45 : decode cX12_draws 45 = .ok (.aload_n 0, 1) := by decide +kernel
theorem dX12_draws_46 : decode cX12_draws 46 = .ok (.getfield 7, 3) := by decide +kernel
theorem dX12_draws_49 : decode cX12_draws 49 = .ok (.bipush 48, 2) := by decide +kernel
theorem dX12_draws_51 : decode cX12_draws 51 = .ok (.iload_n 1, 1) := by decide +kernel
theorem dX12_draws_52 : decode cX12_draws 52 = .ok (.iadd, 1) := by decide +kernel
theorem dX12_draws_53 : decode cX12_draws 53 = .ok (.iaload, 1) := by decide +kernel
theorem dX12_draws_54 : decode cX12_draws 54 = .ok (.ifCond .ne 81, 3) := by decide +kernel
theorem dX12_draws_57 : decode cX12_draws 57 = .ok (.aload_n 0, 1) := by decide +kernel
theorem dX12_draws_58 : decode cX12_draws 58 = .ok (.getfield 7, 3) := by decide +kernel
theorem dX12_draws_61 : decode cX12_draws 61 = .ok (.bipush 74, 2) := by decide +kernel
theorem dX12_draws_63 : decode cX12_draws 63 = .ok (.sipush 25173, 3) := by decide +kernel
theorem dX12_draws_66 : decode cX12_draws 66 = .ok (.aload_n 0, 1) := by decide +kernel
theorem dX12_draws_67 : decode cX12_draws 67 = .ok (.getfield 7, 3) := by decide +kernel
theorem dX12_draws_70 : decode cX12_draws 70 = .ok (.bipush 74, 2) := by decide +kernel
theorem dX12_draws_72 : decode cX12_draws 72 = .ok (.iaload, 1) := by decide +kernel
theorem dX12_draws_73 : decode cX12_draws 73 = .ok (.imul, 1) := by decide +kernel
theorem dX12_draws_74 : decode cX12_draws 74 = .ok (.sipush 13849, 3) := by decide +kernel
theorem dX12_draws_77 : decode cX12_draws 77 = .ok (.iadd, 1) := by decide +kernel
theorem dX12_draws_78 : decode cX12_draws 78 = .ok (.ldc_w 331, 3) := by decide +kernel
theorem dX12_draws_81 : decode cX12_draws 81 = .ok (.irem, 1) := by decide +kernel
theorem dX12_draws_82 : decode cX12_draws 82 = .ok (.iastore, 1) := by decide +kernel
theorem dX12_draws_83 : decode cX12_draws 83 = .ok (.aload_n 0, 1) := by decide +kernel
theorem dX12_draws_84 : decode cX12_draws 84 = .ok (.iload_n 1, 1) := by decide +kernel
theorem dX12_draws_85 : decode cX12_draws 85 = .ok (.iload_n 2, 1) := by decide +kernel
theorem dX12_draws_86 : decode cX12_draws 86 = .ok (.aload_n 0, 1) := by decide +kernel
theorem dX12_draws_87 : decode cX12_draws 87 = .ok (.getfield 7, 3) := by decide +kernel
theorem dX12_draws_90 : decode cX12_draws 90 = .ok (.bipush 74, 2) := by decide +kernel
theorem dX12_draws_92 : decode cX12_draws 92 = .ok (.iaload, 1) := by decide +kernel
theorem dX12_draws_93 : decode cX12_draws 93 = .ok (.bipush 10, 2) := by decide +kernel
theorem dX12_draws_95 : decode cX12_draws 95 = .ok (.irem, 1) := by decide +kernel
theorem dX12_draws_96 : decode cX12_draws 96 = .ok (.invokevirtual 332, 3) := by decide +kernel
theorem dX12_draws_99 : decode cX12_draws 99 = .ok (.aload_n 0, 1) := by decide +kernel
theorem dX12_draws_100 : decode cX12_draws 100 = .ok (.iload_n 1, 1) := by decide +kernel
theorem dX12_draws_101 : decode cX12_draws 101 = .ok (.aload_n 0, 1) := by decide +kernel
theorem dX12_draws_102 : decode cX12_draws 102 = .ok (.getfield 71, 3) := by decide +kernel
theorem dX12_draws_105 : decode cX12_draws 105 = .ok (.iload_n 2, 1) := by decide +kernel
theorem dX12_draws_106 : decode cX12_draws 106 = .ok (.iaload, 1) := by decide +kernel
theorem dX12_draws_107 : decode cX12_draws 107 = .ok (.iconst 1, 1) := by decide +kernel
theorem dX12_draws_108 : decode cX12_draws 108 = .ok (.invokevirtual 336, 3) := by decide +kernel
theorem dX12_draws_111 : decode cX12_draws 111 = .ok (.aload_n 0, 1) := by decide +kernel
theorem dX12_draws_112 : decode cX12_draws 112 = .ok (.getfield 7, 3) := by decide +kernel
theorem dX12_draws_115 : decode cX12_draws 115 = .ok (.bipush 48, 2) := by decide +kernel
theorem dX12_draws_117 : decode cX12_draws 117 = .ok (.iload_n 1, 1) := by decide +kernel
theorem dX12_draws_118 : decode cX12_draws 118 = .ok (.iadd, 1) := by decide +kernel
theorem dX12_draws_119 : decode cX12_draws 119 = .ok (.iaload, 1) := by decide +kernel
theorem dX12_draws_120 : decode cX12_draws 120 = .ok (.iconst 1, 1) := by decide +kernel
theorem dX12_draws_121 : decode cX12_draws 121 = .ok (.if_icmp .ne 8, 3) := by decide +kernel
theorem dX12_draws_124 : decode cX12_draws 124 = .ok (.aload_n 0, 1) := by decide +kernel
theorem dX12_draws_125 : decode cX12_draws 125 = .ok (.iload_n 2, 1) := by decide +kernel
theorem dX12_draws_126 : decode cX12_draws 126 = .ok (.putfield 328, 3) := by decide +kernel
theorem dX12_draws_129 : decode cX12_draws 129 = .ok (.iinc 2 1, 3) := by decide +kernel
theorem dX12_draws_132 : decode cX12_draws 132 = .ok (.goto (-95), 3) := by decide +kernel
theorem dX12_draws_135 : decode cX12_draws 135 = .ok (.return_, 1) := by decide +kernel
theorem dX12_draw_0 : decode cX12_draw 0 = .ok (.aload_n 0, 1) := by decide +kernel
theorem dX12_draw_1 : decode cX12_draw 1 = .ok (.iload_n 1, 1) := by decide +kernel
theorem dX12_draw_2 : decode cX12_draw 2 = .ok (.invokevirtual 340, 3) := by decide +kernel
theorem dX12_draw_5 : decode cX12_draw 5 = .ok (.ifCond .eq 21, 3) := by decide +kernel
theorem dX12_draw_8 : decode cX12_draw 8 = .ok (.iload_n 2, 1) := by decide +kernel
theorem dX12_draw_9 : decode cX12_draw 9 = .ok (.iconst 1, 1) := by decide +kernel
theorem dX12_draw_10 : decode cX12_draw 10 = .ok (.bipush 60, 2) := by decide +kernel
theorem dX12_draw_12 : decode cX12_draw 12 = .ok (.invokestatic 124, 3) := by decide +kernel
theorem dX12_draw_15 : decode cX12_draw 15 = .ok (.ifCond .eq 11, 3) := by decide +kernel
theorem dX12_draw_18 : decode cX12_draw 18 = .ok (.iload_n 2, 1) := by decide +kernel
theorem dX12_draw_19 : decode cX12_draw 19 = .ok (.aload_n 0, 1) := by decide +kernel
theorem dX12_draw_20 : decode cX12_draw 20 = .ok (.getfield 128, 3) := by decide +kernel
theorem dX12_draw_23 : decode cX12_draw 23 = .ok (.if_icmp .le 5, 3) := by decide +kernel
theorem dX12_draw_26 : decode cX12_draw 26 = .ok (.iconst (-1), 1) := by decide +kernel
theorem dX12_draw_27 : decode cX12_draw 27 = .ok (.ireturn, 1) := by decide +kernel
theorem dX12_draw_28 : decode cX12_draw 28 = .ok (.aload_n 0, 1) := by decide +kernel
theorem dX12_draw_29 : decode cX12_draw 29 = .ok (.iload_n 2, 1) := by decide +kernel
theorem dX12_draw_30 : decode cX12_draw 30 = .ok (.iconst 0, 1) := by decide +kernel
theorem dX12_draw_31 : decode cX12_draw 31 = .ok (.invokevirtual 276, 3) := by decide +kernel
theorem dX12_draw_34 : decode cX12_draw 34 = .ok (.ifCond .ne 8, 3) := by decide +kernel
theorem dX12_draw_37 : decode cX12_draw 37 = .ok (.aload_n 0, 1) := by decide +kernel
theorem dX12_draw_38 : decode cX12_draw 38 = .ok (.getfield 146, 3) := by decide +kernel
theorem dX12_draw_41 : decode cX12_draw 41 = .ok (.ireturn, 1) := by decide +kernel
theorem dX12_draw_42 : decode cX12_draw 42 = .ok (.aload_n 0, 1) := by decide +kernel
theorem dX12_draw_43 : decode cX12_draw 43 = .ok (.iload_n 1, 1) := by decide +kernel
theorem dX12_draw_44 : decode cX12_draw 44 = .ok (.invokevirtual 343, 3) := by decide +kernel
theorem dX12_draw_47 : decode cX12_draw 47 = .ok (.aload_n 0, 1) := by decide +kernel
theorem dX12_draw_48 : decode cX12_draw 48 = .ok (.getfield 295, 3) := by decide +kernel
theorem dX12_draw_51 : decode cX12_draw 51 = .ok (.ireturn, 1) := by decide +kernel
theorem dX12_tried_0 : decode cX12_tried 0 = .ok (.aload_n 0, 1) := by decide +kernel
theorem dX12_tried_1 : decode cX12_tried 1 = .ok (.iload_n 1, 1) := by decide +kernel
theorem dX12_tried_2 : decode cX12_tried 2 = .ok (.invokevirtual 340, 3) := by decide +kernel
theorem dX12_tried_5 : decode cX12_tried 5 = .ok (.ifCond .eq 31, 3) := by decide +kernel
theorem dX12_tried_8 : decode cX12_tried 8 = .ok (.iload_n 2, 1) := by decide +kernel
theorem dX12_tried_9 : decode cX12_tried 9 = .ok (.iconst 1, 1) := by decide +kernel
theorem dX12_tried_10 : decode cX12_tried 10 = .ok (.bipush 60, 2) := by decide +kernel
theorem dX12_tried_12 : decode cX12_tried 12 = .ok (.invokestatic 124, 3) := by decide +kernel
theorem dX12_tried_15 : decode cX12_tried 15 = .ok (.ifCond .eq 21, 3) := by decide +kernel
theorem dX12_tried_18 : decode cX12_tried 18 = .ok (.iload_n 3, 1) := by decide +kernel
theorem dX12_tried_19 : decode cX12_tried 19 = .ok (.iconst 0, 1) := by decide +kernel
theorem dX12_tried_20 : decode cX12_tried 20 = .ok (.bipush 7, 2) := by decide +kernel
theorem dX12_tried_22 : decode cX12_tried 22 = .ok (.invokestatic 124, 3) := by decide +kernel
theorem dX12_tried_25 : decode cX12_tried 25 = .ok (.ifCond .eq 11, 3) := by decide +kernel
theorem dX12_tried_28 : decode cX12_tried 28 = .ok (.iload_n 2, 1) := by decide +kernel
theorem dX12_tried_29 : decode cX12_tried 29 = .ok (.aload_n 0, 1) := by decide +kernel
theorem dX12_tried_30 : decode cX12_tried 30 = .ok (.getfield 128, 3) := by decide +kernel
theorem dX12_tried_33 : decode cX12_tried 33 = .ok (.if_icmp .le 5, 3) := by decide +kernel
theorem dX12_tried_36 : decode cX12_tried 36 = .ok (.iconst (-1), 1) := by decide +kernel
theorem dX12_tried_37 : decode cX12_tried 37 = .ok (.ireturn, 1) := by decide +kernel
theorem dX12_tried_38 : decode cX12_tried 38 = .ok (.aload_n 0, 1) := by decide +kernel
theorem dX12_tried_39 : decode cX12_tried 39 = .ok (.iload_n 2, 1) := by decide +kernel
theorem dX12_tried_40 : decode cX12_tried 40 = .ok (.iconst 0, 1) := by decide +kernel
theorem dX12_tried_41 : decode cX12_tried 41 = .ok (.invokevirtual 276, 3) := by decide +kernel
theorem dX12_tried_44 : decode cX12_tried 44 = .ok (.ifCond .ne 8, 3) := by decide +kernel
theorem dX12_tried_47 : decode cX12_tried 47 = .ok (.aload_n 0, 1) := by decide +kernel
theorem dX12_tried_48 : decode cX12_tried 48 = .ok (.getfield 146, 3) := by decide +kernel
theorem dX12_tried_51 : decode cX12_tried 51 = .ok (.ireturn, 1) := by decide +kernel
theorem dX12_tried_52 : decode cX12_tried 52 = .ok (.aload_n 0, 1) := by decide +kernel
theorem dX12_tried_53 : decode cX12_tried 53 = .ok (.getfield 7, 3) := by decide +kernel
theorem dX12_tried_56 : decode cX12_tried 56 = .ok (.aload_n 0, 1) := by decide +kernel
theorem dX12_tried_57 : decode cX12_tried 57 = .ok (.getfield 13, 3) := by decide +kernel
theorem dX12_tried_60 : decode cX12_tried 60 = .ok (.invokestatic 346, 3) := by decide +kernel
theorem dX12_tried_63 : decode cX12_tried 63 = .ok (.aload_n 0, 1) := by decide +kernel
theorem dX12_tried_64 : decode cX12_tried 64 = .ok (.iload_n 1, 1) := by decide +kernel
theorem dX12_tried_65 : decode cX12_tried 65 = .ok (.invokevirtual 343, 3) := by decide +kernel
theorem dX12_tried_68 : decode cX12_tried 68 = .ok (.iload_n 3, 1) := by decide +kernel
theorem dX12_tried_69 : decode cX12_tried 69 = .ok (.tableswitch 86 0 7 #[47, 56, 86, 86, 86, 86, 65, 74], 47) := by decide +kernel
theorem dX12_tried_116 : decode cX12_tried 116 = .ok (.aload_n 0, 1) := by decide +kernel
theorem dX12_tried_117 : decode cX12_tried 117 = .ok (.getfield 295, 3) := by decide +kernel
theorem dX12_tried_120 : decode cX12_tried 120 = .ok (.istore 4, 2) := by decide +kernel
theorem dX12_tried_122 : decode cX12_tried 122 = .ok (.goto 50, 3) := by decide +kernel
theorem dX12_tried_125 : decode cX12_tried 125 = .ok (.aload_n 0, 1) := by decide +kernel
theorem dX12_tried_126 : decode cX12_tried 126 = .ok (.getfield 328, 3) := by decide +kernel
theorem dX12_tried_129 : decode cX12_tried 129 = .ok (.istore 4, 2) := by decide +kernel
theorem dX12_tried_131 : decode cX12_tried 131 = .ok (.goto 41, 3) := by decide +kernel
theorem dX12_tried_134 : decode cX12_tried 134 = .ok (.aload_n 0, 1) := by decide +kernel
theorem dX12_tried_135 : decode cX12_tried 135 = .ok (.getfield 289, 3) := by decide +kernel
theorem dX12_tried_138 : decode cX12_tried 138 = .ok (.istore 4, 2) := by decide +kernel
theorem dX12_tried_140 : decode cX12_tried 140 = .ok (.goto 32, 3) := by decide +kernel
theorem dX12_tried_143 : decode cX12_tried 143 = .ok (.aload_n 0, 1) := by decide +kernel
theorem dX12_tried_144 : decode cX12_tried 144 = .ok (.getfield 7, 3) := by decide +kernel
theorem dX12_tried_147 : decode cX12_tried 147 = .ok (.bipush 72, 2) := by decide +kernel
theorem dX12_tried_149 : decode cX12_tried 149 = .ok (.iaload, 1) := by decide +kernel
theorem dX12_tried_150 : decode cX12_tried 150 = .ok (.istore 4, 2) := by decide +kernel
theorem dX12_tried_152 : decode cX12_tried 152 = .ok (.goto 20, 3) := by decide +kernel
theorem dX12_tried_155 : decode cX12_tried 155 = .ok (.aload_n 0, 1) := by decide +kernel
theorem dX12_tried_156 : decode cX12_tried 156 = .ok (.getfield 7, 3) := by decide +kernel
theorem dX12_tried_159 : decode cX12_tried 159 = .ok (.iconst 0, 1) := by decide +kernel
theorem dX12_tried_160 : decode cX12_tried 160 = .ok (.bipush 12, 2) := by decide +kernel
theorem dX12_tried_162 : decode cX12_tried 162 = .ok (.iload_n 3, 1) := by decide +kernel
theorem dX12_tried_163 : decode cX12_tried 163 = .ok (.iconst 2, 1) := by decide +kernel
theorem dX12_tried_164 : decode cX12_tried 164 = .ok (.isub, 1) := by decide +kernel
theorem dX12_tried_165 : decode cX12_tried 165 = .ok (.imul, 1) := by decide +kernel
theorem dX12_tried_166 : decode cX12_tried 166 = .ok (.iadd, 1) := by decide +kernel
theorem dX12_tried_167 : decode cX12_tried 167 = .ok (.iload_n 1, 1) := by decide +kernel
theorem dX12_tried_168 : decode cX12_tried 168 = .ok (.iadd, 1) := by decide +kernel
theorem dX12_tried_169 : decode cX12_tried 169 = .ok (.iaload, 1) := by decide +kernel
theorem dX12_tried_170 : decode cX12_tried 170 = .ok (.istore 4, 2) := by decide +kernel
theorem dX12_tried_172 : decode cX12_tried 172 = .ok (.aload_n 0, 1) := by decide +kernel
theorem dX12_tried_173 : decode cX12_tried 173 = .ok (.getfield 13, 3) := by decide +kernel
theorem dX12_tried_176 : decode cX12_tried 176 = .ok (.aload_n 0, 1) := by decide +kernel
theorem dX12_tried_177 : decode cX12_tried 177 = .ok (.getfield 7, 3) := by decide +kernel
theorem dX12_tried_180 : decode cX12_tried 180 = .ok (.invokestatic 346, 3) := by decide +kernel
theorem dX12_tried_183 : decode cX12_tried 183 = .ok (.iload 4, 2) := by decide +kernel
theorem dX12_tried_185 : decode cX12_tried 185 = .ok (.ireturn, 1) := by decide +kernel
theorem dX12_yearLeft_0 : decode cX12_yearLeft 0 = .ok (.bipush (-2), 2) := by decide +kernel
theorem dX12_yearLeft_2 : decode cX12_yearLeft 2 = .ok (.istore_n 3, 1) := by decide +kernel
theorem dX12_yearLeft_3 : decode cX12_yearLeft 3 = .ok (.aload_n 0, 1) := by decide +kernel
theorem dX12_yearLeft_4 : decode cX12_yearLeft 4 = .ok (.getfield 7, 3) := by decide +kernel
theorem dX12_yearLeft_7 : decode cX12_yearLeft 7 = .ok (.bipush 60, 2) := by decide +kernel
theorem dX12_yearLeft_9 : decode cX12_yearLeft 9 = .ok (.iload_n 1, 1) := by decide +kernel
theorem dX12_yearLeft_10 : decode cX12_yearLeft 10 = .ok (.iadd, 1) := by decide +kernel
theorem dX12_yearLeft_11 : decode cX12_yearLeft 11 = .ok (.iaload, 1) := by decide +kernel
theorem dX12_yearLeft_12 : decode cX12_yearLeft 12 = .ok (.istore 4, 2) := by decide +kernel
theorem dX12_yearLeft_14 : decode cX12_yearLeft 14 = .ok (.iload 4, 2) := by decide +kernel
theorem dX12_yearLeft_16 : decode cX12_yearLeft 16 = .ok (.aload_n 0, 1) := by decide +kernel
theorem dX12_yearLeft_17 : decode cX12_yearLeft 17 = .ok (.getfield 19, 3) := by decide +kernel
theorem dX12_yearLeft_20 : decode cX12_yearLeft 20 = .ok (.iload_n 1, 1) := by decide +kernel
theorem dX12_yearLeft_21 : decode cX12_yearLeft 21 = .ok (.iaload, 1) := by decide +kernel
theorem dX12_yearLeft_22 : decode cX12_yearLeft 22 = .ok (.if_icmp .ge 50, 3) := by decide +kernel
theorem dX12_yearLeft_25 : decode cX12_yearLeft 25 = .ok (.aload_n 0, 1) := by decide +kernel
theorem dX12_yearLeft_26 : decode cX12_yearLeft 26 = .ok (.getfield 22, 3) := by decide +kernel
theorem dX12_yearLeft_29 : decode cX12_yearLeft 29 = .ok (.iload_n 1, 1) := by decide +kernel
theorem dX12_yearLeft_30 : decode cX12_yearLeft 30 = .ok (.iload 4, 2) := by decide +kernel
theorem dX12_yearLeft_32 : decode cX12_yearLeft 32 = .ok (.invokestatic 280, 3) := by decide +kernel
theorem dX12_yearLeft_35 : decode cX12_yearLeft 35 = .ok (.iaload, 1) := by decide +kernel
theorem dX12_yearLeft_36 : decode cX12_yearLeft 36 = .ok (.istore 5, 2) := by decide +kernel
theorem dX12_yearLeft_38 : decode cX12_yearLeft 38 = .ok (.iload_n 3, 1) := by decide +kernel
theorem dX12_yearLeft_39 : decode cX12_yearLeft 39 = .ok (.bipush (-2), 2) := by decide +kernel
theorem dX12_yearLeft_41 : decode cX12_yearLeft 41 = .ok (.if_icmp .eq 22, 3) := by decide +kernel
theorem dX12_yearLeft_44 : decode cX12_yearLeft 44 = .ok (.iload_n 2, 1) := by decide +kernel
theorem dX12_yearLeft_45 : decode cX12_yearLeft 45 = .ok (.ifCond .eq 12, 3) := by decide +kernel
theorem dX12_yearLeft_48 : decode cX12_yearLeft 48 = .ok (.iload 5, 2) := by decide +kernel
theorem dX12_yearLeft_50 : decode cX12_yearLeft 50 = .ok (.iload_n 3, 1) := by decide +kernel
theorem dX12_yearLeft_51 : decode cX12_yearLeft 51 = .ok (.if_icmp .ge 15, 3) := by decide +kernel
theorem dX12_yearLeft_54 : decode cX12_yearLeft 54 = .ok (.goto 9, 3) := by decide +kernel
theorem dX12_yearLeft_57 : decode cX12_yearLeft 57 = .ok (.iload 5, 2) := by decide +kernel
theorem dX12_yearLeft_59 : decode cX12_yearLeft 59 = .ok (.iload_n 3, 1) := by decide +kernel
theorem dX12_yearLeft_60 : decode cX12_yearLeft 60 = .ok (.if_icmp .le 6, 3) := by decide +kernel
theorem dX12_yearLeft_63 : decode cX12_yearLeft 63 = .ok (.iload 5, 2) := by decide +kernel
theorem dX12_yearLeft_65 : decode cX12_yearLeft 65 = .ok (.istore_n 3, 1) := by decide +kernel
theorem dX12_yearLeft_66 : decode cX12_yearLeft 66 = .ok (.iinc 4 1, 3) := by decide +kernel
theorem dX12_yearLeft_69 : decode cX12_yearLeft 69 = .ok (.goto (-55), 3) := by decide +kernel
theorem dX12_yearLeft_72 : decode cX12_yearLeft 72 = .ok (.iload_n 3, 1) := by decide +kernel
theorem dX12_yearLeft_73 : decode cX12_yearLeft 73 = .ok (.ireturn, 1) := by decide +kernel
theorem dX12_sinsLeft_0 : decode cX12_sinsLeft 0 = .ok (.iconst 0, 1) := by decide +kernel
theorem dX12_sinsLeft_1 : decode cX12_sinsLeft 1 = .ok (.istore_n 2, 1) := by decide +kernel
theorem dX12_sinsLeft_2 : decode cX12_sinsLeft 2 = .ok (.aload_n 0, 1) := by decide +kernel
theorem dX12_sinsLeft_3 : decode cX12_sinsLeft 3 = .ok (.getfield 7, 3) := by decide +kernel
theorem dX12_sinsLeft_6 : decode cX12_sinsLeft 6 = .ok (.bipush 60, 2) := by decide +kernel
theorem dX12_sinsLeft_8 : decode cX12_sinsLeft 8 = .ok (.iload_n 1, 1) := by decide +kernel
theorem dX12_sinsLeft_9 : decode cX12_sinsLeft 9 = .ok (.iadd, 1) := by decide +kernel
theorem dX12_sinsLeft_10 : decode cX12_sinsLeft 10 = .ok (.iaload, 1) := by decide +kernel
theorem dX12_sinsLeft_11 : decode cX12_sinsLeft 11 = .ok (.istore_n 3, 1) := by decide +kernel
theorem dX12_sinsLeft_12 : decode cX12_sinsLeft 12 = .ok (.iload_n 3, 1) := by decide +kernel
theorem dX12_sinsLeft_13 : decode cX12_sinsLeft 13 = .ok (.aload_n 0, 1) := by decide +kernel
theorem dX12_sinsLeft_14 : decode cX12_sinsLeft 14 = .ok (.getfield 19, 3) := by decide +kernel
theorem dX12_sinsLeft_17 : decode cX12_sinsLeft 17 = .ok (.iload_n 1, 1) := by decide +kernel
theorem dX12_sinsLeft_18 : decode cX12_sinsLeft 18 = .ok (.iaload, 1) := by decide +kernel
theorem dX12_sinsLeft_19 : decode cX12_sinsLeft 19 = .ok (.if_icmp .ge 24, 3) := by decide +kernel
theorem dX12_sinsLeft_22 : decode cX12_sinsLeft 22 = .ok (.iload_n 2, 1) := by decide +kernel
theorem dX12_sinsLeft_23 : decode cX12_sinsLeft 23 = .ok (.iconst 1, 1) := by decide +kernel
theorem dX12_sinsLeft_24 : decode cX12_sinsLeft 24 = .ok (.aload_n 0, 1) := by decide +kernel
theorem dX12_sinsLeft_25 : decode cX12_sinsLeft 25 = .ok (.getfield 25, 3) := by decide +kernel
theorem dX12_sinsLeft_28 : decode cX12_sinsLeft 28 = .ok (.iload_n 1, 1) := by decide +kernel
theorem dX12_sinsLeft_29 : decode cX12_sinsLeft 29 = .ok (.iload_n 3, 1) := by decide +kernel
theorem dX12_sinsLeft_30 : decode cX12_sinsLeft 30 = .ok (.invokestatic 280, 3) := by decide +kernel
theorem dX12_sinsLeft_33 : decode cX12_sinsLeft 33 = .ok (.iaload, 1) := by decide +kernel
theorem dX12_sinsLeft_34 : decode cX12_sinsLeft 34 = .ok (.ishl, 1) := by decide +kernel
theorem dX12_sinsLeft_35 : decode cX12_sinsLeft 35 = .ok (.ior, 1) := by decide +kernel
theorem dX12_sinsLeft_36 : decode cX12_sinsLeft 36 = .ok (.istore_n 2, 1) := by decide +kernel
theorem dX12_sinsLeft_37 : decode cX12_sinsLeft 37 = .ok (.iinc 3 1, 3) := by decide +kernel
theorem dX12_sinsLeft_40 : decode cX12_sinsLeft 40 = .ok (.goto (-28), 3) := by decide +kernel
theorem dX12_sinsLeft_43 : decode cX12_sinsLeft 43 = .ok (.iload_n 2, 1) := by decide +kernel
theorem dX12_sinsLeft_44 : decode cX12_sinsLeft 44 = .ok (.ireturn, 1) := by decide +kernel
theorem dX12_witnessIs_0 : decode cX12_witnessIs 0 = .ok (.aload_n 0, 1) := by decide +kernel
theorem dX12_witnessIs_1 : decode cX12_witnessIs 1 = .ok (.iload_n 1, 1) := by decide +kernel
theorem dX12_witnessIs_2 : decode cX12_witnessIs 2 = .ok (.invokevirtual 340, 3) := by decide +kernel
theorem dX12_witnessIs_5 : decode cX12_witnessIs 5 = .ok (.ifCond .ne 5, 3) := by decide +kernel
theorem dX12_witnessIs_8 : decode cX12_witnessIs 8 = .ok (.iconst (-1), 1) := by decide +kernel
theorem dX12_witnessIs_9 : decode cX12_witnessIs 9 = .ok (.ireturn, 1) := by decide +kernel
theorem dX12_witnessIs_10 : decode cX12_witnessIs 10 = .ok (.iload_n 2, 1) := by decide +kernel
theorem dX12_witnessIs_11 : decode cX12_witnessIs 11 = .ok (.tableswitch 151 0 9 #[53, 60, 70, 79, 89, 99, 109, 119, 126, 133], 53) := by decide +kernel
theorem dX12_witnessIs_64 : decode cX12_witnessIs 64 = .ok (.aload_n 0, 1) := by decide +kernel
theorem dX12_witnessIs_65 : decode cX12_witnessIs 65 = .ok (.getfield 19, 3) := by decide +kernel
theorem dX12_witnessIs_68 : decode cX12_witnessIs 68 = .ok (.iload_n 1, 1) := by decide +kernel
theorem dX12_witnessIs_69 : decode cX12_witnessIs 69 = .ok (.iaload, 1) := by decide +kernel
theorem dX12_witnessIs_70 : decode cX12_witnessIs 70 = .ok (.ireturn, 1) := by decide +kernel
theorem dX12_witnessIs_71 : decode cX12_witnessIs 71 = .ok (.aload_n 0, 1) := by decide +kernel
theorem dX12_witnessIs_72 : decode cX12_witnessIs 72 = .ok (.getfield 7, 3) := by decide +kernel
theorem dX12_witnessIs_75 : decode cX12_witnessIs 75 = .ok (.bipush 60, 2) := by decide +kernel
theorem dX12_witnessIs_77 : decode cX12_witnessIs 77 = .ok (.iload_n 1, 1) := by decide +kernel
theorem dX12_witnessIs_78 : decode cX12_witnessIs 78 = .ok (.iadd, 1) := by decide +kernel
theorem dX12_witnessIs_79 : decode cX12_witnessIs 79 = .ok (.iaload, 1) := by decide +kernel
theorem dX12_witnessIs_80 : decode cX12_witnessIs 80 = .ok (.ireturn, 1) := by decide +kernel
theorem dX12_witnessIs_81 : decode cX12_witnessIs 81 = .ok (.aload_n 0, 1) := by decide +kernel
theorem dX12_witnessIs_82 : decode cX12_witnessIs 82 = .ok (.getfield 7, 3) := by decide +kernel
theorem dX12_witnessIs_85 : decode cX12_witnessIs 85 = .ok (.iconst 0, 1) := by decide +kernel
theorem dX12_witnessIs_86 : decode cX12_witnessIs 86 = .ok (.iload_n 1, 1) := by decide +kernel
theorem dX12_witnessIs_87 : decode cX12_witnessIs 87 = .ok (.iadd, 1) := by decide +kernel
theorem dX12_witnessIs_88 : decode cX12_witnessIs 88 = .ok (.iaload, 1) := by decide +kernel
theorem dX12_witnessIs_89 : decode cX12_witnessIs 89 = .ok (.ireturn, 1) := by decide +kernel
theorem dX12_witnessIs_90 : decode cX12_witnessIs 90 = .ok (.aload_n 0, 1) := by decide +kernel
theorem dX12_witnessIs_91 : decode cX12_witnessIs 91 = .ok (.getfield 7, 3) := by decide +kernel
theorem dX12_witnessIs_94 : decode cX12_witnessIs 94 = .ok (.bipush 12, 2) := by decide +kernel
theorem dX12_witnessIs_96 : decode cX12_witnessIs 96 = .ok (.iload_n 1, 1) := by decide +kernel
theorem dX12_witnessIs_97 : decode cX12_witnessIs 97 = .ok (.iadd, 1) := by decide +kernel
theorem dX12_witnessIs_98 : decode cX12_witnessIs 98 = .ok (.iaload, 1) := by decide +kernel
theorem dX12_witnessIs_99 : decode cX12_witnessIs 99 = .ok (.ireturn, 1) := by decide +kernel
theorem dX12_witnessIs_100 : decode cX12_witnessIs 100 = .ok (.aload_n 0, 1) := by decide +kernel
theorem dX12_witnessIs_101 : decode cX12_witnessIs 101 = .ok (.getfield 7, 3) := by decide +kernel
theorem dX12_witnessIs_104 : decode cX12_witnessIs 104 = .ok (.bipush 24, 2) := by decide +kernel
theorem dX12_witnessIs_106 : decode cX12_witnessIs 106 = .ok (.iload_n 1, 1) := by decide +kernel
theorem dX12_witnessIs_107 : decode cX12_witnessIs 107 = .ok (.iadd, 1) := by decide +kernel
theorem dX12_witnessIs_108 : decode cX12_witnessIs 108 = .ok (.iaload, 1) := by decide +kernel
theorem dX12_witnessIs_109 : decode cX12_witnessIs 109 = .ok (.ireturn, 1) := by decide +kernel
theorem dX12_witnessIs_110 : decode cX12_witnessIs 110 = .ok (.aload_n 0, 1) := by decide +kernel
theorem dX12_witnessIs_111 : decode cX12_witnessIs 111 = .ok (.getfield 7, 3) := by decide +kernel
theorem dX12_witnessIs_114 : decode cX12_witnessIs 114 = .ok (.bipush 36, 2) := by decide +kernel
theorem dX12_witnessIs_116 : decode cX12_witnessIs 116 = .ok (.iload_n 1, 1) := by decide +kernel
theorem dX12_witnessIs_117 : decode cX12_witnessIs 117 = .ok (.iadd, 1) := by decide +kernel
theorem dX12_witnessIs_118 : decode cX12_witnessIs 118 = .ok (.iaload, 1) := by decide +kernel
theorem dX12_witnessIs_119 : decode cX12_witnessIs 119 = .ok (.ireturn, 1) := by decide +kernel
theorem dX12_witnessIs_120 : decode cX12_witnessIs 120 = .ok (.aload_n 0, 1) := by decide +kernel
theorem dX12_witnessIs_121 : decode cX12_witnessIs 121 = .ok (.getfield 7, 3) := by decide +kernel
theorem dX12_witnessIs_124 : decode cX12_witnessIs 124 = .ok (.bipush 48, 2) := by decide +kernel
theorem dX12_witnessIs_126 : decode cX12_witnessIs 126 = .ok (.iload_n 1, 1) := by decide +kernel
theorem dX12_witnessIs_127 : decode cX12_witnessIs 127 = .ok (.iadd, 1) := by decide +kernel
theorem dX12_witnessIs_128 : decode cX12_witnessIs 128 = .ok (.iaload, 1) := by decide +kernel
theorem dX12_witnessIs_129 : decode cX12_witnessIs 129 = .ok (.ireturn, 1) := by decide +kernel
theorem dX12_witnessIs_130 : decode cX12_witnessIs 130 = .ok (.aload_n 0, 1) := by decide +kernel
theorem dX12_witnessIs_131 : decode cX12_witnessIs 131 = .ok (.iload_n 1, 1) := by decide +kernel
theorem dX12_witnessIs_132 : decode cX12_witnessIs 132 = .ok (.iconst 1, 1) := by decide +kernel
theorem dX12_witnessIs_133 : decode cX12_witnessIs 133 = .ok (.invokevirtual 350, 3) := by decide +kernel
theorem dX12_witnessIs_136 : decode cX12_witnessIs 136 = .ok (.ireturn, 1) := by decide +kernel
theorem dX12_witnessIs_137 : decode cX12_witnessIs 137 = .ok (.aload_n 0, 1) := by decide +kernel
theorem dX12_witnessIs_138 : decode cX12_witnessIs 138 = .ok (.iload_n 1, 1) := by decide +kernel
theorem dX12_witnessIs_139 : decode cX12_witnessIs 139 = .ok (.iconst 0, 1) := by decide +kernel
theorem dX12_witnessIs_140 : decode cX12_witnessIs 140 = .ok (.invokevirtual 350, 3) := by decide +kernel
theorem dX12_witnessIs_143 : decode cX12_witnessIs 143 = .ok (.ireturn, 1) := by decide +kernel
theorem dX12_witnessIs_144 : decode cX12_witnessIs 144 = .ok (.aload_n 0, 1) := by decide +kernel
theorem dX12_witnessIs_145 : decode cX12_witnessIs 145 = .ok (.iload_n 1, 1) := by decide +kernel
theorem dX12_witnessIs_146 : decode cX12_witnessIs 146 = .ok (.invokevirtual 286, 3) := by decide +kernel
theorem dX12_witnessIs_149 : decode cX12_witnessIs 149 = .ok (.ifCond .ne 7, 3) := by decide +kernel
theorem dX12_witnessIs_152 : decode cX12_witnessIs 152 = .ok (.iconst 0, 1) := by decide +kernel
theorem dX12_witnessIs_153 : decode cX12_witnessIs 153 = .ok (.goto 8, 3) := by decide +kernel
theorem dX12_witnessIs_156 : decode cX12_witnessIs 156 = .ok (.aload_n 0, 1) := by decide +kernel
theorem dX12_witnessIs_157 : decode cX12_witnessIs 157 = .ok (.iload_n 1, 1) := by decide +kernel
theorem dX12_witnessIs_158 : decode cX12_witnessIs 158 = .ok (.invokevirtual 354, 3) := by decide +kernel
theorem dX12_witnessIs_161 : decode cX12_witnessIs 161 = .ok (.ireturn, 1) := by decide +kernel
theorem dX12_witnessIs_162 : decode cX12_witnessIs 162 = .ok (.iconst (-1), 1) := by decide +kernel
theorem dX12_witnessIs_163 : decode cX12_witnessIs 163 = .ok (.ireturn, 1) := by decide +kernel
theorem dX12_layerIs_0 : decode cX12_layerIs 0 = .ok (.aload_n 0, 1) := by decide +kernel
theorem dX12_layerIs_1 : decode cX12_layerIs 1 = .ok (.iload_n 1, 1) := by decide +kernel
theorem dX12_layerIs_2 : decode cX12_layerIs 2 = .ok (.invokevirtual 340, 3) := by decide +kernel
theorem dX12_layerIs_5 : decode cX12_layerIs 5 = .ok (.ifCond .eq 19, 3) := by decide +kernel
theorem dX12_layerIs_8 : decode cX12_layerIs 8 = .ok (.iload_n 2, 1) := by decide +kernel
theorem dX12_layerIs_9 : decode cX12_layerIs 9 = .ok (.iconst 0, 1) := by decide +kernel
theorem dX12_layerIs_10 : decode cX12_layerIs 10 = .ok (.aload_n 0, 1) := by decide +kernel
theorem dX12_layerIs_11 : decode cX12_layerIs 11 = .ok (.getfield 19, 3) := by decide +kernel
theorem dX12_layerIs_14 : decode cX12_layerIs 14 = .ok (.iload_n 1, 1) := by decide +kernel
theorem dX12_layerIs_15 : decode cX12_layerIs 15 = .ok (.iaload, 1) := by decide +kernel
theorem dX12_layerIs_16 : decode cX12_layerIs 16 = .ok (.iconst 1, 1) := by decide +kernel
theorem dX12_layerIs_17 : decode cX12_layerIs 17 = .ok (.isub, 1) := by decide +kernel
theorem dX12_layerIs_18 : decode cX12_layerIs 18 = .ok (.invokestatic 124, 3) := by decide +kernel
theorem dX12_layerIs_21 : decode cX12_layerIs 21 = .ok (.ifCond .ne 5, 3) := by decide +kernel
theorem dX12_layerIs_24 : decode cX12_layerIs 24 = .ok (.iconst (-1), 1) := by decide +kernel
theorem dX12_layerIs_25 : decode cX12_layerIs 25 = .ok (.ireturn, 1) := by decide +kernel
theorem dX12_layerIs_26 : decode cX12_layerIs 26 = .ok (.iload_n 3, 1) := by decide +kernel
theorem dX12_layerIs_27 : decode cX12_layerIs 27 = .ok (.ifCond .ne 16, 3) := by decide +kernel
theorem dX12_layerIs_30 : decode cX12_layerIs 30 = .ok (.aload_n 0, 1) := by decide +kernel
theorem dX12_layerIs_31 : decode cX12_layerIs 31 = .ok (.getfield 22, 3) := by decide +kernel
theorem dX12_layerIs_34 : decode cX12_layerIs 34 = .ok (.iload_n 1, 1) := by decide +kernel
theorem dX12_layerIs_35 : decode cX12_layerIs 35 = .ok (.iload_n 2, 1) := by decide +kernel
theorem dX12_layerIs_36 : decode cX12_layerIs 36 = .ok (.invokestatic 280, 3) := by decide +kernel
theorem dX12_layerIs_39 : decode cX12_layerIs 39 = .ok (.iaload, 1) := by decide +kernel
theorem dX12_layerIs_40 : decode cX12_layerIs 40 = .ok (.goto 48, 3) := by decide +kernel
theorem dX12_layerIs_43 : decode cX12_layerIs 43 = .ok (.iload_n 3, 1) := by decide +kernel
theorem dX12_layerIs_44 : decode cX12_layerIs 44 = .ok (.iconst 1, 1) := by decide +kernel
theorem dX12_layerIs_45 : decode cX12_layerIs 45 = .ok (.if_icmp .ne 16, 3) := by decide +kernel
theorem dX12_layerIs_48 : decode cX12_layerIs 48 = .ok (.aload_n 0, 1) := by decide +kernel
theorem dX12_layerIs_49 : decode cX12_layerIs 49 = .ok (.getfield 25, 3) := by decide +kernel
theorem dX12_layerIs_52 : decode cX12_layerIs 52 = .ok (.iload_n 1, 1) := by decide +kernel
theorem dX12_layerIs_53 : decode cX12_layerIs 53 = .ok (.iload_n 2, 1) := by decide +kernel
theorem dX12_layerIs_54 : decode cX12_layerIs 54 = .ok (.invokestatic 280, 3) := by decide +kernel
theorem dX12_layerIs_57 : decode cX12_layerIs 57 = .ok (.iaload, 1) := by decide +kernel
theorem dX12_layerIs_58 : decode cX12_layerIs 58 = .ok (.goto 30, 3) := by decide +kernel
theorem dX12_layerIs_61 : decode cX12_layerIs 61 = .ok (.iload_n 3, 1) := by decide +kernel
theorem dX12_layerIs_62 : decode cX12_layerIs 62 = .ok (.iconst 2, 1) := by decide +kernel
theorem dX12_layerIs_63 : decode cX12_layerIs 63 = .ok (.if_icmp .ne 24, 3) := by decide +kernel
theorem dX12_layerIs_66 : decode cX12_layerIs 66 = .ok (.iload_n 2, 1) := by decide +kernel
theorem dX12_layerIs_67 : decode cX12_layerIs 67 = .ok (.aload_n 0, 1) := by decide +kernel
theorem dX12_layerIs_68 : decode cX12_layerIs 68 = .ok (.getfield 7, 3) := by decide +kernel
theorem dX12_layerIs_71 : decode cX12_layerIs 71 = .ok (.bipush 60, 2) := by decide +kernel
theorem dX12_layerIs_73 : decode cX12_layerIs 73 = .ok (.iload_n 1, 1) := by decide +kernel
theorem dX12_layerIs_74 : decode cX12_layerIs 74 = .ok (.iadd, 1) := by decide +kernel
theorem dX12_layerIs_75 : decode cX12_layerIs 75 = .ok (.iaload, 1) := by decide +kernel
theorem dX12_layerIs_76 : decode cX12_layerIs 76 = .ok (.if_icmp .ge 7, 3) := by decide +kernel
theorem dX12_layerIs_79 : decode cX12_layerIs 79 = .ok (.iconst 1, 1) := by decide +kernel
theorem dX12_layerIs_80 : decode cX12_layerIs 80 = .ok (.goto 8, 3) := by decide +kernel
theorem dX12_layerIs_83 : decode cX12_layerIs 83 = .ok (.iconst 0, 1) := by decide +kernel
theorem dX12_layerIs_84 : decode cX12_layerIs 84 = .ok (.goto 4, 3) := by decide +kernel
theorem dX12_layerIs_87 : decode cX12_layerIs 87 = .ok (.iconst (-1), 1) := by decide +kernel
theorem dX12_layerIs_88 : decode cX12_layerIs 88 = .ok (.ireturn, 1) := by decide +kernel
theorem dX12_stateOf_0 : decode cX12_stateOf 0 = .ok (.aload_n 0, 1) := by decide +kernel
theorem dX12_stateOf_1 : decode cX12_stateOf 1 = .ok (.getfield 7, 3) := by decide +kernel
theorem dX12_stateOf_4 : decode cX12_stateOf 4 = .ok (.bipush 60, 2) := by decide +kernel
theorem dX12_stateOf_6 : decode cX12_stateOf 6 = .ok (.iload_n 1, 1) := by decide +kernel
theorem dX12_stateOf_7 : decode cX12_stateOf 7 = .ok (.iadd, 1) := by decide +kernel
theorem dX12_stateOf_8 : decode cX12_stateOf 8 = .ok (.iaload, 1) := by decide +kernel
theorem dX12_stateOf_9 : decode cX12_stateOf 9 = .ok (.iconst 2, 1) := by decide +kernel
theorem dX12_stateOf_10 : decode cX12_stateOf 10 = .ok (.imul, 1) := by decide +kernel
theorem dX12_stateOf_11 : decode cX12_stateOf 11 = .ok (.aload_n 0, 1) := by decide +kernel
theorem dX12_stateOf_12 : decode cX12_stateOf 12 = .ok (.getfield 7, 3) := by decide +kernel
theorem dX12_stateOf_15 : decode cX12_stateOf 15 = .ok (.bipush 36, 2) := by decide +kernel
theorem dX12_stateOf_17 : decode cX12_stateOf 17 = .ok (.iload_n 1, 1) := by decide +kernel
theorem dX12_stateOf_18 : decode cX12_stateOf 18 = .ok (.iadd, 1) := by decide +kernel
theorem dX12_stateOf_19 : decode cX12_stateOf 19 = .ok (.iaload, 1) := by decide +kernel
theorem dX12_stateOf_20 : decode cX12_stateOf 20 = .ok (.iadd, 1) := by decide +kernel
theorem dX12_stateOf_21 : decode cX12_stateOf 21 = .ok (.bipush 10, 2) := by decide +kernel
theorem dX12_stateOf_23 : decode cX12_stateOf 23 = .ok (.imul, 1) := by decide +kernel
theorem dX12_stateOf_24 : decode cX12_stateOf 24 = .ok (.aload_n 0, 1) := by decide +kernel
theorem dX12_stateOf_25 : decode cX12_stateOf 25 = .ok (.getfield 7, 3) := by decide +kernel
theorem dX12_stateOf_28 : decode cX12_stateOf 28 = .ok (.bipush 24, 2) := by decide +kernel
theorem dX12_stateOf_30 : decode cX12_stateOf 30 = .ok (.iload_n 1, 1) := by decide +kernel
theorem dX12_stateOf_31 : decode cX12_stateOf 31 = .ok (.iadd, 1) := by decide +kernel
theorem dX12_stateOf_32 : decode cX12_stateOf 32 = .ok (.iaload, 1) := by decide +kernel
theorem dX12_stateOf_33 : decode cX12_stateOf 33 = .ok (.iadd, 1) := by decide +kernel
theorem dX12_stateOf_34 : decode cX12_stateOf 34 = .ok (.bipush 10, 2) := by decide +kernel
theorem dX12_stateOf_36 : decode cX12_stateOf 36 = .ok (.imul, 1) := by decide +kernel
theorem dX12_stateOf_37 : decode cX12_stateOf 37 = .ok (.aload_n 0, 1) := by decide +kernel
theorem dX12_stateOf_38 : decode cX12_stateOf 38 = .ok (.getfield 7, 3) := by decide +kernel
theorem dX12_stateOf_41 : decode cX12_stateOf 41 = .ok (.bipush 12, 2) := by decide +kernel
theorem dX12_stateOf_43 : decode cX12_stateOf 43 = .ok (.iload_n 1, 1) := by decide +kernel
theorem dX12_stateOf_44 : decode cX12_stateOf 44 = .ok (.iadd, 1) := by decide +kernel
theorem dX12_stateOf_45 : decode cX12_stateOf 45 = .ok (.iaload, 1) := by decide +kernel
theorem dX12_stateOf_46 : decode cX12_stateOf 46 = .ok (.iadd, 1) := by decide +kernel
theorem dX12_stateOf_47 : decode cX12_stateOf 47 = .ok (.bipush 20, 2) := by decide +kernel
theorem dX12_stateOf_49 : decode cX12_stateOf 49 = .ok (.imul, 1) := by decide +kernel
theorem dX12_stateOf_50 : decode cX12_stateOf 50 = .ok (.aload_n 0, 1) := by decide +kernel
theorem dX12_stateOf_51 : decode cX12_stateOf 51 = .ok (.getfield 7, 3) := by decide +kernel
theorem dX12_stateOf_54 : decode cX12_stateOf 54 = .ok (.iconst 0, 1) := by decide +kernel
theorem dX12_stateOf_55 : decode cX12_stateOf 55 = .ok (.iload_n 1, 1) := by decide +kernel
theorem dX12_stateOf_56 : decode cX12_stateOf 56 = .ok (.iadd, 1) := by decide +kernel
theorem dX12_stateOf_57 : decode cX12_stateOf 57 = .ok (.iaload, 1) := by decide +kernel
theorem dX12_stateOf_58 : decode cX12_stateOf 58 = .ok (.iadd, 1) := by decide +kernel
theorem dX12_stateOf_59 : decode cX12_stateOf 59 = .ok (.ireturn, 1) := by decide +kernel
theorem dX12_laysState_0 : decode cX12_laysState 0 = .ok (.aload_n 0, 1) := by decide +kernel
theorem dX12_laysState_1 : decode cX12_laysState 1 = .ok (.getfield 7, 3) := by decide +kernel
theorem dX12_laysState_4 : decode cX12_laysState 4 = .ok (.iconst 0, 1) := by decide +kernel
theorem dX12_laysState_5 : decode cX12_laysState 5 = .ok (.iload_n 1, 1) := by decide +kernel
theorem dX12_laysState_6 : decode cX12_laysState 6 = .ok (.iadd, 1) := by decide +kernel
theorem dX12_laysState_7 : decode cX12_laysState 7 = .ok (.iload_n 2, 1) := by decide +kernel
theorem dX12_laysState_8 : decode cX12_laysState 8 = .ok (.bipush 20, 2) := by decide +kernel
theorem dX12_laysState_10 : decode cX12_laysState 10 = .ok (.irem, 1) := by decide +kernel
theorem dX12_laysState_11 : decode cX12_laysState 11 = .ok (.iastore, 1) := by decide +kernel
theorem dX12_laysState_12 : decode cX12_laysState 12 = .ok (.aload_n 0, 1) := by decide +kernel
theorem dX12_laysState_13 : decode cX12_laysState 13 = .ok (.getfield 7, 3) := by decide +kernel
theorem dX12_laysState_16 : decode cX12_laysState 16 = .ok (.bipush 12, 2) := by decide +kernel
theorem dX12_laysState_18 : decode cX12_laysState 18 = .ok (.iload_n 1, 1) := by decide +kernel
theorem dX12_laysState_19 : decode cX12_laysState 19 = .ok (.iadd, 1) := by decide +kernel
theorem dX12_laysState_20 : decode cX12_laysState 20 = .ok (.iload_n 2, 1) := by decide +kernel
theorem dX12_laysState_21 : decode cX12_laysState 21 = .ok (.bipush 20, 2) := by decide +kernel
theorem dX12_laysState_23 : decode cX12_laysState 23 = .ok (.idiv, 1) := by decide +kernel
theorem dX12_laysState_24 : decode cX12_laysState 24 = .ok (.bipush 10, 2) := by decide +kernel
theorem dX12_laysState_26 : decode cX12_laysState 26 = .ok (.irem, 1) := by decide +kernel
theorem dX12_laysState_27 : decode cX12_laysState 27 = .ok (.iastore, 1) := by decide +kernel
theorem dX12_laysState_28 : decode cX12_laysState 28 = .ok (.aload_n 0, 1) := by decide +kernel
theorem dX12_laysState_29 : decode cX12_laysState 29 = .ok (.getfield 7, 3) := by decide +kernel
theorem dX12_laysState_32 : decode cX12_laysState 32 = .ok (.bipush 24, 2) := by decide +kernel
theorem dX12_laysState_34 : decode cX12_laysState 34 = .ok (.iload_n 1, 1) := by decide +kernel
theorem dX12_laysState_35 : decode cX12_laysState 35 = .ok (.iadd, 1) := by decide +kernel
theorem dX12_laysState_36 : decode cX12_laysState 36 = .ok (.iload_n 2, 1) := by decide +kernel
theorem dX12_laysState_37 : decode cX12_laysState 37 = .ok (.sipush 200, 3) := by decide +kernel
theorem dX12_laysState_40 : decode cX12_laysState 40 = .ok (.idiv, 1) := by decide +kernel
theorem dX12_laysState_41 : decode cX12_laysState 41 = .ok (.bipush 10, 2) := by decide +kernel
theorem dX12_laysState_43 : decode cX12_laysState 43 = .ok (.irem, 1) := by decide +kernel
theorem dX12_laysState_44 : decode cX12_laysState 44 = .ok (.iastore, 1) := by decide +kernel
theorem dX12_laysState_45 : decode cX12_laysState 45 = .ok (.aload_n 0, 1) := by decide +kernel
theorem dX12_laysState_46 : decode cX12_laysState 46 = .ok (.getfield 7, 3) := by decide +kernel
theorem dX12_laysState_49 : decode cX12_laysState 49 = .ok (.bipush 36, 2) := by decide +kernel
theorem dX12_laysState_51 : decode cX12_laysState 51 = .ok (.iload_n 1, 1) := by decide +kernel
theorem dX12_laysState_52 : decode cX12_laysState 52 = .ok (.iadd, 1) := by decide +kernel
theorem dX12_laysState_53 : decode cX12_laysState 53 = .ok (.iload_n 2, 1) := by decide +kernel
theorem dX12_laysState_54 : decode cX12_laysState 54 = .ok (.sipush 2000, 3) := by decide +kernel
theorem dX12_laysState_57 : decode cX12_laysState 57 = .ok (.idiv, 1) := by decide +kernel
theorem dX12_laysState_58 : decode cX12_laysState 58 = .ok (.iconst 2, 1) := by decide +kernel
theorem dX12_laysState_59 : decode cX12_laysState 59 = .ok (.irem, 1) := by decide +kernel
theorem dX12_laysState_60 : decode cX12_laysState 60 = .ok (.iastore, 1) := by decide +kernel
theorem dX12_laysState_61 : decode cX12_laysState 61 = .ok (.aload_n 0, 1) := by decide +kernel
theorem dX12_laysState_62 : decode cX12_laysState 62 = .ok (.getfield 7, 3) := by decide +kernel
theorem dX12_laysState_65 : decode cX12_laysState 65 = .ok (.bipush 60, 2) := by decide +kernel
theorem dX12_laysState_67 : decode cX12_laysState 67 = .ok (.iload_n 1, 1) := by decide +kernel
theorem dX12_laysState_68 : decode cX12_laysState 68 = .ok (.iadd, 1) := by decide +kernel
theorem dX12_laysState_69 : decode cX12_laysState 69 = .ok (.iload_n 2, 1) := by decide +kernel
theorem dX12_laysState_70 : decode cX12_laysState 70 = .ok (.sipush 4000, 3) := by decide +kernel
theorem dX12_laysState_73 : decode cX12_laysState 73 = .ok (.idiv, 1) := by decide +kernel
theorem dX12_laysState_74 : decode cX12_laysState 74 = .ok (.iastore, 1) := by decide +kernel
theorem dX12_laysState_75 : decode cX12_laysState 75 = .ok (.aload_n 0, 1) := by decide +kernel
theorem dX12_laysState_76 : decode cX12_laysState 76 = .ok (.getfield 7, 3) := by decide +kernel
theorem dX12_laysState_79 : decode cX12_laysState 79 = .ok (.bipush 48, 2) := by decide +kernel
theorem dX12_laysState_81 : decode cX12_laysState 81 = .ok (.iload_n 1, 1) := by decide +kernel
theorem dX12_laysState_82 : decode cX12_laysState 82 = .ok (.iadd, 1) := by decide +kernel
theorem dX12_laysState_83 : decode cX12_laysState 83 = .ok (.iconst 0, 1) := by decide +kernel
theorem dX12_laysState_84 : decode cX12_laysState 84 = .ok (.iastore, 1) := by decide +kernel
theorem dX12_laysState_85 : decode cX12_laysState 85 = .ok (.return_, 1) := by decide +kernel
theorem dX12_nextOf_0 : decode cX12_nextOf 0 = .ok (.aload_n 0, 1) := by decide +kernel
theorem dX12_nextOf_1 : decode cX12_nextOf 1 = .ok (.getfield 7, 3) := by decide +kernel
theorem dX12_nextOf_4 : decode cX12_nextOf 4 = .ok (.bipush 60, 2) := by decide +kernel
theorem dX12_nextOf_6 : decode cX12_nextOf 6 = .ok (.iload_n 1, 1) := by decide +kernel
theorem dX12_nextOf_7 : decode cX12_nextOf 7 = .ok (.iadd, 1) := by decide +kernel
theorem dX12_nextOf_8 : decode cX12_nextOf 8 = .ok (.iaload, 1) := by decide +kernel
theorem dX12_nextOf_9 : decode cX12_nextOf 9 = .ok (.istore_n 3, 1) := by decide +kernel
theorem dX12_nextOf_10 : decode cX12_nextOf 10 = .ok (.iload_n 3, 1) := by decide +kernel
theorem dX12_nextOf_11 : decode cX12_nextOf 11 = .ok (.aload_n 0, 1) := by decide +kernel
theorem dX12_nextOf_12 : decode cX12_nextOf 12 = .ok (.getfield 19, 3) := by decide +kernel
theorem dX12_nextOf_15 : decode cX12_nextOf 15 = .ok (.iload_n 1, 1) := by decide +kernel
theorem dX12_nextOf_16 : decode cX12_nextOf 16 = .ok (.iaload, 1) := by decide +kernel
theorem dX12_nextOf_17 : decode cX12_nextOf 17 = .ok (.if_icmp .ge 25, 3) := by decide +kernel
theorem dX12_nextOf_20 : decode cX12_nextOf 20 = .ok (.aload_n 0, 1) := by decide +kernel
theorem dX12_nextOf_21 : decode cX12_nextOf 21 = .ok (.getfield 22, 3) := by decide +kernel
theorem dX12_nextOf_24 : decode cX12_nextOf 24 = .ok (.iload_n 1, 1) := by decide +kernel
theorem dX12_nextOf_25 : decode cX12_nextOf 25 = .ok (.iload_n 3, 1) := by decide +kernel
theorem dX12_nextOf_26 : decode cX12_nextOf 26 = .ok (.invokestatic 280, 3) := by decide +kernel
theorem dX12_nextOf_29 : decode cX12_nextOf 29 = .ok (.iaload, 1) := by decide +kernel
theorem dX12_nextOf_30 : decode cX12_nextOf 30 = .ok (.iload_n 2, 1) := by decide +kernel
theorem dX12_nextOf_31 : decode cX12_nextOf 31 = .ok (.if_icmp .ne 5, 3) := by decide +kernel
theorem dX12_nextOf_34 : decode cX12_nextOf 34 = .ok (.iload_n 3, 1) := by decide +kernel
theorem dX12_nextOf_35 : decode cX12_nextOf 35 = .ok (.ireturn, 1) := by decide +kernel
theorem dX12_nextOf_36 : decode cX12_nextOf 36 = .ok (.iinc 3 1, 3) := by decide +kernel
theorem dX12_nextOf_39 : decode cX12_nextOf 39 = .ok (.goto (-29), 3) := by decide +kernel
theorem dX12_nextOf_42 : decode cX12_nextOf 42 = .ok (.iconst (-1), 1) := by decide +kernel
theorem dX12_nextOf_43 : decode cX12_nextOf 43 = .ok (.ireturn, 1) := by decide +kernel
theorem dX12_laysPlan_0 : decode cX12_laysPlan 0 = .ok (.aload_n 0, 1) := by decide +kernel
theorem dX12_laysPlan_1 : decode cX12_laysPlan 1 = .ok (.iload_n 1, 1) := by decide +kernel
theorem dX12_laysPlan_2 : decode cX12_laysPlan 2 = .ok (.invokevirtual 357, 3) := by decide +kernel
theorem dX12_laysPlan_5 : decode cX12_laysPlan 5 = .ok (.istore_n 3, 1) := by decide +kernel
theorem dX12_laysPlan_6 : decode cX12_laysPlan 6 = .ok (.aload_n 0, 1) := by decide +kernel
theorem dX12_laysPlan_7 : decode cX12_laysPlan 7 = .ok (.getfield 84, 3) := by decide +kernel
theorem dX12_laysPlan_10 : decode cX12_laysPlan 10 = .ok (.iconst 0, 1) := by decide +kernel
theorem dX12_laysPlan_11 : decode cX12_laysPlan 11 = .ok (.iload_n 3, 1) := by decide +kernel
theorem dX12_laysPlan_12 : decode cX12_laysPlan 12 = .ok (.iastore, 1) := by decide +kernel
theorem dX12_laysPlan_13 : decode cX12_laysPlan 13 = .ok (.aload_n 0, 1) := by decide +kernel
theorem dX12_laysPlan_14 : decode cX12_laysPlan 14 = .ok (.getfield 87, 3) := by decide +kernel
theorem dX12_laysPlan_17 : decode cX12_laysPlan 17 = .ok (.iload_n 3, 1) := by decide +kernel
theorem dX12_laysPlan_18 : decode cX12_laysPlan 18 = .ok (.iconst 1, 1) := by decide +kernel
theorem dX12_laysPlan_19 : decode cX12_laysPlan 19 = .ok (.bastore, 1) := by decide +kernel
theorem dX12_laysPlan_20 : decode cX12_laysPlan 20 = .ok (.iconst 1, 1) := by decide +kernel
theorem dX12_laysPlan_21 : decode cX12_laysPlan 21 = .ok (.istore 4, 2) := by decide +kernel
theorem dX12_laysPlan_23 : decode cX12_laysPlan 23 = .ok (.aload_n 0, 1) := by decide +kernel
theorem dX12_laysPlan_24 : decode cX12_laysPlan 24 = .ok (.bipush (-3), 2) := by decide +kernel
theorem dX12_laysPlan_26 : decode cX12_laysPlan 26 = .ok (.putfield 360, 3) := by decide +kernel
theorem dX12_laysPlan_29 : decode cX12_laysPlan 29 = .ok (.aload_n 0, 1) := by decide +kernel
theorem dX12_laysPlan_30 : decode cX12_laysPlan 30 = .ok (.bipush (-3), 2) := by decide +kernel
theorem dX12_laysPlan_32 : decode cX12_laysPlan 32 = .ok (.putfield 363, 3) := by decide +kernel
theorem dX12_laysPlan_35 : decode cX12_laysPlan 35 = .ok (.iconst 0, 1) := by decide +kernel
theorem dX12_laysPlan_36 : decode cX12_laysPlan 36 = .ok (.istore 5, 2) := by decide +kernel
theorem dX12_laysPlan_38 : decode cX12_laysPlan 38 = .ok (.iload 5, 2) := by decide +kernel
theorem dX12_laysPlan_40 : decode cX12_laysPlan 40 = .ok (.iload 4, 2) := by decide +kernel
theorem dX12_laysPlan_42 : decode cX12_laysPlan 42 = .ok (.if_icmp .ge 227, 3) := by decide +kernel
theorem dX12_laysPlan_45 : decode cX12_laysPlan 45 = .ok (.aload_n 0, 1) := by decide +kernel
theorem dX12_laysPlan_46 : decode cX12_laysPlan 46 = .ok (.getfield 360, 3) := by decide +kernel
theorem dX12_laysPlan_49 : decode cX12_laysPlan 49 = .ok (.bipush (-3), 2) := by decide +kernel
theorem dX12_laysPlan_51 : decode cX12_laysPlan 51 = .ok (.if_icmp .ne 218, 3) := by decide +kernel
theorem dX12_laysPlan_54 : decode cX12_laysPlan 54 = .ok (.aload_n 0, 1) := by decide +kernel
theorem dX12_laysPlan_55 : decode cX12_laysPlan 55 = .ok (.getfield 87, 3) := by decide +kernel
theorem dX12_laysPlan_58 : decode cX12_laysPlan 58 = .ok (.aload_n 0, 1) := by decide +kernel
theorem dX12_laysPlan_59 : decode cX12_laysPlan 59 = .ok (.getfield 84, 3) := by decide +kernel
theorem dX12_laysPlan_62 : decode cX12_laysPlan 62 = .ok (.iload 5, 2) := by decide +kernel
theorem dX12_laysPlan_64 : decode cX12_laysPlan 64 = .ok (.iaload, 1) := by decide +kernel
theorem dX12_laysPlan_65 : decode cX12_laysPlan 65 = .ok (.baload, 1) := by decide +kernel
theorem dX12_laysPlan_66 : decode cX12_laysPlan 66 = .ok (.bipush 20, 2) := by decide +kernel
theorem dX12_laysPlan_68 : decode cX12_laysPlan 68 = .ok (.if_icmp .gt 201, 3) := by decide +kernel
theorem dX12_laysPlan_71 : decode cX12_laysPlan 71 = .ok (.iconst 0, 1) := by decide +kernel
theorem dX12_laysPlan_72 : decode cX12_laysPlan 72 = .ok (.istore 6, 2) := by decide +kernel
theorem dX12_laysPlan_74 : decode cX12_laysPlan 74 = .ok (.iload 6, 2) := by decide +kernel
theorem dX12_laysPlan_76 : decode cX12_laysPlan 76 = .ok (.bipush 6, 2) := by decide +kernel
theorem dX12_laysPlan_78 : decode cX12_laysPlan 78 = .ok (.if_icmp .ge 185, 3) := by decide +kernel
theorem dX12_laysPlan_81 : decode cX12_laysPlan 81 = .ok (.aload_n 0, 1) := by decide +kernel
theorem dX12_laysPlan_82 : decode cX12_laysPlan 82 = .ok (.getfield 360, 3) := by decide +kernel
theorem dX12_laysPlan_85 : decode cX12_laysPlan 85 = .ok (.bipush (-3), 2) := by decide +kernel
theorem dX12_laysPlan_87 : decode cX12_laysPlan 87 = .ok (.if_icmp .ne 176, 3) := by decide +kernel
theorem dX12_laysPlan_90 : decode cX12_laysPlan 90 = .ok (.aload_n 0, 1) := by decide +kernel
theorem dX12_laysPlan_91 : decode cX12_laysPlan 91 = .ok (.iload_n 1, 1) := by decide +kernel
theorem dX12_laysPlan_92 : decode cX12_laysPlan 92 = .ok (.aload_n 0, 1) := by decide +kernel
theorem dX12_laysPlan_93 : decode cX12_laysPlan 93 = .ok (.getfield 84, 3) := by decide +kernel
theorem dX12_laysPlan_96 : decode cX12_laysPlan 96 = .ok (.iload 5, 2) := by decide +kernel
theorem dX12_laysPlan_98 : decode cX12_laysPlan 98 = .ok (.iaload, 1) := by decide +kernel
theorem dX12_laysPlan_99 : decode cX12_laysPlan 99 = .ok (.invokevirtual 366, 3) := by decide +kernel
theorem dX12_laysPlan_102 : decode cX12_laysPlan 102 = .ok (.aload_n 0, 1) := by decide +kernel
theorem dX12_laysPlan_103 : decode cX12_laysPlan 103 = .ok (.iload_n 1, 1) := by decide +kernel
theorem dX12_laysPlan_104 : decode cX12_laysPlan 104 = .ok (.iconst 0, 1) := by decide +kernel
theorem dX12_laysPlan_105 : decode cX12_laysPlan 105 = .ok (.iconst 0, 1) := by decide +kernel
theorem dX12_laysPlan_106 : decode cX12_laysPlan 106 = .ok (.invokevirtual 332, 3) := by decide +kernel
theorem dX12_laysPlan_109 : decode cX12_laysPlan 109 = .ok (.aload_n 0, 1) := by decide +kernel
theorem dX12_laysPlan_110 : decode cX12_laysPlan 110 = .ok (.iload_n 1, 1) := by decide +kernel
theorem dX12_laysPlan_111 : decode cX12_laysPlan 111 = .ok (.iload 6, 2) := by decide +kernel
theorem dX12_laysPlan_113 : decode cX12_laysPlan 113 = .ok (.iconst 0, 1) := by decide +kernel
theorem dX12_laysPlan_114 : decode cX12_laysPlan 114 = .ok (.invokevirtual 336, 3) := by decide +kernel
theorem dX12_laysPlan_117 : decode cX12_laysPlan 117 = .ok (.aload_n 0, 1) := by decide +kernel
theorem dX12_laysPlan_118 : decode cX12_laysPlan 118 = .ok (.iload_n 1, 1) := by decide +kernel
theorem dX12_laysPlan_119 : decode cX12_laysPlan 119 = .ok (.invokevirtual 357, 3) := by decide +kernel
theorem dX12_laysPlan_122 : decode cX12_laysPlan 122 = .ok (.istore 7, 2) := by decide +kernel
theorem dX12_laysPlan_124 : decode cX12_laysPlan 124 = .ok (.aload_n 0, 1) := by decide +kernel
theorem dX12_laysPlan_125 : decode cX12_laysPlan 125 = .ok (.getfield 7, 3) := by decide +kernel
theorem dX12_laysPlan_128 : decode cX12_laysPlan 128 = .ok (.bipush 48, 2) := by decide +kernel
theorem dX12_laysPlan_130 : decode cX12_laysPlan 130 = .ok (.iload_n 1, 1) := by decide +kernel
theorem dX12_laysPlan_131 : decode cX12_laysPlan 131 = .ok (.iadd, 1) := by decide +kernel
theorem dX12_laysPlan_132 : decode cX12_laysPlan 132 = .ok (.iaload, 1) := by decide +kernel
theorem dX12_laysPlan_133 : decode cX12_laysPlan 133 = .ok (.iconst 1, 1) := by decide +kernel
theorem dX12_laysPlan_134 : decode cX12_laysPlan 134 = .ok (.if_icmp .eq 123, 3) := by decide +kernel
theorem dX12_laysPlan_137 : decode cX12_laysPlan 137 = .ok (.aload_n 0, 1) := by decide +kernel
theorem dX12_laysPlan_138 : decode cX12_laysPlan 138 = .ok (.getfield 87, 3) := by decide +kernel
theorem dX12_laysPlan_141 : decode cX12_laysPlan 141 = .ok (.iload 7, 2) := by decide +kernel
theorem dX12_laysPlan_143 : decode cX12_laysPlan 143 = .ok (.baload, 1) := by decide +kernel
theorem dX12_laysPlan_144 : decode cX12_laysPlan 144 = .ok (.ifCond .eq 6, 3) := by decide +kernel
theorem dX12_laysPlan_147 : decode cX12_laysPlan 147 = .ok (.goto 110, 3) := by decide +kernel
theorem dX12_laysPlan_150 : decode cX12_laysPlan 150 = .ok (.aload_n 0, 1) := by decide +kernel
theorem dX12_laysPlan_151 : decode cX12_laysPlan 151 = .ok (.getfield 87, 3) := by decide +kernel
theorem dX12_laysPlan_154 : decode cX12_laysPlan 154 = .ok (.iload 7, 2) := by decide +kernel
theorem dX12_laysPlan_156 : decode cX12_laysPlan 156 = .ok (.aload_n 0, 1) := by decide +kernel
theorem dX12_laysPlan_157 : decode cX12_laysPlan 157 = .ok (.getfield 87, 3) := by decide +kernel
theorem dX12_laysPlan_160 : decode cX12_laysPlan 160 = .ok (.aload_n 0, 1) := by decide +kernel
theorem dX12_laysPlan_161 : decode cX12_laysPlan 161 = .ok (.getfield 84, 3) := by decide +kernel
theorem dX12_laysPlan_164 : decode cX12_laysPlan 164 = .ok (.iload 5, 2) := by decide +kernel
theorem dX12_laysPlan_166 : decode cX12_laysPlan 166 = .ok (.iaload, 1) := by decide +kernel
theorem dX12_laysPlan_167 : decode cX12_laysPlan 167 = .ok (.baload, 1) := by decide +kernel
theorem dX12_laysPlan_168 : decode cX12_laysPlan 168 = .ok (.iconst 1, 1) := by decide +kernel
theorem dX12_laysPlan_169 : decode cX12_laysPlan 169 = .ok (.iadd, 1) := by decide +kernel
theorem dX12_laysPlan_170 : decode cX12_laysPlan 170 = .ok (.i2b, 1) := by decide +kernel
theorem dX12_laysPlan_171 : decode cX12_laysPlan 171 = .ok (.bastore, 1) := by decide +kernel
theorem dX12_laysPlan_172 : decode cX12_laysPlan 172 = .ok (.aload_n 0, 1) := by decide +kernel
theorem dX12_laysPlan_173 : decode cX12_laysPlan 173 = .ok (.getfield 90, 3) := by decide +kernel
theorem dX12_laysPlan_176 : decode cX12_laysPlan 176 = .ok (.iload 7, 2) := by decide +kernel
theorem dX12_laysPlan_178 : decode cX12_laysPlan 178 = .ok (.iload 5, 2) := by decide +kernel
theorem dX12_laysPlan_180 : decode cX12_laysPlan 180 = .ok (.ifCond .ne 9, 3) := by decide +kernel
theorem dX12_laysPlan_183 : decode cX12_laysPlan 183 = .ok (.iload 6, 2) := by decide +kernel
theorem dX12_laysPlan_185 : decode cX12_laysPlan 185 = .ok (.i2b, 1) := by decide +kernel
theorem dX12_laysPlan_186 : decode cX12_laysPlan 186 = .ok (.goto 15, 3) := by decide +kernel
theorem dX12_laysPlan_189 : decode cX12_laysPlan 189 = .ok (.aload_n 0, 1) := by decide +kernel
theorem dX12_laysPlan_190 : decode cX12_laysPlan 190 = .ok (.getfield 90, 3) := by decide +kernel
theorem dX12_laysPlan_193 : decode cX12_laysPlan 193 = .ok (.aload_n 0, 1) := by decide +kernel
theorem dX12_laysPlan_194 : decode cX12_laysPlan 194 = .ok (.getfield 84, 3) := by decide +kernel
theorem dX12_laysPlan_197 : decode cX12_laysPlan 197 = .ok (.iload 5, 2) := by decide +kernel
theorem dX12_laysPlan_199 : decode cX12_laysPlan 199 = .ok (.iaload, 1) := by decide +kernel
theorem dX12_laysPlan_200 : decode cX12_laysPlan 200 = .ok (.baload, 1) := by decide +kernel
theorem dX12_laysPlan_201 : decode cX12_laysPlan 201 = .ok (.bastore, 1) := by decide +kernel
theorem dX12_laysPlan_202 : decode cX12_laysPlan 202 = .ok (.aload_n 0, 1) := by decide +kernel
theorem dX12_laysPlan_203 : decode cX12_laysPlan 203 = .ok (.getfield 84, 3) := by decide +kernel
theorem dX12_laysPlan_206 : decode cX12_laysPlan 206 = .ok (.iload 4, 2) := by decide +kernel
theorem dX12_laysPlan_208 : decode cX12_laysPlan 208 = .ok (.iload 7, 2) := by decide +kernel
theorem dX12_laysPlan_210 : decode cX12_laysPlan 210 = .ok (.iastore, 1) := by decide +kernel
theorem dX12_laysPlan_211 : decode cX12_laysPlan 211 = .ok (.iload 4, 2) := by decide +kernel
theorem dX12_laysPlan_213 : decode cX12_laysPlan 213 = .ok (.iconst 1, 1) := by decide +kernel
theorem dX12_laysPlan_214 : decode cX12_laysPlan 214 = .ok (.iadd, 1) := by decide +kernel
theorem dX12_laysPlan_215 : decode cX12_laysPlan 215 = .ok (.istore 4, 2) := by decide +kernel
theorem dX12_laysPlan_217 : decode cX12_laysPlan 217 = .ok (.aload_n 0, 1) := by decide +kernel
theorem dX12_laysPlan_218 : decode cX12_laysPlan 218 = .ok (.getfield 7, 3) := by decide +kernel
theorem dX12_laysPlan_221 : decode cX12_laysPlan 221 = .ok (.bipush 60, 2) := by decide +kernel
theorem dX12_laysPlan_223 : decode cX12_laysPlan 223 = .ok (.iload_n 1, 1) := by decide +kernel
theorem dX12_laysPlan_224 : decode cX12_laysPlan 224 = .ok (.iadd, 1) := by decide +kernel
theorem dX12_laysPlan_225 : decode cX12_laysPlan 225 = .ok (.iaload, 1) := by decide +kernel
theorem dX12_laysPlan_226 : decode cX12_laysPlan 226 = .ok (.iload_n 2, 1) := by decide +kernel
theorem dX12_laysPlan_227 : decode cX12_laysPlan 227 = .ok (.if_icmp .gt 6, 3) := by decide +kernel
theorem dX12_laysPlan_230 : decode cX12_laysPlan 230 = .ok (.goto 27, 3) := by decide +kernel
theorem dX12_laysPlan_233 : decode cX12_laysPlan 233 = .ok (.aload_n 0, 1) := by decide +kernel
theorem dX12_laysPlan_234 : decode cX12_laysPlan 234 = .ok (.aload_n 0, 1) := by decide +kernel
theorem dX12_laysPlan_235 : decode cX12_laysPlan 235 = .ok (.getfield 87, 3) := by decide +kernel
theorem dX12_laysPlan_238 : decode cX12_laysPlan 238 = .ok (.iload 7, 2) := by decide +kernel
theorem dX12_laysPlan_240 : decode cX12_laysPlan 240 = .ok (.baload, 1) := by decide +kernel
theorem dX12_laysPlan_241 : decode cX12_laysPlan 241 = .ok (.iconst 1, 1) := by decide +kernel
theorem dX12_laysPlan_242 : decode cX12_laysPlan 242 = .ok (.isub, 1) := by decide +kernel
theorem dX12_laysPlan_243 : decode cX12_laysPlan 243 = .ok (.putfield 360, 3) := by decide +kernel
theorem dX12_laysPlan_246 : decode cX12_laysPlan 246 = .ok (.aload_n 0, 1) := by decide +kernel
theorem dX12_laysPlan_247 : decode cX12_laysPlan 247 = .ok (.aload_n 0, 1) := by decide +kernel
theorem dX12_laysPlan_248 : decode cX12_laysPlan 248 = .ok (.getfield 90, 3) := by decide +kernel
theorem dX12_laysPlan_251 : decode cX12_laysPlan 251 = .ok (.iload 7, 2) := by decide +kernel
theorem dX12_laysPlan_253 : decode cX12_laysPlan 253 = .ok (.baload, 1) := by decide +kernel
theorem dX12_laysPlan_254 : decode cX12_laysPlan 254 = .ok (.putfield 363, 3) := by decide +kernel
theorem dX12_laysPlan_257 : decode cX12_laysPlan 257 = .ok (.iinc 6 1, 3) := by decide +kernel
theorem dX12_laysPlan_260 : decode cX12_laysPlan 260 = .ok (.goto (-186), 3) := by decide +kernel
theorem dX12_laysPlan_263 : decode cX12_laysPlan 263 = .ok (.iinc 5 1, 3) := by decide +kernel
theorem dX12_laysPlan_266 : decode cX12_laysPlan 266 = .ok (.goto (-228), 3) := by decide +kernel
theorem dX12_laysPlan_269 : decode cX12_laysPlan 269 = .ok (.iconst 0, 1) := by decide +kernel
theorem dX12_laysPlan_270 : decode cX12_laysPlan 270 = .ok (.istore 5, 2) := by decide +kernel
theorem dX12_laysPlan_272 : decode cX12_laysPlan 272 = .ok (.iload 5, 2) := by decide +kernel
theorem dX12_laysPlan_274 : decode cX12_laysPlan 274 = .ok (.iload 4, 2) := by decide +kernel
theorem dX12_laysPlan_276 : decode cX12_laysPlan 276 = .ok (.if_icmp .ge 22, 3) := by decide +kernel
theorem dX12_laysPlan_279 : decode cX12_laysPlan 279 = .ok (.aload_n 0, 1) := by decide +kernel
theorem dX12_laysPlan_280 : decode cX12_laysPlan 280 = .ok (.getfield 87, 3) := by decide +kernel
theorem dX12_laysPlan_283 : decode cX12_laysPlan 283 = .ok (.aload_n 0, 1) := by decide +kernel
theorem dX12_laysPlan_284 : decode cX12_laysPlan 284 = .ok (.getfield 84, 3) := by decide +kernel
theorem dX12_laysPlan_287 : decode cX12_laysPlan 287 = .ok (.iload 5, 2) := by decide +kernel
theorem dX12_laysPlan_289 : decode cX12_laysPlan 289 = .ok (.iaload, 1) := by decide +kernel
theorem dX12_laysPlan_290 : decode cX12_laysPlan 290 = .ok (.iconst 0, 1) := by decide +kernel
theorem dX12_laysPlan_291 : decode cX12_laysPlan 291 = .ok (.bastore, 1) := by decide +kernel
theorem dX12_laysPlan_292 : decode cX12_laysPlan 292 = .ok (.iinc 5 1, 3) := by decide +kernel
theorem dX12_laysPlan_295 : decode cX12_laysPlan 295 = .ok (.goto (-23), 3) := by decide +kernel
theorem dX12_laysPlan_298 : decode cX12_laysPlan 298 = .ok (.return_, 1) := by decide +kernel
theorem dX12_plan_0 : decode cX12_plan 0 = .ok (.aload_n 0, 1) := by decide +kernel
theorem dX12_plan_1 : decode cX12_plan 1 = .ok (.iload_n 1, 1) := by decide +kernel
theorem dX12_plan_2 : decode cX12_plan 2 = .ok (.invokevirtual 340, 3) := by decide +kernel
theorem dX12_plan_5 : decode cX12_plan 5 = .ok (.ifCond .eq 22, 3) := by decide +kernel
theorem dX12_plan_8 : decode cX12_plan 8 = .ok (.iload_n 2, 1) := by decide +kernel
theorem dX12_plan_9 : decode cX12_plan 9 = .ok (.iconst 0, 1) := by decide +kernel
theorem dX12_plan_10 : decode cX12_plan 10 = .ok (.bipush 99, 2) := by decide +kernel
theorem dX12_plan_12 : decode cX12_plan 12 = .ok (.invokestatic 124, 3) := by decide +kernel
theorem dX12_plan_15 : decode cX12_plan 15 = .ok (.ifCond .eq 12, 3) := by decide +kernel
theorem dX12_plan_18 : decode cX12_plan 18 = .ok (.iload_n 3, 1) := by decide +kernel
theorem dX12_plan_19 : decode cX12_plan 19 = .ok (.iconst 0, 1) := by decide +kernel
theorem dX12_plan_20 : decode cX12_plan 20 = .ok (.iconst 1, 1) := by decide +kernel
theorem dX12_plan_21 : decode cX12_plan 21 = .ok (.invokestatic 124, 3) := by decide +kernel
theorem dX12_plan_24 : decode cX12_plan 24 = .ok (.ifCond .ne 5, 3) := by decide +kernel
theorem dX12_plan_27 : decode cX12_plan 27 = .ok (.iconst (-1), 1) := by decide +kernel
theorem dX12_plan_28 : decode cX12_plan 28 = .ok (.ireturn, 1) := by decide +kernel
theorem dX12_plan_29 : decode cX12_plan 29 = .ok (.aload_n 0, 1) := by decide +kernel
theorem dX12_plan_30 : decode cX12_plan 30 = .ok (.iload_n 1, 1) := by decide +kernel
theorem dX12_plan_31 : decode cX12_plan 31 = .ok (.iload_n 2, 1) := by decide +kernel
theorem dX12_plan_32 : decode cX12_plan 32 = .ok (.invokevirtual 369, 3) := by decide +kernel
theorem dX12_plan_35 : decode cX12_plan 35 = .ok (.istore 4, 2) := by decide +kernel
theorem dX12_plan_37 : decode cX12_plan 37 = .ok (.iload 4, 2) := by decide +kernel
theorem dX12_plan_39 : decode cX12_plan 39 = .ok (.iconst (-1), 1) := by decide +kernel
theorem dX12_plan_40 : decode cX12_plan 40 = .ok (.if_icmp .eq 16, 3) := by decide +kernel
theorem dX12_plan_43 : decode cX12_plan 43 = .ok (.aload_n 0, 1) := by decide +kernel
theorem dX12_plan_44 : decode cX12_plan 44 = .ok (.getfield 7, 3) := by decide +kernel
theorem dX12_plan_47 : decode cX12_plan 47 = .ok (.bipush 48, 2) := by decide +kernel
theorem dX12_plan_49 : decode cX12_plan 49 = .ok (.iload_n 1, 1) := by decide +kernel
theorem dX12_plan_50 : decode cX12_plan 50 = .ok (.iadd, 1) := by decide +kernel
theorem dX12_plan_51 : decode cX12_plan 51 = .ok (.iaload, 1) := by decide +kernel
theorem dX12_plan_52 : decode cX12_plan 52 = .ok (.iconst 1, 1) := by decide +kernel
theorem dX12_plan_53 : decode cX12_plan 53 = .ok (.if_icmp .ne 6, 3) := by decide +kernel
theorem dX12_plan_56 : decode cX12_plan 56 = .ok (.bipush (-2), 2) := by decide +kernel
theorem dX12_plan_58 : decode cX12_plan 58 = .ok (.ireturn, 1) := by decide +kernel
theorem dX12_plan_59 : decode cX12_plan 59 = .ok (.aload_n 0, 1) := by decide +kernel
theorem dX12_plan_60 : decode cX12_plan 60 = .ok (.getfield 7, 3) := by decide +kernel
theorem dX12_plan_63 : decode cX12_plan 63 = .ok (.aload_n 0, 1) := by decide +kernel
theorem dX12_plan_64 : decode cX12_plan 64 = .ok (.getfield 13, 3) := by decide +kernel
theorem dX12_plan_67 : decode cX12_plan 67 = .ok (.invokestatic 346, 3) := by decide +kernel
theorem dX12_plan_70 : decode cX12_plan 70 = .ok (.aload_n 0, 1) := by decide +kernel
theorem dX12_plan_71 : decode cX12_plan 71 = .ok (.iload_n 1, 1) := by decide +kernel
theorem dX12_plan_72 : decode cX12_plan 72 = .ok (.iload 4, 2) := by decide +kernel
theorem dX12_plan_74 : decode cX12_plan 74 = .ok (.invokevirtual 372, 3) := by decide +kernel
theorem dX12_plan_77 : decode cX12_plan 77 = .ok (.aload_n 0, 1) := by decide +kernel
theorem dX12_plan_78 : decode cX12_plan 78 = .ok (.getfield 13, 3) := by decide +kernel
theorem dX12_plan_81 : decode cX12_plan 81 = .ok (.aload_n 0, 1) := by decide +kernel
theorem dX12_plan_82 : decode cX12_plan 82 = .ok (.getfield 7, 3) := by decide +kernel
theorem dX12_plan_85 : decode cX12_plan 85 = .ok (.invokestatic 346, 3) := by decide +kernel
theorem dX12_plan_88 : decode cX12_plan 88 = .ok (.iload_n 3, 1) := by decide +kernel
theorem dX12_plan_89 : decode cX12_plan 89 = .ok (.ifCond .ne 10, 3) := by decide +kernel
theorem dX12_plan_92 : decode cX12_plan 92 = .ok (.aload_n 0, 1) := by decide +kernel
theorem dX12_plan_93 : decode cX12_plan 93 = .ok (.getfield 360, 3) := by decide +kernel
theorem dX12_plan_96 : decode cX12_plan 96 = .ok (.goto 7, 3) := by decide +kernel
theorem dX12_plan_99 : decode cX12_plan 99 = .ok (.aload_n 0, 1) := by decide +kernel
theorem dX12_plan_100 : decode cX12_plan 100 = .ok (.getfield 363, 3) := by decide +kernel
theorem dX12_plan_103 : decode cX12_plan 103 = .ok (.ireturn, 1) := by decide +kernel
theorem dX12_heard_0 : decode cX12_heard 0 = .ok (.iload_n 1, 1) := by decide +kernel
theorem dX12_heard_1 : decode cX12_heard 1 = .ok (.iconst 0, 1) := by decide +kernel
theorem dX12_heard_2 : decode cX12_heard 2 = .ok (.ldc_w 375, 3) := by decide +kernel
theorem dX12_heard_5 : decode cX12_heard 5 = .ok (.invokestatic 124, 3) := by decide +kernel
theorem dX12_heard_8 : decode cX12_heard 8 = .ok (.ifCond .eq 12, 3) := by decide +kernel
theorem dX12_heard_11 : decode cX12_heard 11 = .ok (.iload_n 2, 1) := by decide +kernel
theorem dX12_heard_12 : decode cX12_heard 12 = .ok (.iconst 0, 1) := by decide +kernel
theorem dX12_heard_13 : decode cX12_heard 13 = .ok (.iconst 1, 1) := by decide +kernel
theorem dX12_heard_14 : decode cX12_heard 14 = .ok (.invokestatic 124, 3) := by decide +kernel
theorem dX12_heard_17 : decode cX12_heard 17 = .ok (.ifCond .ne 5, 3) := by decide +kernel
theorem dX12_heard_20 : decode cX12_heard 20 = .ok (.iconst (-1), 1) := by decide +kernel
theorem dX12_heard_21 : decode cX12_heard 21 = .ok (.ireturn, 1) := by decide +kernel
theorem dX12_heard_22 : decode cX12_heard 22 = .ok (.bipush (-2), 2) := by decide +kernel
theorem dX12_heard_24 : decode cX12_heard 24 = .ok (.istore_n 3, 1) := by decide +kernel
theorem dX12_heard_25 : decode cX12_heard 25 = .ok (.iconst 0, 1) := by decide +kernel
theorem dX12_heard_26 : decode cX12_heard 26 = .ok (.istore 4, 2) := by decide +kernel
theorem dX12_heard_28 : decode cX12_heard 28 = .ok (.iload 4, 2) := by decide +kernel
theorem dX12_heard_30 : decode cX12_heard 30 = .ok (.sipush 4096, 3) := by decide +kernel
theorem dX12_heard_33 : decode cX12_heard 33 = .ok (.if_icmp .ge 116, 3) := by decide +kernel
theorem dX12_heard_36 : decode cX12_heard 36 = .ok (.iconst 0, 1) := by decide +kernel
theorem dX12_heard_37 : decode cX12_heard 37 = .ok (.istore 5, 2) := by decide +kernel
theorem dX12_heard_39 : decode cX12_heard 39 = .ok (.iconst 1, 1) := by decide +kernel
theorem dX12_heard_40 : decode cX12_heard 40 = .ok (.istore 6, 2) := by decide +kernel
theorem dX12_heard_42 : decode cX12_heard 42 = .ok (.iconst 0, 1) := by decide +kernel
theorem dX12_heard_43 : decode cX12_heard 43 = .ok (.istore 7, 2) := by decide +kernel
theorem dX12_heard_45 : decode cX12_heard 45 = .ok (.iload 7, 2) := by decide +kernel
theorem dX12_heard_47 : decode cX12_heard 47 = .ok (.bipush 12, 2) := by decide +kernel
theorem dX12_heard_49 : decode cX12_heard 49 = .ok (.if_icmp .ge 59, 3) := by decide +kernel
theorem dX12_heard_52 : decode cX12_heard 52 = .ok (.iload 4, 2) := by decide +kernel
theorem dX12_heard_54 : decode cX12_heard 54 = .ok (.iload 7, 2) := by decide +kernel
theorem dX12_heard_56 : decode cX12_heard 56 = .ok (.invokestatic 376, 3) := by decide +kernel
theorem dX12_heard_59 : decode cX12_heard 59 = .ok (.ifCond .ne 6, 3) := by decide +kernel
theorem dX12_heard_62 : decode cX12_heard 62 = .ok (.goto 40, 3) := by decide +kernel
theorem dX12_heard_65 : decode cX12_heard 65 = .ok (.iload 6, 2) := by decide +kernel
theorem dX12_heard_67 : decode cX12_heard 67 = .ok (.ifCond .eq 16, 3) := by decide +kernel
theorem dX12_heard_70 : decode cX12_heard 70 = .ok (.aload_n 0, 1) := by decide +kernel
theorem dX12_heard_71 : decode cX12_heard 71 = .ok (.iload 7, 2) := by decide +kernel
theorem dX12_heard_73 : decode cX12_heard 73 = .ok (.invokevirtual 340, 3) := by decide +kernel
theorem dX12_heard_76 : decode cX12_heard 76 = .ok (.ifCond .eq 7, 3) := by decide +kernel
theorem dX12_heard_79 : decode cX12_heard 79 = .ok (.iconst 1, 1) := by decide +kernel
theorem dX12_heard_80 : decode cX12_heard 80 = .ok (.goto 4, 3) := by decide +kernel
theorem dX12_heard_83 : decode cX12_heard 83 = .ok (.iconst 0, 1) := by decide +kernel
theorem dX12_heard_84 : decode cX12_heard 84 = .ok (.istore 6, 2) := by decide +kernel
theorem dX12_heard_86 : decode cX12_heard 86 = .ok (.iload 6, 2) := by decide +kernel
theorem dX12_heard_88 : decode cX12_heard 88 = .ok (.ifCond .eq 14, 3) := by decide +kernel
theorem dX12_heard_91 : decode cX12_heard 91 = .ok (.iload 5, 2) := by decide +kernel
theorem dX12_heard_93 : decode cX12_heard 93 = .ok (.aload_n 0, 1) := by decide +kernel
theorem dX12_heard_94 : decode cX12_heard 94 = .ok (.iload 7, 2) := by decide +kernel
theorem dX12_heard_96 : decode cX12_heard 96 = .ok (.invokevirtual 354, 3) := by decide +kernel
theorem dX12_heard_99 : decode cX12_heard 99 = .ok (.ior, 1) := by decide +kernel
theorem dX12_heard_100 : decode cX12_heard 100 = .ok (.istore 5, 2) := by decide +kernel
theorem dX12_heard_102 : decode cX12_heard 102 = .ok (.iinc 7 1, 3) := by decide +kernel
theorem dX12_heard_105 : decode cX12_heard 105 = .ok (.goto (-60), 3) := by decide +kernel
theorem dX12_heard_108 : decode cX12_heard 108 = .ok (.iload 6, 2) := by decide +kernel
theorem dX12_heard_110 : decode cX12_heard 110 = .ok (.ifCond .eq 33, 3) := by decide +kernel
theorem dX12_heard_113 : decode cX12_heard 113 = .ok (.iload_n 1, 1) := by decide +kernel
theorem dX12_heard_114 : decode cX12_heard 114 = .ok (.iload 5, 2) := by decide +kernel
theorem dX12_heard_116 : decode cX12_heard 116 = .ok (.iconst (-1), 1) := by decide +kernel
theorem dX12_heard_117 : decode cX12_heard 117 = .ok (.ixor, 1) := by decide +kernel
theorem dX12_heard_118 : decode cX12_heard 118 = .ok (.iand, 1) := by decide +kernel
theorem dX12_heard_119 : decode cX12_heard 119 = .ok (.ifCond .ne 24, 3) := by decide +kernel
theorem dX12_heard_122 : decode cX12_heard 122 = .ok (.iload_n 3, 1) := by decide +kernel
theorem dX12_heard_123 : decode cX12_heard 123 = .ok (.bipush (-2), 2) := by decide +kernel
theorem dX12_heard_125 : decode cX12_heard 125 = .ok (.if_icmp .eq 15, 3) := by decide +kernel
theorem dX12_heard_128 : decode cX12_heard 128 = .ok (.iload 4, 2) := by decide +kernel
theorem dX12_heard_130 : decode cX12_heard 130 = .ok (.invokestatic 379, 3) := by decide +kernel
theorem dX12_heard_133 : decode cX12_heard 133 = .ok (.iload_n 3, 1) := by decide +kernel
theorem dX12_heard_134 : decode cX12_heard 134 = .ok (.invokestatic 379, 3) := by decide +kernel
theorem dX12_heard_137 : decode cX12_heard 137 = .ok (.if_icmp .ge 6, 3) := by decide +kernel
theorem dX12_heard_140 : decode cX12_heard 140 = .ok (.iload 4, 2) := by decide +kernel
theorem dX12_heard_142 : decode cX12_heard 142 = .ok (.istore_n 3, 1) := by decide +kernel
theorem dX12_heard_143 : decode cX12_heard 143 = .ok (.iinc 4 1, 3) := by decide +kernel
theorem dX12_heard_146 : decode cX12_heard 146 = .ok (.goto (-118), 3) := by decide +kernel
theorem dX12_heard_149 : decode cX12_heard 149 = .ok (.iload_n 2, 1) := by decide +kernel
theorem dX12_heard_150 : decode cX12_heard 150 = .ok (.iconst 1, 1) := by decide +kernel
theorem dX12_heard_151 : decode cX12_heard 151 = .ok (.if_icmp .eq 9, 3) := by decide +kernel
theorem dX12_heard_154 : decode cX12_heard 154 = .ok (.iload_n 3, 1) := by decide +kernel
theorem dX12_heard_155 : decode cX12_heard 155 = .ok (.bipush (-2), 2) := by decide +kernel
theorem dX12_heard_157 : decode cX12_heard 157 = .ok (.if_icmp .ne 7, 3) := by decide +kernel
theorem dX12_heard_160 : decode cX12_heard 160 = .ok (.iload_n 3, 1) := by decide +kernel
theorem dX12_heard_161 : decode cX12_heard 161 = .ok (.goto 7, 3) := by decide +kernel
theorem dX12_heard_164 : decode cX12_heard 164 = .ok (.iload_n 3, 1) := by decide +kernel
theorem dX12_heard_165 : decode cX12_heard 165 = .ok (.invokestatic 379, 3) := by decide +kernel
theorem dX12_heard_168 : decode cX12_heard 168 = .ok (.ireturn, 1) := by decide +kernel
theorem dX12_agree_0 : decode cX12_agree 0 = .ok (.aload_n 0, 1) := by decide +kernel
theorem dX12_agree_1 : decode cX12_agree 1 = .ok (.iload_n 1, 1) := by decide +kernel
theorem dX12_agree_2 : decode cX12_agree 2 = .ok (.invokevirtual 340, 3) := by decide +kernel
theorem dX12_agree_5 : decode cX12_agree 5 = .ok (.ifCond .eq 11, 3) := by decide +kernel
theorem dX12_agree_8 : decode cX12_agree 8 = .ok (.aload_n 0, 1) := by decide +kernel
theorem dX12_agree_9 : decode cX12_agree 9 = .ok (.iload_n 2, 1) := by decide +kernel
theorem dX12_agree_10 : decode cX12_agree 10 = .ok (.invokevirtual 340, 3) := by decide +kernel
theorem dX12_agree_13 : decode cX12_agree 13 = .ok (.ifCond .ne 5, 3) := by decide +kernel
theorem dX12_agree_16 : decode cX12_agree 16 = .ok (.iconst (-1), 1) := by decide +kernel
theorem dX12_agree_17 : decode cX12_agree 17 = .ok (.ireturn, 1) := by decide +kernel
theorem dX12_agree_18 : decode cX12_agree 18 = .ok (.iconst 0, 1) := by decide +kernel
theorem dX12_agree_19 : decode cX12_agree 19 = .ok (.istore_n 3, 1) := by decide +kernel
theorem dX12_agree_20 : decode cX12_agree 20 = .ok (.iload_n 3, 1) := by decide +kernel
theorem dX12_agree_21 : decode cX12_agree 21 = .ok (.bipush 24, 2) := by decide +kernel
theorem dX12_agree_23 : decode cX12_agree 23 = .ok (.if_icmp .gt 16, 3) := by decide +kernel
theorem dX12_agree_26 : decode cX12_agree 26 = .ok (.aload_n 0, 1) := by decide +kernel
theorem dX12_agree_27 : decode cX12_agree 27 = .ok (.getfield 93, 3) := by decide +kernel
theorem dX12_agree_30 : decode cX12_agree 30 = .ok (.iload_n 3, 1) := by decide +kernel
theorem dX12_agree_31 : decode cX12_agree 31 = .ok (.iconst 0, 1) := by decide +kernel
theorem dX12_agree_32 : decode cX12_agree 32 = .ok (.iastore, 1) := by decide +kernel
theorem dX12_agree_33 : decode cX12_agree 33 = .ok (.iinc 3 1, 3) := by decide +kernel
theorem dX12_agree_36 : decode cX12_agree 36 = .ok (.goto (-16), 3) := by decide +kernel
theorem dX12_agree_39 : decode cX12_agree 39 = .ok (.iconst 0, 1) := by decide +kernel
theorem dX12_agree_40 : decode cX12_agree 40 = .ok (.istore_n 3, 1) := by decide +kernel
theorem dX12_agree_41 : decode cX12_agree 41 = .ok (.iload_n 3, 1) := by decide +kernel
theorem dX12_agree_42 : decode cX12_agree 42 = .ok (.aload_n 0, 1) := by decide +kernel
theorem dX12_agree_43 : decode cX12_agree 43 = .ok (.getfield 19, 3) := by decide +kernel
theorem dX12_agree_46 : decode cX12_agree 46 = .ok (.iload_n 1, 1) := by decide +kernel
theorem dX12_agree_47 : decode cX12_agree 47 = .ok (.iaload, 1) := by decide +kernel
theorem dX12_agree_48 : decode cX12_agree 48 = .ok (.if_icmp .ge 142, 3) := by decide +kernel
theorem dX12_agree_51 : decode cX12_agree 51 = .ok (.iconst 0, 1) := by decide +kernel
theorem dX12_agree_52 : decode cX12_agree 52 = .ok (.istore 4, 2) := by decide +kernel
theorem dX12_agree_54 : decode cX12_agree 54 = .ok (.iconst 0, 1) := by decide +kernel
theorem dX12_agree_55 : decode cX12_agree 55 = .ok (.istore 5, 2) := by decide +kernel
theorem dX12_agree_57 : decode cX12_agree 57 = .ok (.iload 5, 2) := by decide +kernel
theorem dX12_agree_59 : decode cX12_agree 59 = .ok (.aload_n 0, 1) := by decide +kernel
theorem dX12_agree_60 : decode cX12_agree 60 = .ok (.getfield 19, 3) := by decide +kernel
theorem dX12_agree_63 : decode cX12_agree 63 = .ok (.iload_n 2, 1) := by decide +kernel
theorem dX12_agree_64 : decode cX12_agree 64 = .ok (.iaload, 1) := by decide +kernel
theorem dX12_agree_65 : decode cX12_agree 65 = .ok (.if_icmp .ge 119, 3) := by decide +kernel
theorem dX12_agree_68 : decode cX12_agree 68 = .ok (.aload_n 0, 1) := by decide +kernel
theorem dX12_agree_69 : decode cX12_agree 69 = .ok (.getfield 93, 3) := by decide +kernel
theorem dX12_agree_72 : decode cX12_agree 72 = .ok (.iload 5, 2) := by decide +kernel
theorem dX12_agree_74 : decode cX12_agree 74 = .ok (.iconst 1, 1) := by decide +kernel
theorem dX12_agree_75 : decode cX12_agree 75 = .ok (.iadd, 1) := by decide +kernel
theorem dX12_agree_76 : decode cX12_agree 76 = .ok (.iaload, 1) := by decide +kernel
theorem dX12_agree_77 : decode cX12_agree 77 = .ok (.istore 6, 2) := by decide +kernel
theorem dX12_agree_79 : decode cX12_agree 79 = .ok (.aload_n 0, 1) := by decide +kernel
theorem dX12_agree_80 : decode cX12_agree 80 = .ok (.getfield 22, 3) := by decide +kernel
theorem dX12_agree_83 : decode cX12_agree 83 = .ok (.iload_n 1, 1) := by decide +kernel
theorem dX12_agree_84 : decode cX12_agree 84 = .ok (.iload_n 3, 1) := by decide +kernel
theorem dX12_agree_85 : decode cX12_agree 85 = .ok (.invokestatic 280, 3) := by decide +kernel
theorem dX12_agree_88 : decode cX12_agree 88 = .ok (.iaload, 1) := by decide +kernel
theorem dX12_agree_89 : decode cX12_agree 89 = .ok (.aload_n 0, 1) := by decide +kernel
theorem dX12_agree_90 : decode cX12_agree 90 = .ok (.getfield 22, 3) := by decide +kernel
theorem dX12_agree_93 : decode cX12_agree 93 = .ok (.iload_n 2, 1) := by decide +kernel
theorem dX12_agree_94 : decode cX12_agree 94 = .ok (.iload 5, 2) := by decide +kernel
theorem dX12_agree_96 : decode cX12_agree 96 = .ok (.invokestatic 280, 3) := by decide +kernel
theorem dX12_agree_99 : decode cX12_agree 99 = .ok (.iaload, 1) := by decide +kernel
theorem dX12_agree_100 : decode cX12_agree 100 = .ok (.if_icmp .ne 31, 3) := by decide +kernel
theorem dX12_agree_103 : decode cX12_agree 103 = .ok (.aload_n 0, 1) := by decide +kernel
theorem dX12_agree_104 : decode cX12_agree 104 = .ok (.getfield 25, 3) := by decide +kernel
theorem dX12_agree_107 : decode cX12_agree 107 = .ok (.iload_n 1, 1) := by decide +kernel
theorem dX12_agree_108 : decode cX12_agree 108 = .ok (.iload_n 3, 1) := by decide +kernel
theorem dX12_agree_109 : decode cX12_agree 109 = .ok (.invokestatic 280, 3) := by decide +kernel
theorem dX12_agree_112 : decode cX12_agree 112 = .ok (.iaload, 1) := by decide +kernel
theorem dX12_agree_113 : decode cX12_agree 113 = .ok (.aload_n 0, 1) := by decide +kernel
theorem dX12_agree_114 : decode cX12_agree 114 = .ok (.getfield 25, 3) := by decide +kernel
theorem dX12_agree_117 : decode cX12_agree 117 = .ok (.iload_n 2, 1) := by decide +kernel
theorem dX12_agree_118 : decode cX12_agree 118 = .ok (.iload 5, 2) := by decide +kernel
theorem dX12_agree_120 : decode cX12_agree 120 = .ok (.invokestatic 280, 3) := by decide +kernel
theorem dX12_agree_123 : decode cX12_agree 123 = .ok (.iaload, 1) := by decide +kernel
theorem dX12_agree_124 : decode cX12_agree 124 = .ok (.if_icmp .ne 7, 3) := by decide +kernel
theorem dX12_agree_127 : decode cX12_agree 127 = .ok (.iconst 1, 1) := by decide +kernel
theorem dX12_agree_128 : decode cX12_agree 128 = .ok (.goto 4, 3) := by decide +kernel
theorem dX12_agree_131 : decode cX12_agree 131 = .ok (.iconst 0, 1) := by decide +kernel
theorem dX12_agree_132 : decode cX12_agree 132 = .ok (.istore 7, 2) := by decide +kernel
theorem dX12_agree_134 : decode cX12_agree 134 = .ok (.aload_n 0, 1) := by decide +kernel
theorem dX12_agree_135 : decode cX12_agree 135 = .ok (.getfield 93, 3) := by decide +kernel
theorem dX12_agree_138 : decode cX12_agree 138 = .ok (.iload 5, 2) := by decide +kernel
theorem dX12_agree_140 : decode cX12_agree 140 = .ok (.iconst 1, 1) := by decide +kernel
theorem dX12_agree_141 : decode cX12_agree 141 = .ok (.iadd, 1) := by decide +kernel
theorem dX12_agree_142 : decode cX12_agree 142 = .ok (.iload 7, 2) := by decide +kernel
theorem dX12_agree_144 : decode cX12_agree 144 = .ok (.ifCond .eq 10, 3) := by decide +kernel
theorem dX12_agree_147 : decode cX12_agree 147 = .ok (.iload 4, 2) := by decide +kernel
theorem dX12_agree_149 : decode cX12_agree 149 = .ok (.iconst 1, 1) := by decide +kernel
theorem dX12_agree_150 : decode cX12_agree 150 = .ok (.iadd, 1) := by decide +kernel
theorem dX12_agree_151 : decode cX12_agree 151 = .ok (.goto 22, 3) := by decide +kernel
theorem dX12_agree_154 : decode cX12_agree 154 = .ok (.aload_n 0, 1) := by decide +kernel
theorem dX12_agree_155 : decode cX12_agree 155 = .ok (.getfield 93, 3) := by decide +kernel
theorem dX12_agree_158 : decode cX12_agree 158 = .ok (.iload 5, 2) := by decide +kernel
theorem dX12_agree_160 : decode cX12_agree 160 = .ok (.iconst 1, 1) := by decide +kernel
theorem dX12_agree_161 : decode cX12_agree 161 = .ok (.iadd, 1) := by decide +kernel
theorem dX12_agree_162 : decode cX12_agree 162 = .ok (.iaload, 1) := by decide +kernel
theorem dX12_agree_163 : decode cX12_agree 163 = .ok (.aload_n 0, 1) := by decide +kernel
theorem dX12_agree_164 : decode cX12_agree 164 = .ok (.getfield 93, 3) := by decide +kernel
theorem dX12_agree_167 : decode cX12_agree 167 = .ok (.iload 5, 2) := by decide +kernel
theorem dX12_agree_169 : decode cX12_agree 169 = .ok (.iaload, 1) := by decide +kernel
theorem dX12_agree_170 : decode cX12_agree 170 = .ok (.invokestatic 298, 3) := by decide +kernel
theorem dX12_agree_173 : decode cX12_agree 173 = .ok (.iastore, 1) := by decide +kernel
theorem dX12_agree_174 : decode cX12_agree 174 = .ok (.iload 6, 2) := by decide +kernel
theorem dX12_agree_176 : decode cX12_agree 176 = .ok (.istore 4, 2) := by decide +kernel
theorem dX12_agree_178 : decode cX12_agree 178 = .ok (.iinc 5 1, 3) := by decide +kernel
theorem dX12_agree_181 : decode cX12_agree 181 = .ok (.goto (-124), 3) := by decide +kernel
theorem dX12_agree_184 : decode cX12_agree 184 = .ok (.iinc 3 1, 3) := by decide +kernel
theorem dX12_agree_187 : decode cX12_agree 187 = .ok (.goto (-146), 3) := by decide +kernel
theorem dX12_agree_190 : decode cX12_agree 190 = .ok (.aload_n 0, 1) := by decide +kernel
theorem dX12_agree_191 : decode cX12_agree 191 = .ok (.getfield 93, 3) := by decide +kernel
theorem dX12_agree_194 : decode cX12_agree 194 = .ok (.aload_n 0, 1) := by decide +kernel
theorem dX12_agree_195 : decode cX12_agree 195 = .ok (.getfield 19, 3) := by decide +kernel
theorem dX12_agree_198 : decode cX12_agree 198 = .ok (.iload_n 2, 1) := by decide +kernel
theorem dX12_agree_199 : decode cX12_agree 199 = .ok (.iaload, 1) := by decide +kernel
theorem dX12_agree_200 : decode cX12_agree 200 = .ok (.iaload, 1) := by decide +kernel
theorem dX12_agree_201 : decode cX12_agree 201 = .ok (.ireturn, 1) := by decide +kernel
theorem dX12_sinsOfYear_0 : decode cX12_sinsOfYear 0 = .ok (.iconst 0, 1) := by decide +kernel
theorem dX12_sinsOfYear_1 : decode cX12_sinsOfYear 1 = .ok (.istore 4, 2) := by decide +kernel
theorem dX12_sinsOfYear_3 : decode cX12_sinsOfYear 3 = .ok (.iload_n 3, 1) := by decide +kernel
theorem dX12_sinsOfYear_4 : decode cX12_sinsOfYear 4 = .ok (.istore 5, 2) := by decide +kernel
theorem dX12_sinsOfYear_6 : decode cX12_sinsOfYear 6 = .ok (.iload 5, 2) := by decide +kernel
theorem dX12_sinsOfYear_8 : decode cX12_sinsOfYear 8 = .ok (.aload_n 0, 1) := by decide +kernel
theorem dX12_sinsOfYear_9 : decode cX12_sinsOfYear 9 = .ok (.getfield 19, 3) := by decide +kernel
theorem dX12_sinsOfYear_12 : decode cX12_sinsOfYear 12 = .ok (.iload_n 1, 1) := by decide +kernel
theorem dX12_sinsOfYear_13 : decode cX12_sinsOfYear 13 = .ok (.iaload, 1) := by decide +kernel
theorem dX12_sinsOfYear_14 : decode cX12_sinsOfYear 14 = .ok (.if_icmp .ge 42, 3) := by decide +kernel
theorem dX12_sinsOfYear_17 : decode cX12_sinsOfYear 17 = .ok (.aload_n 0, 1) := by decide +kernel
theorem dX12_sinsOfYear_18 : decode cX12_sinsOfYear 18 = .ok (.getfield 22, 3) := by decide +kernel
theorem dX12_sinsOfYear_21 : decode cX12_sinsOfYear 21 = .ok (.iload_n 1, 1) := by decide +kernel
theorem dX12_sinsOfYear_22 : decode cX12_sinsOfYear 22 = .ok (.iload 5, 2) := by decide +kernel
theorem dX12_sinsOfYear_24 : decode cX12_sinsOfYear 24 = .ok (.invokestatic 280, 3) := by decide +kernel
theorem dX12_sinsOfYear_27 : decode cX12_sinsOfYear 27 = .ok (.iaload, 1) := by decide +kernel
theorem dX12_sinsOfYear_28 : decode cX12_sinsOfYear 28 = .ok (.iload_n 2, 1) := by decide +kernel
theorem dX12_sinsOfYear_29 : decode cX12_sinsOfYear 29 = .ok (.if_icmp .ne 21, 3) := by decide +kernel
theorem dX12_sinsOfYear_32 : decode cX12_sinsOfYear 32 = .ok (.iload 4, 2) := by decide +kernel
theorem dX12_sinsOfYear_34 : decode cX12_sinsOfYear 34 = .ok (.iconst 1, 1) := by decide +kernel
theorem dX12_sinsOfYear_35 : decode cX12_sinsOfYear 35 = .ok (.aload_n 0, 1) := by decide +kernel
theorem dX12_sinsOfYear_36 : decode cX12_sinsOfYear 36 = .ok (.getfield 25, 3) := by decide +kernel
theorem dX12_sinsOfYear_39 : decode cX12_sinsOfYear 39 = .ok (.iload_n 1, 1) := by decide +kernel
theorem dX12_sinsOfYear_40 : decode cX12_sinsOfYear 40 = .ok (.iload 5, 2) := by decide +kernel
theorem dX12_sinsOfYear_42 : decode cX12_sinsOfYear 42 = .ok (.invokestatic 280, 3) := by decide +kernel
theorem dX12_sinsOfYear_45 : decode cX12_sinsOfYear 45 = .ok (.iaload, 1) := by decide +kernel
theorem dX12_sinsOfYear_46 : decode cX12_sinsOfYear 46 = .ok (.ishl, 1) := by decide +kernel
theorem dX12_sinsOfYear_47 : decode cX12_sinsOfYear 47 = .ok (.ior, 1) := by decide +kernel
theorem dX12_sinsOfYear_48 : decode cX12_sinsOfYear 48 = .ok (.istore 4, 2) := by decide +kernel
theorem dX12_sinsOfYear_50 : decode cX12_sinsOfYear 50 = .ok (.iinc 5 1, 3) := by decide +kernel
theorem dX12_sinsOfYear_53 : decode cX12_sinsOfYear 53 = .ok (.goto (-47), 3) := by decide +kernel
theorem dX12_sinsOfYear_56 : decode cX12_sinsOfYear 56 = .ok (.iload 4, 2) := by decide +kernel
theorem dX12_sinsOfYear_58 : decode cX12_sinsOfYear 58 = .ok (.ireturn, 1) := by decide +kernel
theorem dX12_atOdds_0 : decode cX12_atOdds 0 = .ok (.aload_n 0, 1) := by decide +kernel
theorem dX12_atOdds_1 : decode cX12_atOdds 1 = .ok (.iload_n 1, 1) := by decide +kernel
theorem dX12_atOdds_2 : decode cX12_atOdds 2 = .ok (.invokevirtual 340, 3) := by decide +kernel
theorem dX12_atOdds_5 : decode cX12_atOdds 5 = .ok (.ifCond .eq 11, 3) := by decide +kernel
theorem dX12_atOdds_8 : decode cX12_atOdds 8 = .ok (.aload_n 0, 1) := by decide +kernel
theorem dX12_atOdds_9 : decode cX12_atOdds 9 = .ok (.iload_n 2, 1) := by decide +kernel
theorem dX12_atOdds_10 : decode cX12_atOdds 10 = .ok (.invokevirtual 340, 3) := by decide +kernel
theorem dX12_atOdds_13 : decode cX12_atOdds 13 = .ok (.ifCond .ne 5, 3) := by decide +kernel
theorem dX12_atOdds_16 : decode cX12_atOdds 16 = .ok (.iconst (-1), 1) := by decide +kernel
theorem dX12_atOdds_17 : decode cX12_atOdds 17 = .ok (.ireturn, 1) := by decide +kernel
theorem dX12_atOdds_18 : decode cX12_atOdds 18 = .ok (.iconst 0, 1) := by decide +kernel
theorem dX12_atOdds_19 : decode cX12_atOdds 19 = .ok (.istore_n 3, 1) := by decide +kernel
theorem dX12_atOdds_20 : decode cX12_atOdds 20 = .ok (.iconst 0, 1) := by decide +kernel
theorem dX12_atOdds_21 : decode cX12_atOdds 21 = .ok (.istore 4, 2) := by decide +kernel
theorem dX12_atOdds_23 : decode cX12_atOdds 23 = .ok (.iload 4, 2) := by decide +kernel
theorem dX12_atOdds_25 : decode cX12_atOdds 25 = .ok (.bipush 100, 2) := by decide +kernel
theorem dX12_atOdds_27 : decode cX12_atOdds 27 = .ok (.if_icmp .ge 51, 3) := by decide +kernel
theorem dX12_atOdds_30 : decode cX12_atOdds 30 = .ok (.aload_n 0, 1) := by decide +kernel
theorem dX12_atOdds_31 : decode cX12_atOdds 31 = .ok (.iload_n 1, 1) := by decide +kernel
theorem dX12_atOdds_32 : decode cX12_atOdds 32 = .ok (.iload 4, 2) := by decide +kernel
theorem dX12_atOdds_34 : decode cX12_atOdds 34 = .ok (.iconst 0, 1) := by decide +kernel
theorem dX12_atOdds_35 : decode cX12_atOdds 35 = .ok (.invokevirtual 382, 3) := by decide +kernel
theorem dX12_atOdds_38 : decode cX12_atOdds 38 = .ok (.istore 5, 2) := by decide +kernel
theorem dX12_atOdds_40 : decode cX12_atOdds 40 = .ok (.aload_n 0, 1) := by decide +kernel
theorem dX12_atOdds_41 : decode cX12_atOdds 41 = .ok (.iload_n 2, 1) := by decide +kernel
theorem dX12_atOdds_42 : decode cX12_atOdds 42 = .ok (.iload 4, 2) := by decide +kernel
theorem dX12_atOdds_44 : decode cX12_atOdds 44 = .ok (.iconst 0, 1) := by decide +kernel
theorem dX12_atOdds_45 : decode cX12_atOdds 45 = .ok (.invokevirtual 382, 3) := by decide +kernel
theorem dX12_atOdds_48 : decode cX12_atOdds 48 = .ok (.istore 6, 2) := by decide +kernel
theorem dX12_atOdds_50 : decode cX12_atOdds 50 = .ok (.iload 5, 2) := by decide +kernel
theorem dX12_atOdds_52 : decode cX12_atOdds 52 = .ok (.ifCond .eq 20, 3) := by decide +kernel
theorem dX12_atOdds_55 : decode cX12_atOdds 55 = .ok (.iload 6, 2) := by decide +kernel
theorem dX12_atOdds_57 : decode cX12_atOdds 57 = .ok (.ifCond .eq 15, 3) := by decide +kernel
theorem dX12_atOdds_60 : decode cX12_atOdds 60 = .ok (.iload 5, 2) := by decide +kernel
theorem dX12_atOdds_62 : decode cX12_atOdds 62 = .ok (.iload 6, 2) := by decide +kernel
theorem dX12_atOdds_64 : decode cX12_atOdds 64 = .ok (.iand, 1) := by decide +kernel
theorem dX12_atOdds_65 : decode cX12_atOdds 65 = .ok (.ifCond .ne 7, 3) := by decide +kernel
theorem dX12_atOdds_68 : decode cX12_atOdds 68 = .ok (.iload_n 3, 1) := by decide +kernel
theorem dX12_atOdds_69 : decode cX12_atOdds 69 = .ok (.iconst 1, 1) := by decide +kernel
theorem dX12_atOdds_70 : decode cX12_atOdds 70 = .ok (.iadd, 1) := by decide +kernel
theorem dX12_atOdds_71 : decode cX12_atOdds 71 = .ok (.istore_n 3, 1) := by decide +kernel
theorem dX12_atOdds_72 : decode cX12_atOdds 72 = .ok (.iinc 4 1, 3) := by decide +kernel
theorem dX12_atOdds_75 : decode cX12_atOdds 75 = .ok (.goto (-52), 3) := by decide +kernel
theorem dX12_atOdds_78 : decode cX12_atOdds 78 = .ok (.iload_n 3, 1) := by decide +kernel
theorem dX12_atOdds_79 : decode cX12_atOdds 79 = .ok (.ireturn, 1) := by decide +kernel
theorem dX12_years_0 : decode cX12_years 0 = .ok (.iload_n 1, 1) := by decide +kernel
theorem dX12_years_1 : decode cX12_years 1 = .ok (.iconst 1, 1) := by decide +kernel
theorem dX12_years_2 : decode cX12_years 2 = .ok (.bipush 12, 2) := by decide +kernel
theorem dX12_years_4 : decode cX12_years 4 = .ok (.invokestatic 124, 3) := by decide +kernel
theorem dX12_years_7 : decode cX12_years 7 = .ok (.ifCond .eq 12, 3) := by decide +kernel
theorem dX12_years_10 : decode cX12_years 10 = .ok (.iload_n 2, 1) := by decide +kernel
theorem dX12_years_11 : decode cX12_years 11 = .ok (.iconst 0, 1) := by decide +kernel
theorem dX12_years_12 : decode cX12_years 12 = .ok (.iconst 1, 1) := by decide +kernel
theorem dX12_years_13 : decode cX12_years 13 = .ok (.invokestatic 124, 3) := by decide +kernel
theorem dX12_years_16 : decode cX12_years 16 = .ok (.ifCond .ne 5, 3) := by decide +kernel
theorem dX12_years_19 : decode cX12_years 19 = .ok (.iconst (-1), 1) := by decide +kernel
theorem dX12_years_20 : decode cX12_years 20 = .ok (.ireturn, 1) := by decide +kernel
theorem dX12_years_21 : decode cX12_years 21 = .ok (.iconst 0, 1) := by decide +kernel
theorem dX12_years_22 : decode cX12_years 22 = .ok (.istore_n 3, 1) := by decide +kernel
theorem dX12_years_23 : decode cX12_years 23 = .ok (.bipush (-2), 2) := by decide +kernel
theorem dX12_years_25 : decode cX12_years 25 = .ok (.istore 4, 2) := by decide +kernel
theorem dX12_years_27 : decode cX12_years 27 = .ok (.bipush 99, 2) := by decide +kernel
theorem dX12_years_29 : decode cX12_years 29 = .ok (.istore 5, 2) := by decide +kernel
theorem dX12_years_31 : decode cX12_years 31 = .ok (.iload 5, 2) := by decide +kernel
theorem dX12_years_33 : decode cX12_years 33 = .ok (.ifCond .lt 72, 3) := by decide +kernel
theorem dX12_years_36 : decode cX12_years 36 = .ok (.iconst 0, 1) := by decide +kernel
theorem dX12_years_37 : decode cX12_years 37 = .ok (.istore 6, 2) := by decide +kernel
theorem dX12_years_39 : decode cX12_years 39 = .ok (.iconst 0, 1) := by decide +kernel
theorem dX12_years_40 : decode cX12_years 40 = .ok (.istore 7, 2) := by decide +kernel
theorem dX12_years_42 : decode cX12_years 42 = .ok (.iload 7, 2) := by decide +kernel
theorem dX12_years_44 : decode cX12_years 44 = .ok (.bipush 12, 2) := by decide +kernel
theorem dX12_years_46 : decode cX12_years 46 = .ok (.if_icmp .ge 36, 3) := by decide +kernel
theorem dX12_years_49 : decode cX12_years 49 = .ok (.aload_n 0, 1) := by decide +kernel
theorem dX12_years_50 : decode cX12_years 50 = .ok (.iload 7, 2) := by decide +kernel
theorem dX12_years_52 : decode cX12_years 52 = .ok (.iload 5, 2) := by decide +kernel
theorem dX12_years_54 : decode cX12_years 54 = .ok (.aload_n 0, 1) := by decide +kernel
theorem dX12_years_55 : decode cX12_years 55 = .ok (.getfield 7, 3) := by decide +kernel
theorem dX12_years_58 : decode cX12_years 58 = .ok (.bipush 60, 2) := by decide +kernel
theorem dX12_years_60 : decode cX12_years 60 = .ok (.iload 7, 2) := by decide +kernel
theorem dX12_years_62 : decode cX12_years 62 = .ok (.iadd, 1) := by decide +kernel
theorem dX12_years_63 : decode cX12_years 63 = .ok (.iaload, 1) := by decide +kernel
theorem dX12_years_64 : decode cX12_years 64 = .ok (.invokevirtual 382, 3) := by decide +kernel
theorem dX12_years_67 : decode cX12_years 67 = .ok (.ifCond .eq 9, 3) := by decide +kernel
theorem dX12_years_70 : decode cX12_years 70 = .ok (.iload 6, 2) := by decide +kernel
theorem dX12_years_72 : decode cX12_years 72 = .ok (.iconst 1, 1) := by decide +kernel
theorem dX12_years_73 : decode cX12_years 73 = .ok (.iadd, 1) := by decide +kernel
theorem dX12_years_74 : decode cX12_years 74 = .ok (.istore 6, 2) := by decide +kernel
theorem dX12_years_76 : decode cX12_years 76 = .ok (.iinc 7 1, 3) := by decide +kernel
theorem dX12_years_79 : decode cX12_years 79 = .ok (.goto (-37), 3) := by decide +kernel
theorem dX12_years_82 : decode cX12_years 82 = .ok (.iload 6, 2) := by decide +kernel
theorem dX12_years_84 : decode cX12_years 84 = .ok (.iload_n 1, 1) := by decide +kernel
theorem dX12_years_85 : decode cX12_years 85 = .ok (.if_icmp .ge 6, 3) := by decide +kernel
theorem dX12_years_88 : decode cX12_years 88 = .ok (.goto 11, 3) := by decide +kernel
theorem dX12_years_91 : decode cX12_years 91 = .ok (.iload_n 3, 1) := by decide +kernel
theorem dX12_years_92 : decode cX12_years 92 = .ok (.iconst 1, 1) := by decide +kernel
theorem dX12_years_93 : decode cX12_years 93 = .ok (.iadd, 1) := by decide +kernel
theorem dX12_years_94 : decode cX12_years 94 = .ok (.istore_n 3, 1) := by decide +kernel
theorem dX12_years_95 : decode cX12_years 95 = .ok (.iload 5, 2) := by decide +kernel
theorem dX12_years_97 : decode cX12_years 97 = .ok (.istore 4, 2) := by decide +kernel
theorem dX12_years_99 : decode cX12_years 99 = .ok (.iinc 5 (-1), 3) := by decide +kernel
theorem dX12_years_102 : decode cX12_years 102 = .ok (.goto (-71), 3) := by decide +kernel
theorem dX12_years_105 : decode cX12_years 105 = .ok (.iload_n 2, 1) := by decide +kernel
theorem dX12_years_106 : decode cX12_years 106 = .ok (.ifCond .ne 7, 3) := by decide +kernel
theorem dX12_years_109 : decode cX12_years 109 = .ok (.iload_n 3, 1) := by decide +kernel
theorem dX12_years_110 : decode cX12_years 110 = .ok (.goto 5, 3) := by decide +kernel
theorem dX12_years_113 : decode cX12_years 113 = .ok (.iload 4, 2) := by decide +kernel
theorem dX12_years_115 : decode cX12_years 115 = .ok (.ireturn, 1) := by decide +kernel
theorem dX12_peak_0 : decode cX12_peak 0 = .ok (.iload_n 1, 1) := by decide +kernel
theorem dX12_peak_1 : decode cX12_peak 1 = .ok (.iconst 0, 1) := by decide +kernel
theorem dX12_peak_2 : decode cX12_peak 2 = .ok (.iconst 1, 1) := by decide +kernel
theorem dX12_peak_3 : decode cX12_peak 3 = .ok (.invokestatic 124, 3) := by decide +kernel
theorem dX12_peak_6 : decode cX12_peak 6 = .ok (.ifCond .ne 5, 3) := by decide +kernel
theorem dX12_peak_9 : decode cX12_peak 9 = .ok (.iconst (-1), 1) := by decide +kernel
theorem dX12_peak_10 : decode cX12_peak 10 = .ok (.ireturn, 1) := by decide +kernel
theorem dX12_peak_11 : decode cX12_peak 11 = .ok (.bipush (-2), 2) := by decide +kernel
theorem dX12_peak_13 : decode cX12_peak 13 = .ok (.istore_n 2, 1) := by decide +kernel
theorem dX12_peak_14 : decode cX12_peak 14 = .ok (.iconst 0, 1) := by decide +kernel
theorem dX12_peak_15 : decode cX12_peak 15 = .ok (.istore_n 3, 1) := by decide +kernel
theorem dX12_peak_16 : decode cX12_peak 16 = .ok (.iconst 0, 1) := by decide +kernel
theorem dX12_peak_17 : decode cX12_peak 17 = .ok (.istore 4, 2) := by decide +kernel
theorem dX12_peak_19 : decode cX12_peak 19 = .ok (.iload 4, 2) := by decide +kernel
theorem dX12_peak_21 : decode cX12_peak 21 = .ok (.bipush 100, 2) := by decide +kernel
theorem dX12_peak_23 : decode cX12_peak 23 = .ok (.if_icmp .ge 96, 3) := by decide +kernel
theorem dX12_peak_26 : decode cX12_peak 26 = .ok (.iconst 0, 1) := by decide +kernel
theorem dX12_peak_27 : decode cX12_peak 27 = .ok (.istore 5, 2) := by decide +kernel
theorem dX12_peak_29 : decode cX12_peak 29 = .ok (.iconst 0, 1) := by decide +kernel
theorem dX12_peak_30 : decode cX12_peak 30 = .ok (.istore 6, 2) := by decide +kernel
theorem dX12_peak_32 : decode cX12_peak 32 = .ok (.iload 6, 2) := by decide +kernel
theorem dX12_peak_34 : decode cX12_peak 34 = .ok (.bipush 12, 2) := by decide +kernel
theorem dX12_peak_36 : decode cX12_peak 36 = .ok (.if_icmp .ge 62, 3) := by decide +kernel
theorem dX12_peak_39 : decode cX12_peak 39 = .ok (.aload_n 0, 1) := by decide +kernel
theorem dX12_peak_40 : decode cX12_peak 40 = .ok (.getfield 7, 3) := by decide +kernel
theorem dX12_peak_43 : decode cX12_peak 43 = .ok (.bipush 60, 2) := by decide +kernel
theorem dX12_peak_45 : decode cX12_peak 45 = .ok (.iload 6, 2) := by decide +kernel
theorem dX12_peak_47 : decode cX12_peak 47 = .ok (.iadd, 1) := by decide +kernel
theorem dX12_peak_48 : decode cX12_peak 48 = .ok (.iaload, 1) := by decide +kernel
theorem dX12_peak_49 : decode cX12_peak 49 = .ok (.istore 7, 2) := by decide +kernel
theorem dX12_peak_51 : decode cX12_peak 51 = .ok (.iload 7, 2) := by decide +kernel
theorem dX12_peak_53 : decode cX12_peak 53 = .ok (.aload_n 0, 1) := by decide +kernel
theorem dX12_peak_54 : decode cX12_peak 54 = .ok (.getfield 19, 3) := by decide +kernel
theorem dX12_peak_57 : decode cX12_peak 57 = .ok (.iload 6, 2) := by decide +kernel
theorem dX12_peak_59 : decode cX12_peak 59 = .ok (.iaload, 1) := by decide +kernel
theorem dX12_peak_60 : decode cX12_peak 60 = .ok (.if_icmp .ge 32, 3) := by decide +kernel
theorem dX12_peak_63 : decode cX12_peak 63 = .ok (.aload_n 0, 1) := by decide +kernel
theorem dX12_peak_64 : decode cX12_peak 64 = .ok (.getfield 22, 3) := by decide +kernel
theorem dX12_peak_67 : decode cX12_peak 67 = .ok (.iload 6, 2) := by decide +kernel
theorem dX12_peak_69 : decode cX12_peak 69 = .ok (.iload 7, 2) := by decide +kernel
theorem dX12_peak_71 : decode cX12_peak 71 = .ok (.invokestatic 280, 3) := by decide +kernel
theorem dX12_peak_74 : decode cX12_peak 74 = .ok (.iaload, 1) := by decide +kernel
theorem dX12_peak_75 : decode cX12_peak 75 = .ok (.iload 4, 2) := by decide +kernel
theorem dX12_peak_77 : decode cX12_peak 77 = .ok (.if_icmp .ne 9, 3) := by decide +kernel
theorem dX12_peak_80 : decode cX12_peak 80 = .ok (.iload 5, 2) := by decide +kernel
theorem dX12_peak_82 : decode cX12_peak 82 = .ok (.iconst 1, 1) := by decide +kernel
theorem dX12_peak_83 : decode cX12_peak 83 = .ok (.iadd, 1) := by decide +kernel
theorem dX12_peak_84 : decode cX12_peak 84 = .ok (.istore 5, 2) := by decide +kernel
theorem dX12_peak_86 : decode cX12_peak 86 = .ok (.iinc 7 1, 3) := by decide +kernel
theorem dX12_peak_89 : decode cX12_peak 89 = .ok (.goto (-38), 3) := by decide +kernel
theorem dX12_peak_92 : decode cX12_peak 92 = .ok (.iinc 6 1, 3) := by decide +kernel
theorem dX12_peak_95 : decode cX12_peak 95 = .ok (.goto (-63), 3) := by decide +kernel
theorem dX12_peak_98 : decode cX12_peak 98 = .ok (.iload 5, 2) := by decide +kernel
theorem dX12_peak_100 : decode cX12_peak 100 = .ok (.iload_n 3, 1) := by decide +kernel
theorem dX12_peak_101 : decode cX12_peak 101 = .ok (.if_icmp .gt 6, 3) := by decide +kernel
theorem dX12_peak_104 : decode cX12_peak 104 = .ok (.goto 9, 3) := by decide +kernel
theorem dX12_peak_107 : decode cX12_peak 107 = .ok (.iload 5, 2) := by decide +kernel
theorem dX12_peak_109 : decode cX12_peak 109 = .ok (.istore_n 3, 1) := by decide +kernel
theorem dX12_peak_110 : decode cX12_peak 110 = .ok (.iload 4, 2) := by decide +kernel
theorem dX12_peak_112 : decode cX12_peak 112 = .ok (.istore_n 2, 1) := by decide +kernel
theorem dX12_peak_113 : decode cX12_peak 113 = .ok (.iinc 4 1, 3) := by decide +kernel
theorem dX12_peak_116 : decode cX12_peak 116 = .ok (.goto (-97), 3) := by decide +kernel
theorem dX12_peak_119 : decode cX12_peak 119 = .ok (.iload_n 1, 1) := by decide +kernel
theorem dX12_peak_120 : decode cX12_peak 120 = .ok (.ifCond .ne 7, 3) := by decide +kernel
theorem dX12_peak_123 : decode cX12_peak 123 = .ok (.iload_n 2, 1) := by decide +kernel
theorem dX12_peak_124 : decode cX12_peak 124 = .ok (.goto 4, 3) := by decide +kernel
theorem dX12_peak_127 : decode cX12_peak 127 = .ok (.iload_n 3, 1) := by decide +kernel
theorem dX12_peak_128 : decode cX12_peak 128 = .ok (.ireturn, 1) := by decide +kernel
theorem dX12_who_0 : decode cX12_who 0 = .ok (.iload_n 1, 1) := by decide +kernel
theorem dX12_who_1 : decode cX12_who 1 = .ok (.iconst 0, 1) := by decide +kernel
theorem dX12_who_2 : decode cX12_who 2 = .ok (.bipush 15, 2) := by decide +kernel
theorem dX12_who_4 : decode cX12_who 4 = .ok (.invokestatic 124, 3) := by decide +kernel
theorem dX12_who_7 : decode cX12_who 7 = .ok (.ifCond .ne 5, 3) := by decide +kernel
theorem dX12_who_10 : decode cX12_who 10 = .ok (.iconst (-1), 1) := by decide +kernel
theorem dX12_who_11 : decode cX12_who 11 = .ok (.ireturn, 1) := by decide +kernel
theorem dX12_who_12 : decode cX12_who 12 = .ok (.iconst 0, 1) := by decide +kernel
theorem dX12_who_13 : decode cX12_who 13 = .ok (.istore_n 2, 1) := by decide +kernel
theorem dX12_who_14 : decode cX12_who 14 = .ok (.iconst 0, 1) := by decide +kernel
theorem dX12_who_15 : decode cX12_who 15 = .ok (.istore_n 3, 1) := by decide +kernel
theorem dX12_who_16 : decode cX12_who 16 = .ok (.iload_n 3, 1) := by decide +kernel
theorem dX12_who_17 : decode cX12_who 17 = .ok (.bipush 12, 2) := by decide +kernel
theorem dX12_who_19 : decode cX12_who 19 = .ok (.if_icmp .ge 27, 3) := by decide +kernel
theorem dX12_who_22 : decode cX12_who 22 = .ok (.aload_n 0, 1) := by decide +kernel
