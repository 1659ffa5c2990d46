theorem dX6_packed_1 : decode cX6_packed 1 = .ok (.getfield 79, 3) := by decide +kernel
theorem dX6_packed_4 : decode cX6_packed 4 = .ok (.ifCond .eq 8, 3) := by decide +kernel
theorem dX6_packed_7 : decode cX6_packed 7 = .ok (.bipush 10, 2) := by decide +kernel
theorem dX6_packed_9 : decode cX6_packed 9 = .ok (.goto 7, 3) := by decide +kernel
theorem dX6_packed_12 : decode cX6_packed 12 = .ok (.aload_n 0, 1) := by decide +kernel
theorem dX6_packed_13 : decode cX6_packed 13 = .ok (.getfield 82, 3) := by decide +kernel
theorem dX6_packed_16 : decode cX6_packed 16 = .ok (.istore_n 1, 1) := by decide +kernel
theorem dX6_packed_17 : decode cX6_packed 17 = .ok (.aload_n 0, 1) := by decide +kernel
theorem dX6_packed_18 : decode cX6_packed 18 = .ok (.getfield 70, 3) := by decide +kernel
theorem dX6_packed_21 : decode cX6_packed 21 = .ok (.bipush 20, 2) := by decide +kernel
theorem dX6_packed_23 : decode cX6_packed 23 = .ok (.imul, 1) := by decide +kernel
theorem dX6_packed_24 : decode cX6_packed 24 = .ok (.aload_n 0, 1) := by decide +kernel
theorem dX6_packed_25 : decode cX6_packed 25 = .ok (.getfield 85, 3) := by decide +kernel
theorem dX6_packed_28 : decode cX6_packed 28 = .ok (.iadd, 1) := by decide +kernel
theorem dX6_packed_29 : decode cX6_packed 29 = .ok (.bipush 9, 2) := by decide +kernel
theorem dX6_packed_31 : decode cX6_packed 31 = .ok (.imul, 1) := by decide +kernel
theorem dX6_packed_32 : decode cX6_packed 32 = .ok (.aload_n 0, 1) := by decide +kernel
theorem dX6_packed_33 : decode cX6_packed 33 = .ok (.getfield 88, 3) := by decide +kernel
theorem dX6_packed_36 : decode cX6_packed 36 = .ok (.iadd, 1) := by decide +kernel
theorem dX6_packed_37 : decode cX6_packed 37 = .ok (.iconst 1, 1) := by decide +kernel
theorem dX6_packed_38 : decode cX6_packed 38 = .ok (.isub, 1) := by decide +kernel
theorem dX6_packed_39 : decode cX6_packed 39 = .ok (.bipush 11, 2) := by decide +kernel
theorem dX6_packed_41 : decode cX6_packed 41 = .ok (.imul, 1) := by decide +kernel
theorem dX6_packed_42 : decode cX6_packed 42 = .ok (.iload_n 1, 1) := by decide +kernel
theorem dX6_packed_43 : decode cX6_packed 43 = .ok (.iadd, 1) := by decide +kernel
theorem dX6_packed_44 : decode cX6_packed 44 = .ok (.ireturn, 1) := by decide +kernel
theorem dX6_unpack_0 : decode cX6_unpack 0 = .ok (.iload_n 0, 1) := by decide +kernel
theorem dX6_unpack_1 : decode cX6_unpack 1 = .ok (.bipush 11, 2) := by decide +kernel
theorem dX6_unpack_3 : decode cX6_unpack 3 = .ok (.irem, 1) := by decide +kernel
theorem dX6_unpack_4 : decode cX6_unpack 4 = .ok (.istore_n 2, 1) := by decide +kernel
theorem dX6_unpack_5 : decode cX6_unpack 5 = .ok (.iload_n 0, 1) := by decide +kernel
theorem dX6_unpack_6 : decode cX6_unpack 6 = .ok (.bipush 11, 2) := by decide +kernel
theorem dX6_unpack_8 : decode cX6_unpack 8 = .ok (.idiv, 1) := by decide +kernel
theorem dX6_unpack_9 : decode cX6_unpack 9 = .ok (.istore_n 3, 1) := by decide +kernel
theorem dX6_unpack_10 : decode cX6_unpack 10 = .ok (.aload_n 1, 1) := by decide +kernel
theorem dX6_unpack_11 : decode cX6_unpack 11 = .ok (.iload_n 2, 1) := by decide +kernel
theorem dX6_unpack_12 : decode cX6_unpack 12 = .ok (.bipush 10, 2) := by decide +kernel
theorem dX6_unpack_14 : decode cX6_unpack 14 = .ok (.if_icmp .ne 7, 3) := by decide +kernel
theorem dX6_unpack_17 : decode cX6_unpack 17 = .ok (.iconst 1, 1) := by decide +kernel
theorem dX6_unpack_18 : decode cX6_unpack 18 = .ok (.goto 4, 3) := by decide +kernel
theorem dX6_unpack_21 : decode cX6_unpack 21 = .ok (.iconst 0, 1) := by decide +kernel
theorem dX6_unpack_22 : decode cX6_unpack 22 = .ok (.putfield 79, 3) := by decide +kernel
theorem dX6_unpack_25 : decode cX6_unpack 25 = .ok (.aload_n 1, 1) := by decide +kernel
theorem dX6_unpack_26 : decode cX6_unpack 26 = .ok (.aload_n 1, 1) := by decide +kernel
theorem dX6_unpack_27 : decode cX6_unpack 27 = .ok (.getfield 79, 3) := by decide +kernel
theorem dX6_unpack_30 : decode cX6_unpack 30 = .ok (.ifCond .eq 7, 3) := by decide +kernel
theorem dX6_unpack_33 : decode cX6_unpack 33 = .ok (.iconst 0, 1) := by decide +kernel
theorem dX6_unpack_34 : decode cX6_unpack 34 = .ok (.goto 4, 3) := by decide +kernel
theorem dX6_unpack_37 : decode cX6_unpack 37 = .ok (.iload_n 2, 1) := by decide +kernel
theorem dX6_unpack_38 : decode cX6_unpack 38 = .ok (.putfield 82, 3) := by decide +kernel
theorem dX6_unpack_41 : decode cX6_unpack 41 = .ok (.aload_n 1, 1) := by decide +kernel
theorem dX6_unpack_42 : decode cX6_unpack 42 = .ok (.iload_n 3, 1) := by decide +kernel
theorem dX6_unpack_43 : decode cX6_unpack 43 = .ok (.bipush 9, 2) := by decide +kernel
theorem dX6_unpack_45 : decode cX6_unpack 45 = .ok (.irem, 1) := by decide +kernel
theorem dX6_unpack_46 : decode cX6_unpack 46 = .ok (.iconst 1, 1) := by decide +kernel
theorem dX6_unpack_47 : decode cX6_unpack 47 = .ok (.iadd, 1) := by decide +kernel
theorem dX6_unpack_48 : decode cX6_unpack 48 = .ok (.putfield 88, 3) := by decide +kernel
theorem dX6_unpack_51 : decode cX6_unpack 51 = .ok (.iload_n 3, 1) := by decide +kernel
theorem dX6_unpack_52 : decode cX6_unpack 52 = .ok (.bipush 9, 2) := by decide +kernel
theorem dX6_unpack_54 : decode cX6_unpack 54 = .ok (.idiv, 1) := by decide +kernel
theorem dX6_unpack_55 : decode cX6_unpack 55 = .ok (.istore_n 3, 1) := by decide +kernel
theorem dX6_unpack_56 : decode cX6_unpack 56 = .ok (.aload_n 1, 1) := by decide +kernel
theorem dX6_unpack_57 : decode cX6_unpack 57 = .ok (.iload_n 3, 1) := by decide +kernel
theorem dX6_unpack_58 : decode cX6_unpack 58 = .ok (.bipush 20, 2) := by decide +kernel
theorem dX6_unpack_60 : decode cX6_unpack 60 = .ok (.irem, 1) := by decide +kernel
theorem dX6_unpack_61 : decode cX6_unpack 61 = .ok (.putfield 85, 3) := by decide +kernel
theorem dX6_unpack_64 : decode cX6_unpack 64 = .ok (.aload_n 1, 1) := by decide +kernel
theorem dX6_unpack_65 : decode cX6_unpack 65 = .ok (.iload_n 3, 1) := by decide +kernel
theorem dX6_unpack_66 : decode cX6_unpack 66 = .ok (.bipush 20, 2) := by decide +kernel
theorem dX6_unpack_68 : decode cX6_unpack 68 = .ok (.idiv, 1) := by decide +kernel
theorem dX6_unpack_69 : decode cX6_unpack 69 = .ok (.putfield 70, 3) := by decide +kernel
theorem dX6_unpack_72 : decode cX6_unpack 72 = .ok (.aload_n 1, 1) := by decide +kernel
theorem dX6_unpack_73 : decode cX6_unpack 73 = .ok (.iconst 0, 1) := by decide +kernel
theorem dX6_unpack_74 : decode cX6_unpack 74 = .ok (.putfield 75, 3) := by decide +kernel
theorem dX6_unpack_77 : decode cX6_unpack 77 = .ok (.return_, 1) := by decide +kernel
theorem dX7_init_0 : decode cX7_init 0 = .ok (.aload_n 0, 1) := by decide +kernel
theorem dX7_init_1 : decode cX7_init 1 = .ok (.invokespecial 3, 3) := by decide +kernel
theorem dX7_init_4 : decode cX7_init 4 = .ok (.aload_n 0, 1) := by decide +kernel
theorem dX7_init_5 : decode cX7_init 5 = .ok (.bipush 96, 2) := by decide +kernel
theorem dX7_init_7 : decode cX7_init 7 = .ok (.newarray .int, 2) := by decide +kernel
theorem dX7_init_9 : decode cX7_init 9 = .ok (.putfield 9, 3) := by decide +kernel
theorem dX7_init_12 : decode cX7_init 12 = .ok (.aload_n 0, 1) := by decide +kernel
theorem dX7_init_13 : decode cX7_init 13 = .ok (.aload_n 0, 1) := by decide +kernel
theorem dX7_init_14 : decode cX7_init 14 = .ok (.getfield 9, 3) := by decide +kernel
theorem dX7_init_17 : decode cX7_init 17 = .ok (.putfield 15, 3) := by decide +kernel
theorem dX7_init_20 : decode cX7_init 20 = .ok (.aload_n 0, 1) := by decide +kernel
theorem dX7_init_21 : decode cX7_init 21 = .ok (.iconst 0, 1) := by decide +kernel
theorem dX7_init_22 : decode cX7_init 22 = .ok (.putfield 18, 3) := by decide +kernel
theorem dX7_init_25 : decode cX7_init 25 = .ok (.aload_n 0, 1) := by decide +kernel
theorem dX7_init_26 : decode cX7_init 26 = .ok (.iconst 0, 1) := by decide +kernel
theorem dX7_init_27 : decode cX7_init 27 = .ok (.putfield 22, 3) := by decide +kernel
theorem dX7_init_30 : decode cX7_init 30 = .ok (.aload_n 0, 1) := by decide +kernel
theorem dX7_init_31 : decode cX7_init 31 = .ok (.iconst 0, 1) := by decide +kernel
theorem dX7_init_32 : decode cX7_init 32 = .ok (.putfield 25, 3) := by decide +kernel
theorem dX7_init_35 : decode cX7_init 35 = .ok (.aload_n 0, 1) := by decide +kernel
theorem dX7_init_36 : decode cX7_init 36 = .ok (.iconst 0, 1) := by decide +kernel
theorem dX7_init_37 : decode cX7_init 37 = .ok (.putfield 28, 3) := by decide +kernel
theorem dX7_init_40 : decode cX7_init 40 = .ok (.aload_n 0, 1) := by decide +kernel
theorem dX7_init_41 : decode cX7_init 41 = .ok (.iconst 0, 1) := by decide +kernel
theorem dX7_init_42 : decode cX7_init 42 = .ok (.putfield 31, 3) := by decide +kernel
theorem dX7_init_45 : decode cX7_init 45 = .ok (.aload_n 0, 1) := by decide +kernel
theorem dX7_init_46 : decode cX7_init 46 = .ok (.iconst 0, 1) := by decide +kernel
theorem dX7_init_47 : decode cX7_init 47 = .ok (.putfield 34, 3) := by decide +kernel
theorem dX7_init_50 : decode cX7_init 50 = .ok (.return_, 1) := by decide +kernel
theorem dX7_read_0 : decode cX7_read 0 = .ok (.aload_n 0, 1) := by decide +kernel
theorem dX7_read_1 : decode cX7_read 1 = .ok (.aload_n 1, 1) := by decide +kernel
theorem dX7_read_2 : decode cX7_read 2 = .ok (.putfield 15, 3) := by decide +kernel
theorem dX7_read_5 : decode cX7_read 5 = .ok (.aload_n 0, 1) := by decide +kernel
theorem dX7_read_6 : decode cX7_read 6 = .ok (.iload_n 2, 1) := by decide +kernel
theorem dX7_read_7 : decode cX7_read 7 = .ok (.aload_n 1, 1) := by decide +kernel
theorem dX7_read_8 : decode cX7_read 8 = .ok (.arraylength, 1) := by decide +kernel
theorem dX7_read_9 : decode cX7_read 9 = .ok (.invokestatic 38, 3) := by decide +kernel
theorem dX7_read_12 : decode cX7_read 12 = .ok (.putfield 18, 3) := by decide +kernel
theorem dX7_read_15 : decode cX7_read 15 = .ok (.aload_n 0, 1) := by decide +kernel
theorem dX7_read_16 : decode cX7_read 16 = .ok (.iconst 0, 1) := by decide +kernel
theorem dX7_read_17 : decode cX7_read 17 = .ok (.putfield 22, 3) := by decide +kernel
theorem dX7_read_20 : decode cX7_read 20 = .ok (.aload_n 0, 1) := by decide +kernel
theorem dX7_read_21 : decode cX7_read 21 = .ok (.iconst 0, 1) := by decide +kernel
theorem dX7_read_22 : decode cX7_read 22 = .ok (.putfield 25, 3) := by decide +kernel
theorem dX7_read_25 : decode cX7_read 25 = .ok (.aload_n 0, 1) := by decide +kernel
theorem dX7_read_26 : decode cX7_read 26 = .ok (.iconst 0, 1) := by decide +kernel
theorem dX7_read_27 : decode cX7_read 27 = .ok (.putfield 31, 3) := by decide +kernel
theorem dX7_read_30 : decode cX7_read 30 = .ok (.aload_n 0, 1) := by decide +kernel
theorem dX7_read_31 : decode cX7_read 31 = .ok (.iload_n 3, 1) := by decide +kernel
theorem dX7_read_32 : decode cX7_read 32 = .ok (.putfield 34, 3) := by decide +kernel
theorem dX7_read_35 : decode cX7_read 35 = .ok (.aload_n 0, 1) := by decide +kernel
theorem dX7_read_36 : decode cX7_read 36 = .ok (.iload_n 3, 1) := by decide +kernel
theorem dX7_read_37 : decode cX7_read 37 = .ok (.ifCond .eq 8, 3) := by decide +kernel
theorem dX7_read_40 : decode cX7_read 40 = .ok (.bipush 24, 2) := by decide +kernel
theorem dX7_read_42 : decode cX7_read 42 = .ok (.goto 5, 3) := by decide +kernel
theorem dX7_read_45 : decode cX7_read 45 = .ok (.bipush 96, 2) := by decide +kernel
theorem dX7_read_47 : decode cX7_read 47 = .ok (.putfield 28, 3) := by decide +kernel
theorem dX7_read_50 : decode cX7_read 50 = .ok (.aload_n 0, 1) := by decide +kernel
theorem dX7_read_51 : decode cX7_read 51 = .ok (.iconst 0, 1) := by decide +kernel
theorem dX7_read_52 : decode cX7_read 52 = .ok (.invokevirtual 44, 3) := by decide +kernel
theorem dX7_read_55 : decode cX7_read 55 = .ok (.ifCond .eq 18, 3) := by decide +kernel
theorem dX7_read_58 : decode cX7_read 58 = .ok (.aload_n 0, 1) := by decide +kernel
theorem dX7_read_59 : decode cX7_read 59 = .ok (.iconst (-1), 1) := by decide +kernel
theorem dX7_read_60 : decode cX7_read 60 = .ok (.invokevirtual 48, 3) := by decide +kernel
theorem dX7_read_63 : decode cX7_read 63 = .ok (.ifCond .eq 10, 3) := by decide +kernel
theorem dX7_read_66 : decode cX7_read 66 = .ok (.aload_n 0, 1) := by decide +kernel
theorem dX7_read_67 : decode cX7_read 67 = .ok (.getfield 25, 3) := by decide +kernel
theorem dX7_read_70 : decode cX7_read 70 = .ok (.goto 7, 3) := by decide +kernel
theorem dX7_read_73 : decode cX7_read 73 = .ok (.aload_n 0, 1) := by decide +kernel
theorem dX7_read_74 : decode cX7_read 74 = .ok (.getfield 31, 3) := by decide +kernel
theorem dX7_read_77 : decode cX7_read 77 = .ok (.ireturn, 1) := by decide +kernel
theorem dX7_next_0 : decode cX7_next 0 = .ok (.aload_n 0, 1) := by decide +kernel
theorem dX7_next_1 : decode cX7_next 1 = .ok (.getfield 22, 3) := by decide +kernel
theorem dX7_next_4 : decode cX7_next 4 = .ok (.ifCond .lt 26, 3) := by decide +kernel
theorem dX7_next_7 : decode cX7_next 7 = .ok (.aload_n 0, 1) := by decide +kernel
theorem dX7_next_8 : decode cX7_next 8 = .ok (.getfield 22, 3) := by decide +kernel
theorem dX7_next_11 : decode cX7_next 11 = .ok (.aload_n 0, 1) := by decide +kernel
theorem dX7_next_12 : decode cX7_next 12 = .ok (.getfield 18, 3) := by decide +kernel
theorem dX7_next_15 : decode cX7_next 15 = .ok (.if_icmp .ge 15, 3) := by decide +kernel
theorem dX7_next_18 : decode cX7_next 18 = .ok (.aload_n 0, 1) := by decide +kernel
theorem dX7_next_19 : decode cX7_next 19 = .ok (.getfield 15, 3) := by decide +kernel
theorem dX7_next_22 : decode cX7_next 22 = .ok (.aload_n 0, 1) := by decide +kernel
theorem dX7_next_23 : decode cX7_next 23 = .ok (.getfield 22, 3) := by decide +kernel
theorem dX7_next_26 : decode cX7_next 26 = .ok (.iaload, 1) := by decide +kernel
theorem dX7_next_27 : decode cX7_next 27 = .ok (.goto 4, 3) := by decide +kernel
theorem dX7_next_30 : decode cX7_next 30 = .ok (.iconst (-1), 1) := by decide +kernel
theorem dX7_next_31 : decode cX7_next 31 = .ok (.ireturn, 1) := by decide +kernel
theorem dX7_fails_0 : decode cX7_fails 0 = .ok (.aload_n 0, 1) := by decide +kernel
theorem dX7_fails_1 : decode cX7_fails 1 = .ok (.sipush (-1000), 3) := by decide +kernel
theorem dX7_fails_4 : decode cX7_fails 4 = .ok (.iload_n 1, 1) := by decide +kernel
theorem dX7_fails_5 : decode cX7_fails 5 = .ok (.imul, 1) := by decide +kernel
theorem dX7_fails_6 : decode cX7_fails 6 = .ok (.iload_n 2, 1) := by decide +kernel
theorem dX7_fails_7 : decode cX7_fails 7 = .ok (.isub, 1) := by decide +kernel
theorem dX7_fails_8 : decode cX7_fails 8 = .ok (.putfield 31, 3) := by decide +kernel
theorem dX7_fails_11 : decode cX7_fails 11 = .ok (.iconst 0, 1) := by decide +kernel
theorem dX7_fails_12 : decode cX7_fails 12 = .ok (.ireturn, 1) := by decide +kernel
theorem dX7_closes_0 : decode cX7_closes 0 = .ok (.aload_n 0, 1) := by decide +kernel
theorem dX7_closes_1 : decode cX7_closes 1 = .ok (.invokevirtual 51, 3) := by decide +kernel
theorem dX7_closes_4 : decode cX7_closes 4 = .ok (.iload_n 1, 1) := by decide +kernel
theorem dX7_closes_5 : decode cX7_closes 5 = .ok (.if_icmp .eq 13, 3) := by decide +kernel
theorem dX7_closes_8 : decode cX7_closes 8 = .ok (.aload_n 0, 1) := by decide +kernel
theorem dX7_closes_9 : decode cX7_closes 9 = .ok (.iconst 1, 1) := by decide +kernel
theorem dX7_closes_10 : decode cX7_closes 10 = .ok (.aload_n 0, 1) := by decide +kernel
theorem dX7_closes_11 : decode cX7_closes 11 = .ok (.getfield 22, 3) := by decide +kernel
theorem dX7_closes_14 : decode cX7_closes 14 = .ok (.invokevirtual 55, 3) := by decide +kernel
theorem dX7_closes_17 : decode cX7_closes 17 = .ok (.ireturn, 1) := by decide +kernel
theorem dX7_closes_18 : decode cX7_closes 18 = .ok (.aload_n 0, 1) := by decide +kernel
theorem dX7_closes_19 : decode cX7_closes 19 = .ok (.dup, 1) := by decide +kernel
theorem dX7_closes_20 : decode cX7_closes 20 = .ok (.getfield 22, 3) := by decide +kernel
theorem dX7_closes_23 : decode cX7_closes 23 = .ok (.iconst 1, 1) := by decide +kernel
theorem dX7_closes_24 : decode cX7_closes 24 = .ok (.iadd, 1) := by decide +kernel
theorem dX7_closes_25 : decode cX7_closes 25 = .ok (.putfield 22, 3) := by decide +kernel
theorem dX7_closes_28 : decode cX7_closes 28 = .ok (.iconst 1, 1) := by decide +kernel
theorem dX7_closes_29 : decode cX7_closes 29 = .ok (.ireturn, 1) := by decide +kernel
theorem dX7_several_0 : decode cX7_several 0 = .ok (.iconst 0, 1) := by decide +kernel
theorem dX7_several_1 : decode cX7_several 1 = .ok (.istore_n 2, 1) := by decide +kernel
theorem dX7_several_2 : decode cX7_several 2 = .ok (.iload_n 2, 1) := by decide +kernel
theorem dX7_several_3 : decode cX7_several 3 = .ok (.aload_n 0, 1) := by decide +kernel
theorem dX7_several_4 : decode cX7_several 4 = .ok (.getfield 18, 3) := by decide +kernel
theorem dX7_several_7 : decode cX7_several 7 = .ok (.if_icmp .ge 38, 3) := by decide +kernel
theorem dX7_several_10 : decode cX7_several 10 = .ok (.aload_n 0, 1) := by decide +kernel
theorem dX7_several_11 : decode cX7_several 11 = .ok (.iload_n 1, 1) := by decide +kernel
theorem dX7_several_12 : decode cX7_several 12 = .ok (.invokevirtual 59, 3) := by decide +kernel
theorem dX7_several_15 : decode cX7_several 15 = .ok (.ifCond .ne 5, 3) := by decide +kernel
theorem dX7_several_18 : decode cX7_several 18 = .ok (.iconst 0, 1) := by decide +kernel
theorem dX7_several_19 : decode cX7_several 19 = .ok (.ireturn, 1) := by decide +kernel
theorem dX7_several_20 : decode cX7_several 20 = .ok (.aload_n 0, 1) := by decide +kernel
theorem dX7_several_21 : decode cX7_several 21 = .ok (.invokevirtual 51, 3) := by decide +kernel
theorem dX7_several_24 : decode cX7_several 24 = .ok (.iconst (-1), 1) := by decide +kernel
theorem dX7_several_25 : decode cX7_several 25 = .ok (.if_icmp .eq 12, 3) := by decide +kernel
theorem dX7_several_28 : decode cX7_several 28 = .ok (.aload_n 0, 1) := by decide +kernel
theorem dX7_several_29 : decode cX7_several 29 = .ok (.invokevirtual 51, 3) := by decide +kernel
theorem dX7_several_32 : decode cX7_several 32 = .ok (.bipush 41, 2) := by decide +kernel
theorem dX7_several_34 : decode cX7_several 34 = .ok (.if_icmp .ne 5, 3) := by decide +kernel
theorem dX7_several_37 : decode cX7_several 37 = .ok (.iconst 1, 1) := by decide +kernel
theorem dX7_several_38 : decode cX7_several 38 = .ok (.ireturn, 1) := by decide +kernel
theorem dX7_several_39 : decode cX7_several 39 = .ok (.iinc 2 1, 3) := by decide +kernel
theorem dX7_several_42 : decode cX7_several 42 = .ok (.goto (-40), 3) := by decide +kernel
theorem dX7_several_45 : decode cX7_several 45 = .ok (.aload_n 0, 1) := by decide +kernel
theorem dX7_several_46 : decode cX7_several 46 = .ok (.iconst 1, 1) := by decide +kernel
theorem dX7_several_47 : decode cX7_several 47 = .ok (.aload_n 0, 1) := by decide +kernel
theorem dX7_several_48 : decode cX7_several 48 = .ok (.getfield 22, 3) := by decide +kernel
theorem dX7_several_51 : decode cX7_several 51 = .ok (.invokevirtual 55, 3) := by decide +kernel
theorem dX7_several_54 : decode cX7_several 54 = .ok (.ireturn, 1) := by decide +kernel
theorem dX7_single_0 : decode cX7_single 0 = .ok (.aload_n 0, 1) := by decide +kernel
theorem dX7_single_1 : decode cX7_single 1 = .ok (.getfield 22, 3) := by decide +kernel
theorem dX7_single_4 : decode cX7_single 4 = .ok (.istore_n 2, 1) := by decide +kernel
theorem dX7_single_5 : decode cX7_single 5 = .ok (.aload_n 0, 1) := by decide +kernel
theorem dX7_single_6 : decode cX7_single 6 = .ok (.getfield 25, 3) := by decide +kernel
theorem dX7_single_9 : decode cX7_single 9 = .ok (.istore_n 3, 1) := by decide +kernel
theorem dX7_single_10 : decode cX7_single 10 = .ok (.aload_n 0, 1) := by decide +kernel
theorem dX7_single_11 : decode cX7_single 11 = .ok (.invokevirtual 62, 3) := by decide +kernel
theorem dX7_single_14 : decode cX7_single 14 = .ok (.istore 4, 2) := by decide +kernel
theorem dX7_single_16 : decode cX7_single 16 = .ok (.iload 4, 2) := by decide +kernel
theorem dX7_single_18 : decode cX7_single 18 = .ok (.ifCond .ne 13, 3) := by decide +kernel
theorem dX7_single_21 : decode cX7_single 21 = .ok (.aload_n 0, 1) := by decide +kernel
theorem dX7_single_22 : decode cX7_single 22 = .ok (.iconst 1, 1) := by decide +kernel
theorem dX7_single_23 : decode cX7_single 23 = .ok (.aload_n 0, 1) := by decide +kernel
theorem dX7_single_24 : decode cX7_single 24 = .ok (.getfield 22, 3) := by decide +kernel
theorem dX7_single_27 : decode cX7_single 27 = .ok (.invokevirtual 55, 3) := by decide +kernel
theorem dX7_single_30 : decode cX7_single 30 = .ok (.ireturn, 1) := by decide +kernel
theorem dX7_single_31 : decode cX7_single 31 = .ok (.aload_n 0, 1) := by decide +kernel
theorem dX7_single_32 : decode cX7_single 32 = .ok (.invokevirtual 51, 3) := by decide +kernel
theorem dX7_single_35 : decode cX7_single 35 = .ok (.bipush 40, 2) := by decide +kernel
theorem dX7_single_37 : decode cX7_single 37 = .ok (.if_icmp .ne 49, 3) := by decide +kernel
theorem dX7_single_40 : decode cX7_single 40 = .ok (.iload_n 1, 1) := by decide +kernel
theorem dX7_single_41 : decode cX7_single 41 = .ok (.iconst 2, 1) := by decide +kernel
theorem dX7_single_42 : decode cX7_single 42 = .ok (.if_icmp .lt 13, 3) := by decide +kernel
theorem dX7_single_45 : decode cX7_single 45 = .ok (.aload_n 0, 1) := by decide +kernel
theorem dX7_single_46 : decode cX7_single 46 = .ok (.iconst 5, 1) := by decide +kernel
theorem dX7_single_47 : decode cX7_single 47 = .ok (.aload_n 0, 1) := by decide +kernel
theorem dX7_single_48 : decode cX7_single 48 = .ok (.getfield 22, 3) := by decide +kernel
theorem dX7_single_51 : decode cX7_single 51 = .ok (.invokevirtual 55, 3) := by decide +kernel
theorem dX7_single_54 : decode cX7_single 54 = .ok (.ireturn, 1) := by decide +kernel
theorem dX7_single_55 : decode cX7_single 55 = .ok (.aload_n 0, 1) := by decide +kernel
theorem dX7_single_56 : decode cX7_single 56 = .ok (.dup, 1) := by decide +kernel
theorem dX7_single_57 : decode cX7_single 57 = .ok (.getfield 22, 3) := by decide +kernel
theorem dX7_single_60 : decode cX7_single 60 = .ok (.iconst 1, 1) := by decide +kernel
theorem dX7_single_61 : decode cX7_single 61 = .ok (.iadd, 1) := by decide +kernel
theorem dX7_single_62 : decode cX7_single 62 = .ok (.putfield 22, 3) := by decide +kernel
theorem dX7_single_65 : decode cX7_single 65 = .ok (.aload_n 0, 1) := by decide +kernel
theorem dX7_single_66 : decode cX7_single 66 = .ok (.iload_n 1, 1) := by decide +kernel
theorem dX7_single_67 : decode cX7_single 67 = .ok (.iconst 1, 1) := by decide +kernel
theorem dX7_single_68 : decode cX7_single 68 = .ok (.iadd, 1) := by decide +kernel
theorem dX7_single_69 : decode cX7_single 69 = .ok (.invokevirtual 44, 3) := by decide +kernel
theorem dX7_single_72 : decode cX7_single 72 = .ok (.ifCond .eq 12, 3) := by decide +kernel
theorem dX7_single_75 : decode cX7_single 75 = .ok (.aload_n 0, 1) := by decide +kernel
theorem dX7_single_76 : decode cX7_single 76 = .ok (.bipush 41, 2) := by decide +kernel
theorem dX7_single_78 : decode cX7_single 78 = .ok (.invokevirtual 48, 3) := by decide +kernel
theorem dX7_single_81 : decode cX7_single 81 = .ok (.ifCond .ne 22, 3) := by decide +kernel
theorem dX7_single_84 : decode cX7_single 84 = .ok (.iconst 0, 1) := by decide +kernel
theorem dX7_single_85 : decode cX7_single 85 = .ok (.ireturn, 1) := by decide +kernel
theorem dX7_single_86 : decode cX7_single 86 = .ok (.aload_n 0, 1) := by decide +kernel
theorem dX7_single_87 : decode cX7_single 87 = .ok (.invokevirtual 65, 3) := by decide +kernel
theorem dX7_single_90 : decode cX7_single 90 = .ok (.ifCond .ne 13, 3) := by decide +kernel
theorem dX7_single_93 : decode cX7_single 93 = .ok (.aload_n 0, 1) := by decide +kernel
theorem dX7_single_94 : decode cX7_single 94 = .ok (.iconst 1, 1) := by decide +kernel
theorem dX7_single_95 : decode cX7_single 95 = .ok (.aload_n 0, 1) := by decide +kernel
theorem dX7_single_96 : decode cX7_single 96 = .ok (.getfield 22, 3) := by decide +kernel
theorem dX7_single_99 : decode cX7_single 99 = .ok (.invokevirtual 55, 3) := by decide +kernel
theorem dX7_single_102 : decode cX7_single 102 = .ok (.ireturn, 1) := by decide +kernel
theorem dX7_single_103 : decode cX7_single 103 = .ok (.iload_n 3, 1) := by decide +kernel
theorem dX7_single_104 : decode cX7_single 104 = .ok (.aload_n 0, 1) := by decide +kernel
theorem dX7_single_105 : decode cX7_single 105 = .ok (.getfield 25, 3) := by decide +kernel
theorem dX7_single_108 : decode cX7_single 108 = .ok (.iload_n 3, 1) := by decide +kernel
theorem dX7_single_109 : decode cX7_single 109 = .ok (.isub, 1) := by decide +kernel
theorem dX7_single_110 : decode cX7_single 110 = .ok (.iload 4, 2) := by decide +kernel
theorem dX7_single_112 : decode cX7_single 112 = .ok (.imul, 1) := by decide +kernel
theorem dX7_single_113 : decode cX7_single 113 = .ok (.iadd, 1) := by decide +kernel
theorem dX7_single_114 : decode cX7_single 114 = .ok (.aload_n 0, 1) := by decide +kernel
theorem dX7_single_115 : decode cX7_single 115 = .ok (.getfield 28, 3) := by decide +kernel
theorem dX7_single_118 : decode cX7_single 118 = .ok (.if_icmp .le 11, 3) := by decide +kernel
theorem dX7_single_121 : decode cX7_single 121 = .ok (.aload_n 0, 1) := by decide +kernel
theorem dX7_single_122 : decode cX7_single 122 = .ok (.bipush 6, 2) := by decide +kernel
theorem dX7_single_124 : decode cX7_single 124 = .ok (.iload_n 2, 1) := by decide +kernel
theorem dX7_single_125 : decode cX7_single 125 = .ok (.invokevirtual 55, 3) := by decide +kernel
theorem dX7_single_128 : decode cX7_single 128 = .ok (.ireturn, 1) := by decide +kernel
theorem dX7_single_129 : decode cX7_single 129 = .ok (.aload_n 0, 1) := by decide +kernel
theorem dX7_single_130 : decode cX7_single 130 = .ok (.iload_n 3, 1) := by decide +kernel
theorem dX7_single_131 : decode cX7_single 131 = .ok (.iload 4, 2) := by decide +kernel
theorem dX7_single_133 : decode cX7_single 133 = .ok (.invokevirtual 69, 3) := by decide +kernel
theorem dX7_single_136 : decode cX7_single 136 = .ok (.iconst 1, 1) := by decide +kernel
theorem dX7_single_137 : decode cX7_single 137 = .ok (.ireturn, 1) := by decide +kernel
theorem dX7_times_0 : decode cX7_times 0 = .ok (.aload_n 0, 1) := by decide +kernel
theorem dX7_times_1 : decode cX7_times 1 = .ok (.getfield 34, 3) := by decide +kernel
theorem dX7_times_4 : decode cX7_times 4 = .ok (.ifCond .eq 27, 3) := by decide +kernel
theorem dX7_times_7 : decode cX7_times 7 = .ok (.aload_n 0, 1) := by decide +kernel
theorem dX7_times_8 : decode cX7_times 8 = .ok (.invokevirtual 51, 3) := by decide +kernel
theorem dX7_times_11 : decode cX7_times 11 = .ok (.bipush 42, 2) := by decide +kernel
theorem dX7_times_13 : decode cX7_times 13 = .ok (.if_icmp .eq 5, 3) := by decide +kernel
theorem dX7_times_16 : decode cX7_times 16 = .ok (.iconst 1, 1) := by decide +kernel
theorem dX7_times_17 : decode cX7_times 17 = .ok (.ireturn, 1) := by decide +kernel
theorem dX7_times_18 : decode cX7_times 18 = .ok (.aload_n 0, 1) := by decide +kernel
theorem dX7_times_19 : decode cX7_times 19 = .ok (.dup, 1) := by decide +kernel
theorem dX7_times_20 : decode cX7_times 20 = .ok (.getfield 22, 3) := by decide +kernel
theorem dX7_times_23 : decode cX7_times 23 = .ok (.iconst 1, 1) := by decide +kernel
theorem dX7_times_24 : decode cX7_times 24 = .ok (.iadd, 1) := by decide +kernel
theorem dX7_times_25 : decode cX7_times 25 = .ok (.putfield 22, 3) := by decide +kernel
theorem dX7_times_28 : decode cX7_times 28 = .ok (.goto 15, 3) := by decide +kernel
theorem dX7_times_31 : decode cX7_times 31 = .ok (.aload_n 0, 1) := by decide +kernel
theorem dX7_times_32 : decode cX7_times 32 = .ok (.invokevirtual 51, 3) := by decide +kernel
theorem dX7_times_35 : decode cX7_times 35 = .ok (.invokestatic 73, 3) := by decide +kernel
theorem dX7_times_38 : decode cX7_times 38 = .ok (.ifCond .ne 5, 3) := by decide +kernel
theorem dX7_times_41 : decode cX7_times 41 = .ok (.iconst 1, 1) := by decide +kernel
theorem dX7_times_42 : decode cX7_times 42 = .ok (.ireturn, 1) := by decide +kernel
theorem dX7_times_43 : decode cX7_times 43 = .ok (.aload_n 0, 1) := by decide +kernel
theorem dX7_times_44 : decode cX7_times 44 = .ok (.invokevirtual 51, 3) := by decide +kernel
theorem dX7_times_47 : decode cX7_times 47 = .ok (.istore_n 1, 1) := by decide +kernel
theorem dX7_times_48 : decode cX7_times 48 = .ok (.iload_n 1, 1) := by decide +kernel
theorem dX7_times_49 : decode cX7_times 49 = .ok (.bipush 50, 2) := by decide +kernel
theorem dX7_times_51 : decode cX7_times 51 = .ok (.if_icmp .lt 9, 3) := by decide +kernel
theorem dX7_times_54 : decode cX7_times 54 = .ok (.iload_n 1, 1) := by decide +kernel
theorem dX7_times_55 : decode cX7_times 55 = .ok (.bipush 57, 2) := by decide +kernel
theorem dX7_times_57 : decode cX7_times 57 = .ok (.if_icmp .le 5, 3) := by decide +kernel
theorem dX7_times_60 : decode cX7_times 60 = .ok (.iconst 0, 1) := by decide +kernel
theorem dX7_times_61 : decode cX7_times 61 = .ok (.ireturn, 1) := by decide +kernel
theorem dX7_times_62 : decode cX7_times 62 = .ok (.aload_n 0, 1) := by decide +kernel
theorem dX7_times_63 : decode cX7_times 63 = .ok (.dup, 1) := by decide +kernel
theorem dX7_times_64 : decode cX7_times 64 = .ok (.getfield 22, 3) := by decide +kernel
theorem dX7_times_67 : decode cX7_times 67 = .ok (.iconst 1, 1) := by decide +kernel
theorem dX7_times_68 : decode cX7_times 68 = .ok (.iadd, 1) := by decide +kernel
theorem dX7_times_69 : decode cX7_times 69 = .ok (.putfield 22, 3) := by decide +kernel
theorem dX7_times_72 : decode cX7_times 72 = .ok (.iload_n 1, 1) := by decide +kernel
theorem dX7_times_73 : decode cX7_times 73 = .ok (.bipush 48, 2) := by decide +kernel
theorem dX7_times_75 : decode cX7_times 75 = .ok (.isub, 1) := by decide +kernel
theorem dX7_times_76 : decode cX7_times 76 = .ok (.ireturn, 1) := by decide +kernel
theorem dX7_plain_0 : decode cX7_plain 0 = .ok (.aload_n 0, 1) := by decide +kernel
theorem dX7_plain_1 : decode cX7_plain 1 = .ok (.getfield 34, 3) := by decide +kernel
theorem dX7_plain_4 : decode cX7_plain 4 = .ok (.ifCond .ne 17, 3) := by decide +kernel
theorem dX7_plain_7 : decode cX7_plain 7 = .ok (.aload_n 0, 1) := by decide +kernel
theorem dX7_plain_8 : decode cX7_plain 8 = .ok (.ldc 76, 2) := by decide +kernel
theorem dX7_plain_10 : decode cX7_plain 10 = .ok (.aload_n 0, 1) := by decide +kernel
theorem dX7_plain_11 : decode cX7_plain 11 = .ok (.invokevirtual 51, 3) := by decide +kernel
theorem dX7_plain_14 : decode cX7_plain 14 = .ok (.invokestatic 78, 3) := by decide +kernel
theorem dX7_plain_17 : decode cX7_plain 17 = .ok (.invokevirtual 82, 3) := by decide +kernel
theorem dX7_plain_20 : decode cX7_plain 20 = .ok (.ireturn, 1) := by decide +kernel
theorem dX7_plain_21 : decode cX7_plain 21 = .ok (.iconst 0, 1) := by decide +kernel
theorem dX7_plain_22 : decode cX7_plain 22 = .ok (.istore_n 1, 1) := by decide +kernel
theorem dX7_plain_23 : decode cX7_plain 23 = .ok (.iconst 0, 1) := by decide +kernel
theorem dX7_plain_24 : decode cX7_plain 24 = .ok (.istore_n 2, 1) := by decide +kernel
theorem dX7_plain_25 : decode cX7_plain 25 = .ok (.iload_n 2, 1) := by decide +kernel
theorem dX7_plain_26 : decode cX7_plain 26 = .ok (.iconst 2, 1) := by decide +kernel
theorem dX7_plain_27 : decode cX7_plain 27 = .ok (.if_icmp .ge 44, 3) := by decide +kernel
theorem dX7_plain_30 : decode cX7_plain 30 = .ok (.aload_n 0, 1) := by decide +kernel
theorem dX7_plain_31 : decode cX7_plain 31 = .ok (.invokevirtual 51, 3) := by decide +kernel
theorem dX7_plain_34 : decode cX7_plain 34 = .ok (.invokestatic 73, 3) := by decide +kernel
theorem dX7_plain_37 : decode cX7_plain 37 = .ok (.ifCond .ne 5, 3) := by decide +kernel
theorem dX7_plain_40 : decode cX7_plain 40 = .ok (.iconst 0, 1) := by decide +kernel
theorem dX7_plain_41 : decode cX7_plain 41 = .ok (.ireturn, 1) := by decide +kernel
theorem dX7_plain_42 : decode cX7_plain 42 = .ok (.iload_n 1, 1) := by decide +kernel
theorem dX7_plain_43 : decode cX7_plain 43 = .ok (.bipush 10, 2) := by decide +kernel
theorem dX7_plain_45 : decode cX7_plain 45 = .ok (.imul, 1) := by decide +kernel
theorem dX7_plain_46 : decode cX7_plain 46 = .ok (.aload_n 0, 1) := by decide +kernel
theorem dX7_plain_47 : decode cX7_plain 47 = .ok (.invokevirtual 51, 3) := by decide +kernel
theorem dX7_plain_50 : decode cX7_plain 50 = .ok (.iadd, 1) := by decide +kernel
theorem dX7_plain_51 : decode cX7_plain 51 = .ok (.bipush 48, 2) := by decide +kernel
theorem dX7_plain_53 : decode cX7_plain 53 = .ok (.isub, 1) := by decide +kernel
theorem dX7_plain_54 : decode cX7_plain 54 = .ok (.istore_n 1, 1) := by decide +kernel
theorem dX7_plain_55 : decode cX7_plain 55 = .ok (.aload_n 0, 1) := by decide +kernel
theorem dX7_plain_56 : decode cX7_plain 56 = .ok (.dup, 1) := by decide +kernel
theorem dX7_plain_57 : decode cX7_plain 57 = .ok (.getfield 22, 3) := by decide +kernel
theorem dX7_plain_60 : decode cX7_plain 60 = .ok (.iconst 1, 1) := by decide +kernel
theorem dX7_plain_61 : decode cX7_plain 61 = .ok (.iadd, 1) := by decide +kernel
theorem dX7_plain_62 : decode cX7_plain 62 = .ok (.putfield 22, 3) := by decide +kernel
theorem dX7_plain_65 : decode cX7_plain 65 = .ok (.iinc 2 1, 3) := by decide +kernel
theorem dX7_plain_68 : decode cX7_plain 68 = .ok (.goto (-43), 3) := by decide +kernel
theorem dX7_plain_71 : decode cX7_plain 71 = .ok (.aload_n 0, 1) := by decide +kernel
theorem dX7_plain_72 : decode cX7_plain 72 = .ok (.invokevirtual 51, 3) := by decide +kernel
theorem dX7_plain_75 : decode cX7_plain 75 = .ok (.bipush 97, 2) := by decide +kernel
theorem dX7_plain_77 : decode cX7_plain 77 = .ok (.isub, 1) := by decide +kernel
theorem dX7_plain_78 : decode cX7_plain 78 = .ok (.istore_n 2, 1) := by decide +kernel
theorem dX7_plain_79 : decode cX7_plain 79 = .ok (.iload_n 2, 1) := by decide +kernel
theorem dX7_plain_80 : decode cX7_plain 80 = .ok (.ifCond .lt 26, 3) := by decide +kernel
theorem dX7_plain_83 : decode cX7_plain 83 = .ok (.iload_n 2, 1) := by decide +kernel
theorem dX7_plain_84 : decode cX7_plain 84 = .ok (.bipush 16, 2) := by decide +kernel
theorem dX7_plain_86 : decode cX7_plain 86 = .ok (.if_icmp .ge 20, 3) := by decide +kernel
theorem dX7_plain_89 : decode cX7_plain 89 = .ok (.aload_n 0, 1) := by decide +kernel
theorem dX7_plain_90 : decode cX7_plain 90 = .ok (.iload_n 1, 1) := by decide +kernel
theorem dX7_plain_91 : decode cX7_plain 91 = .ok (.bipush 16, 2) := by decide +kernel
theorem dX7_plain_93 : decode cX7_plain 93 = .ok (.imul, 1) := by decide +kernel
theorem dX7_plain_94 : decode cX7_plain 94 = .ok (.iload_n 2, 1) := by decide +kernel
theorem dX7_plain_95 : decode cX7_plain 95 = .ok (.iadd, 1) := by decide +kernel
theorem dX7_plain_96 : decode cX7_plain 96 = .ok (.invokevirtual 82, 3) := by decide +kernel
theorem dX7_plain_99 : decode cX7_plain 99 = .ok (.ifCond .eq 7, 3) := by decide +kernel
theorem dX7_plain_102 : decode cX7_plain 102 = .ok (.iconst 1, 1) := by decide +kernel
theorem dX7_plain_103 : decode cX7_plain 103 = .ok (.goto 4, 3) := by decide +kernel
theorem dX7_plain_106 : decode cX7_plain 106 = .ok (.iconst 0, 1) := by decide +kernel
theorem dX7_plain_107 : decode cX7_plain 107 = .ok (.ireturn, 1) := by decide +kernel
theorem dX7_put_0 : decode cX7_put 0 = .ok (.iload_n 1, 1) := by decide +kernel
theorem dX7_put_1 : decode cX7_put 1 = .ok (.ifCond .ge 5, 3) := by decide +kernel
theorem dX7_put_4 : decode cX7_put 4 = .ok (.iconst 0, 1) := by decide +kernel
theorem dX7_put_5 : decode cX7_put 5 = .ok (.ireturn, 1) := by decide +kernel
theorem dX7_put_6 : decode cX7_put 6 = .ok (.aload_n 0, 1) := by decide +kernel
theorem dX7_put_7 : decode cX7_put 7 = .ok (.getfield 25, 3) := by decide +kernel
theorem dX7_put_10 : decode cX7_put 10 = .ok (.aload_n 0, 1) := by decide +kernel
theorem dX7_put_11 : decode cX7_put 11 = .ok (.getfield 9, 3) := by decide +kernel
theorem dX7_put_14 : decode cX7_put 14 = .ok (.arraylength, 1) := by decide +kernel
theorem dX7_put_15 : decode cX7_put 15 = .ok (.if_icmp .ge 13, 3) := by decide +kernel
theorem dX7_put_18 : decode cX7_put 18 = .ok (.aload_n 0, 1) := by decide +kernel
theorem dX7_put_19 : decode cX7_put 19 = .ok (.getfield 9, 3) := by decide +kernel
theorem dX7_put_22 : decode cX7_put 22 = .ok (.aload_n 0, 1) := by decide +kernel
theorem dX7_put_23 : decode cX7_put 23 = .ok (.getfield 25, 3) := by decide +kernel
theorem dX7_put_26 : decode cX7_put 26 = .ok (.iload_n 1, 1) := by decide +kernel
theorem dX7_put_27 : decode cX7_put 27 = .ok (.iastore, 1) := by decide +kernel
theorem dX7_put_28 : decode cX7_put 28 = .ok (.aload_n 0, 1) := by decide +kernel
theorem dX7_put_29 : decode cX7_put 29 = .ok (.dup, 1) := by decide +kernel
theorem dX7_put_30 : decode cX7_put 30 = .ok (.getfield 25, 3) := by decide +kernel
theorem dX7_put_33 : decode cX7_put 33 = .ok (.iconst 1, 1) := by decide +kernel
theorem dX7_put_34 : decode cX7_put 34 = .ok (.iadd, 1) := by decide +kernel
theorem dX7_put_35 : decode cX7_put 35 = .ok (.putfield 25, 3) := by decide +kernel
theorem dX7_put_38 : decode cX7_put 38 = .ok (.aload_n 0, 1) := by decide +kernel
theorem dX7_put_39 : decode cX7_put 39 = .ok (.dup, 1) := by decide +kernel
theorem dX7_put_40 : decode cX7_put 40 = .ok (.getfield 22, 3) := by decide +kernel
theorem dX7_put_43 : decode cX7_put 43 = .ok (.iconst 1, 1) := by decide +kernel
theorem dX7_put_44 : decode cX7_put 44 = .ok (.iadd, 1) := by decide +kernel
theorem dX7_put_45 : decode cX7_put 45 = .ok (.putfield 22, 3) := by decide +kernel
theorem dX7_put_48 : decode cX7_put 48 = .ok (.iconst 1, 1) := by decide +kernel
theorem dX7_put_49 : decode cX7_put 49 = .ok (.ireturn, 1) := by decide +kernel
theorem dX7_repeat_0 : decode cX7_repeat 0 = .ok (.aload_n 0, 1) := by decide +kernel
theorem dX7_repeat_1 : decode cX7_repeat 1 = .ok (.getfield 25, 3) := by decide +kernel
theorem dX7_repeat_4 : decode cX7_repeat 4 = .ok (.iload_n 1, 1) := by decide +kernel
theorem dX7_repeat_5 : decode cX7_repeat 5 = .ok (.isub, 1) := by decide +kernel
theorem dX7_repeat_6 : decode cX7_repeat 6 = .ok (.istore_n 3, 1) := by decide +kernel
theorem dX7_repeat_7 : decode cX7_repeat 7 = .ok (.iload_n 1, 1) := by decide +kernel
theorem dX7_repeat_8 : decode cX7_repeat 8 = .ok (.iload_n 3, 1) := by decide +kernel
theorem dX7_repeat_9 : decode cX7_repeat 9 = .ok (.iload_n 2, 1) := by decide +kernel
theorem dX7_repeat_10 : decode cX7_repeat 10 = .ok (.imul, 1) := by decide +kernel
theorem dX7_repeat_11 : decode cX7_repeat 11 = .ok (.iadd, 1) := by decide +kernel
theorem dX7_repeat_12 : decode cX7_repeat 12 = .ok (.aload_n 0, 1) := by decide +kernel
theorem dX7_repeat_13 : decode cX7_repeat 13 = .ok (.getfield 9, 3) := by decide +kernel
theorem dX7_repeat_16 : decode cX7_repeat 16 = .ok (.arraylength, 1) := by decide +kernel
theorem dX7_repeat_17 : decode cX7_repeat 17 = .ok (.invokestatic 38, 3) := by decide +kernel
theorem dX7_repeat_20 : decode cX7_repeat 20 = .ok (.istore 4, 2) := by decide +kernel
theorem dX7_repeat_22 : decode cX7_repeat 22 = .ok (.aload_n 0, 1) := by decide +kernel
theorem dX7_repeat_23 : decode cX7_repeat 23 = .ok (.getfield 25, 3) := by decide +kernel
theorem dX7_repeat_26 : decode cX7_repeat 26 = .ok (.istore 5, 2) := by decide +kernel
theorem dX7_repeat_28 : decode cX7_repeat 28 = .ok (.iload 5, 2) := by decide +kernel
theorem dX7_repeat_30 : decode cX7_repeat 30 = .ok (.iload 4, 2) := by decide +kernel
theorem dX7_repeat_32 : decode cX7_repeat 32 = .ok (.if_icmp .ge 25, 3) := by decide +kernel
theorem dX7_repeat_35 : decode cX7_repeat 35 = .ok (.aload_n 0, 1) := by decide +kernel
theorem dX7_repeat_36 : decode cX7_repeat 36 = .ok (.getfield 9, 3) := by decide +kernel
theorem dX7_repeat_39 : decode cX7_repeat 39 = .ok (.iload 5, 2) := by decide +kernel
theorem dX7_repeat_41 : decode cX7_repeat 41 = .ok (.aload_n 0, 1) := by decide +kernel
theorem dX7_repeat_42 : decode cX7_repeat 42 = .ok (.getfield 9, 3) := by decide +kernel
theorem dX7_repeat_45 : decode cX7_repeat 45 = .ok (.iload 5, 2) := by decide +kernel
theorem dX7_repeat_47 : decode cX7_repeat 47 = .ok (.iload_n 3, 1) := by decide +kernel
theorem dX7_repeat_48 : decode cX7_repeat 48 = .ok (.isub, 1) := by decide +kernel
theorem dX7_repeat_49 : decode cX7_repeat 49 = .ok (.iaload, 1) := by decide +kernel
theorem dX7_repeat_50 : decode cX7_repeat 50 = .ok (.iastore, 1) := by decide +kernel
theorem dX7_repeat_51 : decode cX7_repeat 51 = .ok (.iinc 5 1, 3) := by decide +kernel
theorem dX7_repeat_54 : decode cX7_repeat 54 = .ok (.goto (-26), 3) := by decide +kernel
theorem dX7_repeat_57 : decode cX7_repeat 57 = .ok (.aload_n 0, 1) := by decide +kernel
theorem dX7_repeat_58 : decode cX7_repeat 58 = .ok (.iload 4, 2) := by decide +kernel
theorem dX7_repeat_60 : decode cX7_repeat 60 = .ok (.putfield 25, 3) := by decide +kernel
theorem dX7_repeat_63 : decode cX7_repeat 63 = .ok (.return_, 1) := by decide +kernel
theorem dX8_init_0 : decode cX8_init 0 = .ok (.aload_n 0, 1) := by decide +kernel
theorem dX8_init_1 : decode cX8_init 1 = .ok (.invokespecial 3, 3) := by decide +kernel
theorem dX8_init_4 : decode cX8_init 4 = .ok (.aload_n 0, 1) := by decide +kernel
theorem dX8_init_5 : decode cX8_init 5 = .ok (.iconst 0, 1) := by decide +kernel
theorem dX8_init_6 : decode cX8_init 6 = .ok (.putfield 9, 3) := by decide +kernel
theorem dX8_init_9 : decode cX8_init 9 = .ok (.aload_n 0, 1) := by decide +kernel
theorem dX8_init_10 : decode cX8_init 10 = .ok (.bipush 9, 2) := by decide +kernel
theorem dX8_init_12 : decode cX8_init 12 = .ok (.putfield 15, 3) := by decide +kernel
theorem dX8_init_15 : decode cX8_init 15 = .ok (.aload_n 0, 1) := by decide +kernel
theorem dX8_init_16 : decode cX8_init 16 = .ok (.iconst 0, 1) := by decide +kernel
theorem dX8_init_17 : decode cX8_init 17 = .ok (.putfield 18, 3) := by decide +kernel
theorem dX8_init_20 : decode cX8_init 20 = .ok (.aload_n 0, 1) := by decide +kernel
theorem dX8_init_21 : decode cX8_init 21 = .ok (.iconst 0, 1) := by decide +kernel
theorem dX8_init_22 : decode cX8_init 22 = .ok (.putfield 21, 3) := by decide +kernel
theorem dX8_init_25 : decode cX8_init 25 = .ok (.aload_n 0, 1) := by decide +kernel
theorem dX8_init_26 : decode cX8_init 26 = .ok (.iconst 0, 1) := by decide +kernel
theorem dX8_init_27 : decode cX8_init 27 = .ok (.putfield 24, 3) := by decide +kernel
theorem dX8_init_30 : decode cX8_init 30 = .ok (.aload_n 0, 1) := by decide +kernel
theorem dX8_init_31 : decode cX8_init 31 = .ok (.iconst 0, 1) := by decide +kernel
theorem dX8_init_32 : decode cX8_init 32 = .ok (.putfield 28, 3) := by decide +kernel
theorem dX8_init_35 : decode cX8_init 35 = .ok (.return_, 1) := by decide +kernel
theorem dX8_renew_0 : decode cX8_renew 0 = .ok (.aload_n 0, 1) := by decide +kernel
theorem dX8_renew_1 : decode cX8_renew 1 = .ok (.iconst 0, 1) := by decide +kernel
theorem dX8_renew_2 : decode cX8_renew 2 = .ok (.putfield 9, 3) := by decide +kernel
theorem dX8_renew_5 : decode cX8_renew 5 = .ok (.aload_n 0, 1) := by decide +kernel
theorem dX8_renew_6 : decode cX8_renew 6 = .ok (.bipush 9, 2) := by decide +kernel
theorem dX8_renew_8 : decode cX8_renew 8 = .ok (.putfield 15, 3) := by decide +kernel
theorem dX8_renew_11 : decode cX8_renew 11 = .ok (.aload_n 0, 1) := by decide +kernel
theorem dX8_renew_12 : decode cX8_renew 12 = .ok (.iconst 0, 1) := by decide +kernel
theorem dX8_renew_13 : decode cX8_renew 13 = .ok (.putfield 18, 3) := by decide +kernel
theorem dX8_renew_16 : decode cX8_renew 16 = .ok (.aload_n 0, 1) := by decide +kernel
theorem dX8_renew_17 : decode cX8_renew 17 = .ok (.iconst 0, 1) := by decide +kernel
theorem dX8_renew_18 : decode cX8_renew 18 = .ok (.putfield 21, 3) := by decide +kernel
theorem dX8_renew_21 : decode cX8_renew 21 = .ok (.aload_n 0, 1) := by decide +kernel
theorem dX8_renew_22 : decode cX8_renew 22 = .ok (.iconst 0, 1) := by decide +kernel
theorem dX8_renew_23 : decode cX8_renew 23 = .ok (.putfield 24, 3) := by decide +kernel
theorem dX8_renew_26 : decode cX8_renew 26 = .ok (.aload_n 0, 1) := by decide +kernel
theorem dX8_renew_27 : decode cX8_renew 27 = .ok (.iconst 0, 1) := by decide +kernel
theorem dX8_renew_28 : decode cX8_renew 28 = .ok (.putfield 28, 3) := by decide +kernel
theorem dX8_renew_31 : decode cX8_renew 31 = .ok (.return_, 1) := by decide +kernel
theorem dX8_take_0 : decode cX8_take 0 = .ok (.aload_n 0, 1) := by decide +kernel
theorem dX8_take_1 : decode cX8_take 1 = .ok (.aload_n 1, 1) := by decide +kernel
theorem dX8_take_2 : decode cX8_take 2 = .ok (.getfield 9, 3) := by decide +kernel
theorem dX8_take_5 : decode cX8_take 5 = .ok (.putfield 9, 3) := by decide +kernel
theorem dX8_take_8 : decode cX8_take 8 = .ok (.aload_n 0, 1) := by decide +kernel
theorem dX8_take_9 : decode cX8_take 9 = .ok (.aload_n 1, 1) := by decide +kernel
theorem dX8_take_10 : decode cX8_take 10 = .ok (.getfield 15, 3) := by decide +kernel
theorem dX8_take_13 : decode cX8_take 13 = .ok (.putfield 15, 3) := by decide +kernel
theorem dX8_take_16 : decode cX8_take 16 = .ok (.aload_n 0, 1) := by decide +kernel
theorem dX8_take_17 : decode cX8_take 17 = .ok (.aload_n 1, 1) := by decide +kernel
theorem dX8_take_18 : decode cX8_take 18 = .ok (.getfield 18, 3) := by decide +kernel
theorem dX8_take_21 : decode cX8_take 21 = .ok (.putfield 18, 3) := by decide +kernel
theorem dX8_take_24 : decode cX8_take 24 = .ok (.aload_n 0, 1) := by decide +kernel
theorem dX8_take_25 : decode cX8_take 25 = .ok (.aload_n 1, 1) := by decide +kernel
theorem dX8_take_26 : decode cX8_take 26 = .ok (.getfield 21, 3) := by decide +kernel
theorem dX8_take_29 : decode cX8_take 29 = .ok (.putfield 21, 3) := by decide +kernel
theorem dX8_take_32 : decode cX8_take 32 = .ok (.aload_n 0, 1) := by decide +kernel
theorem dX8_take_33 : decode cX8_take 33 = .ok (.aload_n 1, 1) := by decide +kernel
theorem dX8_take_34 : decode cX8_take 34 = .ok (.getfield 24, 3) := by decide +kernel
theorem dX8_take_37 : decode cX8_take 37 = .ok (.putfield 24, 3) := by decide +kernel
theorem dX8_take_40 : decode cX8_take 40 = .ok (.aload_n 0, 1) := by decide +kernel
theorem dX8_take_41 : decode cX8_take 41 = .ok (.aload_n 1, 1) := by decide +kernel
theorem dX8_take_42 : decode cX8_take 42 = .ok (.getfield 28, 3) := by decide +kernel
theorem dX8_take_45 : decode cX8_take 45 = .ok (.putfield 28, 3) := by decide +kernel
theorem dX8_take_48 : decode cX8_take 48 = .ok (.return_, 1) := by decide +kernel
theorem dX8_opens_0 : decode cX8_opens 0 = .ok (.aload_n 0, 1) := by decide +kernel
theorem dX8_opens_1 : decode cX8_opens 1 = .ok (.iconst 1, 1) := by decide +kernel
theorem dX8_opens_2 : decode cX8_opens 2 = .ok (.putfield 24, 3) := by decide +kernel
theorem dX8_opens_5 : decode cX8_opens 5 = .ok (.aload_n 0, 1) := by decide +kernel
theorem dX8_opens_6 : decode cX8_opens 6 = .ok (.iconst 0, 1) := by decide +kernel
theorem dX8_opens_7 : decode cX8_opens 7 = .ok (.putfield 18, 3) := by decide +kernel
theorem dX8_opens_10 : decode cX8_opens 10 = .ok (.return_, 1) := by decide +kernel
theorem dX8_corks_0 : decode cX8_corks 0 = .ok (.aload_n 0, 1) := by decide +kernel
theorem dX8_corks_1 : decode cX8_corks 1 = .ok (.iconst 0, 1) := by decide +kernel
theorem dX8_corks_2 : decode cX8_corks 2 = .ok (.putfield 24, 3) := by decide +kernel
theorem dX8_corks_5 : decode cX8_corks 5 = .ok (.aload_n 0, 1) := by decide +kernel
theorem dX8_corks_6 : decode cX8_corks 6 = .ok (.bipush 9, 2) := by decide +kernel
theorem dX8_corks_8 : decode cX8_corks 8 = .ok (.putfield 15, 3) := by decide +kernel
theorem dX8_corks_11 : decode cX8_corks 11 = .ok (.aload_n 0, 1) := by decide +kernel
theorem dX8_corks_12 : decode cX8_corks 12 = .ok (.iconst 0, 1) := by decide +kernel
theorem dX8_corks_13 : decode cX8_corks 13 = .ok (.putfield 18, 3) := by decide +kernel
theorem dX8_corks_16 : decode cX8_corks 16 = .ok (.return_, 1) := by decide +kernel
theorem dX8_loosen_0 : decode cX8_loosen 0 = .ok (.aload_n 0, 1) := by decide +kernel
theorem dX8_loosen_1 : decode cX8_loosen 1 = .ok (.dup, 1) := by decide +kernel
theorem dX8_loosen_2 : decode cX8_loosen 2 = .ok (.getfield 15, 3) := by decide +kernel
theorem dX8_loosen_5 : decode cX8_loosen 5 = .ok (.iload_n 1, 1) := by decide +kernel
theorem dX8_loosen_6 : decode cX8_loosen 6 = .ok (.isub, 1) := by decide +kernel
theorem dX8_loosen_7 : decode cX8_loosen 7 = .ok (.putfield 15, 3) := by decide +kernel
theorem dX8_loosen_10 : decode cX8_loosen 10 = .ok (.aload_n 0, 1) := by decide +kernel
theorem dX8_loosen_11 : decode cX8_loosen 11 = .ok (.getfield 15, 3) := by decide +kernel
theorem dX8_loosen_14 : decode cX8_loosen 14 = .ok (.ifCond .gt 13, 3) := by decide +kernel
theorem dX8_loosen_17 : decode cX8_loosen 17 = .ok (.aload_n 0, 1) := by decide +kernel
theorem dX8_loosen_18 : decode cX8_loosen 18 = .ok (.iconst 0, 1) := by decide +kernel
theorem dX8_loosen_19 : decode cX8_loosen 19 = .ok (.putfield 15, 3) := by decide +kernel
theorem dX8_loosen_22 : decode cX8_loosen 22 = .ok (.aload_n 0, 1) := by decide +kernel
theorem dX8_loosen_23 : decode cX8_loosen 23 = .ok (.iconst 1, 1) := by decide +kernel
theorem dX8_loosen_24 : decode cX8_loosen 24 = .ok (.putfield 28, 3) := by decide +kernel
theorem dX8_loosen_27 : decode cX8_loosen 27 = .ok (.return_, 1) := by decide +kernel
theorem dX9_init_0 : decode cX9_init 0 = .ok (.aload_n 0, 1) := by decide +kernel
theorem dX9_init_1 : decode cX9_init 1 = .ok (.invokespecial 3, 3) := by decide +kernel
theorem dX9_init_4 : decode cX9_init 4 = .ok (.aload_n 0, 1) := by decide +kernel
theorem dX9_init_5 : decode cX9_init 5 = .ok (.bipush 36, 2) := by decide +kernel
theorem dX9_init_7 : decode cX9_init 7 = .ok (.newarray .int, 2) := by decide +kernel
theorem dX9_init_9 : decode cX9_init 9 = .ok (.putfield 9, 3) := by decide +kernel
theorem dX9_init_12 : decode cX9_init 12 = .ok (.aload_n 0, 1) := by decide +kernel
theorem dX9_init_13 : decode cX9_init 13 = .ok (.iconst 0, 1) := by decide +kernel
theorem dX9_init_14 : decode cX9_init 14 = .ok (.putfield 15, 3) := by decide +kernel
theorem dX9_init_17 : decode cX9_init 17 = .ok (.return_, 1) := by decide +kernel
theorem dX9_hear_0 : decode cX9_hear 0 = .ok (.aload_n 0, 1) := by decide +kernel
theorem dX9_hear_1 : decode cX9_hear 1 = .ok (.iload_n 2, 1) := by decide +kernel
theorem dX9_hear_2 : decode cX9_hear 2 = .ok (.bipush 6, 2) := by decide +kernel
theorem dX9_hear_4 : decode cX9_hear 4 = .ok (.invokestatic 19, 3) := by decide +kernel
theorem dX9_hear_7 : decode cX9_hear 7 = .ok (.putfield 15, 3) := by decide +kernel
theorem dX9_hear_10 : decode cX9_hear 10 = .ok (.aload_n 0, 1) := by decide +kernel
theorem dX9_hear_11 : decode cX9_hear 11 = .ok (.getfield 9, 3) := by decide +kernel
theorem dX9_hear_14 : decode cX9_hear 14 = .ok (.iconst 0, 1) := by decide +kernel
theorem dX9_hear_15 : decode cX9_hear 15 = .ok (.invokestatic 25, 3) := by decide +kernel
theorem dX9_hear_18 : decode cX9_hear 18 = .ok (.iconst 0, 1) := by decide +kernel
theorem dX9_hear_19 : decode cX9_hear 19 = .ok (.istore 4, 2) := by decide +kernel
theorem dX9_hear_21 : decode cX9_hear 21 = .ok (.iload 4, 2) := by decide +kernel
theorem dX9_hear_23 : decode cX9_hear 23 = .ok (.iload_n 3, 1) := by decide +kernel
theorem dX9_hear_24 : decode cX9_hear 24 = .ok (.if_icmp .ge 26, 3) := by decide +kernel
theorem dX9_hear_27 : decode cX9_hear 27 = .ok (.aload_n 0, 1) := by decide +kernel
theorem dX9_hear_28 : decode cX9_hear 28 = .ok (.aload_n 1, 1) := by decide +kernel
theorem dX9_hear_29 : decode cX9_hear 29 = .ok (.iload 4, 2) := by decide +kernel
theorem dX9_hear_31 : decode cX9_hear 31 = .ok (.aload_n 0, 1) := by decide +kernel
theorem dX9_hear_32 : decode cX9_hear 32 = .ok (.getfield 15, 3) := by decide +kernel
theorem dX9_hear_35 : decode cX9_hear 35 = .ok (.imul, 1) := by decide +kernel
theorem dX9_hear_36 : decode cX9_hear 36 = .ok (.invokevirtual 31, 3) := by decide +kernel
theorem dX9_hear_39 : decode cX9_hear 39 = .ok (.ifCond .ne 5, 3) := by decide +kernel
theorem dX9_hear_42 : decode cX9_hear 42 = .ok (.iconst 0, 1) := by decide +kernel
theorem dX9_hear_43 : decode cX9_hear 43 = .ok (.ireturn, 1) := by decide +kernel
theorem dX9_hear_44 : decode cX9_hear 44 = .ok (.iinc 4 1, 3) := by decide +kernel
theorem dX9_hear_47 : decode cX9_hear 47 = .ok (.goto (-26), 3) := by decide +kernel
theorem dX9_hear_50 : decode cX9_hear 50 = .ok (.iconst 1, 1) := by decide +kernel
theorem dX9_hear_51 : decode cX9_hear 51 = .ok (.ireturn, 1) := by decide +kernel
theorem dX9_hearOne_0 : decode cX9_hearOne 0 = .ok (.iconst 0, 1) := by decide +kernel
theorem dX9_hearOne_1 : decode cX9_hearOne 1 = .ok (.istore_n 3, 1) := by decide +kernel
theorem dX9_hearOne_2 : decode cX9_hearOne 2 = .ok (.iload_n 2, 1) := by decide +kernel
theorem dX9_hearOne_3 : decode cX9_hearOne 3 = .ok (.istore 4, 2) := by decide +kernel
theorem dX9_hearOne_5 : decode cX9_hearOne 5 = .ok (.iload 4, 2) := by decide +kernel
theorem dX9_hearOne_7 : decode cX9_hearOne 7 = .ok (.iload_n 2, 1) := by decide +kernel
theorem dX9_hearOne_8 : decode cX9_hearOne 8 = .ok (.aload_n 0, 1) := by decide +kernel
theorem dX9_hearOne_9 : decode cX9_hearOne 9 = .ok (.getfield 15, 3) := by decide +kernel
theorem dX9_hearOne_12 : decode cX9_hearOne 12 = .ok (.iadd, 1) := by decide +kernel
theorem dX9_hearOne_13 : decode cX9_hearOne 13 = .ok (.if_icmp .ge 95, 3) := by decide +kernel
theorem dX9_hearOne_16 : decode cX9_hearOne 16 = .ok (.iload 4, 2) := by decide +kernel
theorem dX9_hearOne_18 : decode cX9_hearOne 18 = .ok (.aload_n 1, 1) := by decide +kernel
theorem dX9_hearOne_19 : decode cX9_hearOne 19 = .ok (.arraylength, 1) := by decide +kernel
theorem dX9_hearOne_20 : decode cX9_hearOne 20 = .ok (.if_icmp .ge 88, 3) := by decide +kernel
theorem dX9_hearOne_23 : decode cX9_hearOne 23 = .ok (.aload_n 1, 1) := by decide +kernel
theorem dX9_hearOne_24 : decode cX9_hearOne 24 = .ok (.iload 4, 2) := by decide +kernel
theorem dX9_hearOne_26 : decode cX9_hearOne 26 = .ok (.iaload, 1) := by decide +kernel
theorem dX9_hearOne_27 : decode cX9_hearOne 27 = .ok (.istore 5, 2) := by decide +kernel
theorem dX9_hearOne_29 : decode cX9_hearOne 29 = .ok (.iload 5, 2) := by decide +kernel
theorem dX9_hearOne_31 : decode cX9_hearOne 31 = .ok (.ifCond .lt 22, 3) := by decide +kernel
theorem dX9_hearOne_34 : decode cX9_hearOne 34 = .ok (.iload 5, 2) := by decide +kernel
theorem dX9_hearOne_36 : decode cX9_hearOne 36 = .ok (.aload_n 0, 1) := by decide +kernel
theorem dX9_hearOne_37 : decode cX9_hearOne 37 = .ok (.getfield 15, 3) := by decide +kernel
theorem dX9_hearOne_40 : decode cX9_hearOne 40 = .ok (.if_icmp .ge 13, 3) := by decide +kernel
theorem dX9_hearOne_43 : decode cX9_hearOne 43 = .ok (.iload_n 3, 1) := by decide +kernel
theorem dX9_hearOne_44 : decode cX9_hearOne 44 = .ok (.iload 5, 2) := by decide +kernel
theorem dX9_hearOne_46 : decode cX9_hearOne 46 = .ok (.ishr, 1) := by decide +kernel
theorem dX9_hearOne_47 : decode cX9_hearOne 47 = .ok (.iconst 1, 1) := by decide +kernel
theorem dX9_hearOne_48 : decode cX9_hearOne 48 = .ok (.iand, 1) := by decide +kernel
theorem dX9_hearOne_49 : decode cX9_hearOne 49 = .ok (.iconst 1, 1) := by decide +kernel
theorem dX9_hearOne_50 : decode cX9_hearOne 50 = .ok (.if_icmp .ne 5, 3) := by decide +kernel
theorem dX9_hearOne_53 : decode cX9_hearOne 53 = .ok (.iconst 0, 1) := by decide +kernel
theorem dX9_hearOne_54 : decode cX9_hearOne 54 = .ok (.ireturn, 1) := by decide +kernel
theorem dX9_hearOne_55 : decode cX9_hearOne 55 = .ok (.iconst 0, 1) := by decide +kernel
theorem dX9_hearOne_56 : decode cX9_hearOne 56 = .ok (.istore 6, 2) := by decide +kernel
theorem dX9_hearOne_58 : decode cX9_hearOne 58 = .ok (.iload 6, 2) := by decide +kernel
theorem dX9_hearOne_60 : decode cX9_hearOne 60 = .ok (.aload_n 0, 1) := by decide +kernel
theorem dX9_hearOne_61 : decode cX9_hearOne 61 = .ok (.getfield 15, 3) := by decide +kernel
theorem dX9_hearOne_64 : decode cX9_hearOne 64 = .ok (.if_icmp .ge 31, 3) := by decide +kernel
theorem dX9_hearOne_67 : decode cX9_hearOne 67 = .ok (.aload_n 0, 1) := by decide +kernel
theorem dX9_hearOne_68 : decode cX9_hearOne 68 = .ok (.getfield 9, 3) := by decide +kernel
theorem dX9_hearOne_71 : decode cX9_hearOne 71 = .ok (.iload 6, 2) := by decide +kernel
theorem dX9_hearOne_73 : decode cX9_hearOne 73 = .ok (.bipush 6, 2) := by decide +kernel
theorem dX9_hearOne_75 : decode cX9_hearOne 75 = .ok (.imul, 1) := by decide +kernel
theorem dX9_hearOne_76 : decode cX9_hearOne 76 = .ok (.iload 5, 2) := by decide +kernel
theorem dX9_hearOne_78 : decode cX9_hearOne 78 = .ok (.iadd, 1) := by decide +kernel
theorem dX9_hearOne_79 : decode cX9_hearOne 79 = .ok (.dup2, 1) := by decide +kernel
theorem dX9_hearOne_80 : decode cX9_hearOne 80 = .ok (.iaload, 1) := by decide +kernel
theorem dX9_hearOne_81 : decode cX9_hearOne 81 = .ok (.iload_n 3, 1) := by decide +kernel
theorem dX9_hearOne_82 : decode cX9_hearOne 82 = .ok (.iload 6, 2) := by decide +kernel
theorem dX9_hearOne_84 : decode cX9_hearOne 84 = .ok (.ishr, 1) := by decide +kernel
theorem dX9_hearOne_85 : decode cX9_hearOne 85 = .ok (.iconst 1, 1) := by decide +kernel
theorem dX9_hearOne_86 : decode cX9_hearOne 86 = .ok (.iand, 1) := by decide +kernel
theorem dX9_hearOne_87 : decode cX9_hearOne 87 = .ok (.iadd, 1) := by decide +kernel
theorem dX9_hearOne_88 : decode cX9_hearOne 88 = .ok (.iastore, 1) := by decide +kernel
theorem dX9_hearOne_89 : decode cX9_hearOne 89 = .ok (.iinc 6 1, 3) := by decide +kernel
theorem dX9_hearOne_92 : decode cX9_hearOne 92 = .ok (.goto (-34), 3) := by decide +kernel
theorem dX9_hearOne_95 : decode cX9_hearOne 95 = .ok (.iload_n 3, 1) := by decide +kernel
theorem dX9_hearOne_96 : decode cX9_hearOne 96 = .ok (.iconst 1, 1) := by decide +kernel
theorem dX9_hearOne_97 : decode cX9_hearOne 97 = .ok (.iload 5, 2) := by decide +kernel
theorem dX9_hearOne_99 : decode cX9_hearOne 99 = .ok (.ishl, 1) := by decide +kernel
theorem dX9_hearOne_100 : decode cX9_hearOne 100 = .ok (.ior, 1) := by decide +kernel
theorem dX9_hearOne_101 : decode cX9_hearOne 101 = .ok (.istore_n 3, 1) := by decide +kernel
theorem dX9_hearOne_102 : decode cX9_hearOne 102 = .ok (.iinc 4 1, 3) := by decide +kernel
theorem dX9_hearOne_105 : decode cX9_hearOne 105 = .ok (.goto (-100), 3) := by decide +kernel
theorem dX9_hearOne_108 : decode cX9_hearOne 108 = .ok (.iconst 1, 1) := by decide +kernel
theorem dX9_hearOne_109 : decode cX9_hearOne 109 = .ok (.ireturn, 1) := by decide +kernel
theorem dX9_cost_0 : decode cX9_cost 0 = .ok (.iconst 0, 1) := by decide +kernel
theorem dX9_cost_1 : decode cX9_cost 1 = .ok (.istore_n 3, 1) := by decide +kernel
theorem dX9_cost_2 : decode cX9_cost 2 = .ok (.iconst 0, 1) := by decide +kernel
theorem dX9_cost_3 : decode cX9_cost 3 = .ok (.istore 4, 2) := by decide +kernel
theorem dX9_cost_5 : decode cX9_cost 5 = .ok (.iload 4, 2) := by decide +kernel
theorem dX9_cost_7 : decode cX9_cost 7 = .ok (.aload_n 0, 1) := by decide +kernel
theorem dX9_cost_8 : decode cX9_cost 8 = .ok (.getfield 15, 3) := by decide +kernel
theorem dX9_cost_11 : decode cX9_cost 11 = .ok (.if_icmp .ge 39, 3) := by decide +kernel
theorem dX9_cost_14 : decode cX9_cost 14 = .ok (.iload 4, 2) := by decide +kernel
theorem dX9_cost_16 : decode cX9_cost 16 = .ok (.iload_n 2, 1) := by decide +kernel
theorem dX9_cost_17 : decode cX9_cost 17 = .ok (.if_icmp .eq 27, 3) := by decide +kernel
theorem dX9_cost_20 : decode cX9_cost 20 = .ok (.iload_n 1, 1) := by decide +kernel
theorem dX9_cost_21 : decode cX9_cost 21 = .ok (.iload 4, 2) := by decide +kernel
theorem dX9_cost_23 : decode cX9_cost 23 = .ok (.ishr, 1) := by decide +kernel
theorem dX9_cost_24 : decode cX9_cost 24 = .ok (.iconst 1, 1) := by decide +kernel
theorem dX9_cost_25 : decode cX9_cost 25 = .ok (.iand, 1) := by decide +kernel
theorem dX9_cost_26 : decode cX9_cost 26 = .ok (.ifCond .ne 18, 3) := by decide +kernel
theorem dX9_cost_29 : decode cX9_cost 29 = .ok (.iload_n 3, 1) := by decide +kernel
theorem dX9_cost_30 : decode cX9_cost 30 = .ok (.aload_n 0, 1) := by decide +kernel
theorem dX9_cost_31 : decode cX9_cost 31 = .ok (.getfield 9, 3) := by decide +kernel
theorem dX9_cost_34 : decode cX9_cost 34 = .ok (.iload 4, 2) := by decide +kernel
theorem dX9_cost_36 : decode cX9_cost 36 = .ok (.bipush 6, 2) := by decide +kernel
theorem dX9_cost_38 : decode cX9_cost 38 = .ok (.imul, 1) := by decide +kernel
theorem dX9_cost_39 : decode cX9_cost 39 = .ok (.iload_n 2, 1) := by decide +kernel
theorem dX9_cost_40 : decode cX9_cost 40 = .ok (.iadd, 1) := by decide +kernel
theorem dX9_cost_41 : decode cX9_cost 41 = .ok (.iaload, 1) := by decide +kernel
theorem dX9_cost_42 : decode cX9_cost 42 = .ok (.iadd, 1) := by decide +kernel
theorem dX9_cost_43 : decode cX9_cost 43 = .ok (.istore_n 3, 1) := by decide +kernel
theorem dX9_cost_44 : decode cX9_cost 44 = .ok (.iinc 4 1, 3) := by decide +kernel
theorem dX9_cost_47 : decode cX9_cost 47 = .ok (.goto (-42), 3) := by decide +kernel
theorem dX9_cost_50 : decode cX9_cost 50 = .ok (.iload_n 3, 1) := by decide +kernel
theorem dX9_cost_51 : decode cX9_cost 51 = .ok (.ireturn, 1) := by decide +kernel
theorem dX10_init_0 : decode cX10_init 0 = .ok (.aload_n 0, 1) := by decide +kernel
theorem dX10_init_1 : decode cX10_init 1 = .ok (.invokespecial 3, 3) := by decide +kernel
theorem dX10_init_4 : decode cX10_init 4 = .ok (.aload_n 0, 1) := by decide +kernel
theorem dX10_init_5 : decode cX10_init 5 = .ok (.bipush 24, 2) := by decide +kernel
theorem dX10_init_7 : decode cX10_init 7 = .ok (.newarray .int, 2) := by decide +kernel
theorem dX10_init_9 : decode cX10_init 9 = .ok (.putfield 9, 3) := by decide +kernel
theorem dX10_init_12 : decode cX10_init 12 = .ok (.aload_n 0, 1) := by decide +kernel
theorem dX10_init_13 : decode cX10_init 13 = .ok (.bipush 24, 2) := by decide +kernel
theorem dX10_init_15 : decode cX10_init 15 = .ok (.newarray .int, 2) := by decide +kernel
theorem dX10_init_17 : decode cX10_init 17 = .ok (.putfield 15, 3) := by decide +kernel
theorem dX10_init_20 : decode cX10_init 20 = .ok (.aload_n 0, 1) := by decide +kernel
theorem dX10_init_21 : decode cX10_init 21 = .ok (.new 18, 3) := by decide +kernel
theorem dX10_init_24 : decode cX10_init 24 = .ok (.dup, 1) := by decide +kernel
theorem dX10_init_25 : decode cX10_init 25 = .ok (.invokespecial 20, 3) := by decide +kernel
theorem dX10_init_28 : decode cX10_init 28 = .ok (.putfield 21, 3) := by decide +kernel
theorem dX10_init_31 : decode cX10_init 31 = .ok (.aload_n 0, 1) := by decide +kernel
theorem dX10_init_32 : decode cX10_init 32 = .ok (.new 18, 3) := by decide +kernel
theorem dX10_init_35 : decode cX10_init 35 = .ok (.dup, 1) := by decide +kernel
theorem dX10_init_36 : decode cX10_init 36 = .ok (.invokespecial 20, 3) := by decide +kernel
theorem dX10_init_39 : decode cX10_init 39 = .ok (.putfield 25, 3) := by decide +kernel
theorem dX10_init_42 : decode cX10_init 42 = .ok (.aload_n 0, 1) := by decide +kernel
theorem dX10_init_43 : decode cX10_init 43 = .ok (.iconst 0, 1) := by decide +kernel
theorem dX10_init_44 : decode cX10_init 44 = .ok (.putfield 28, 3) := by decide +kernel
theorem dX10_init_47 : decode cX10_init 47 = .ok (.aload_n 0, 1) := by decide +kernel
theorem dX10_init_48 : decode cX10_init 48 = .ok (.iconst 0, 1) := by decide +kernel
theorem dX10_init_49 : decode cX10_init 49 = .ok (.putfield 32, 3) := by decide +kernel
theorem dX10_init_52 : decode cX10_init 52 = .ok (.return_, 1) := by decide +kernel
theorem dX10_tell_0 : decode cX10_tell 0 = .ok (.aload_n 0, 1) := by decide +kernel
theorem dX10_tell_1 : decode cX10_tell 1 = .ok (.iload_n 2, 1) := by decide +kernel
theorem dX10_tell_2 : decode cX10_tell 2 = .ok (.bipush 24, 2) := by decide +kernel
theorem dX10_tell_4 : decode cX10_tell 4 = .ok (.invokestatic 36, 3) := by decide +kernel
theorem dX10_tell_7 : decode cX10_tell 7 = .ok (.putfield 28, 3) := by decide +kernel
theorem dX10_tell_10 : decode cX10_tell 10 = .ok (.iconst 0, 1) := by decide +kernel
theorem dX10_tell_11 : decode cX10_tell 11 = .ok (.istore_n 3, 1) := by decide +kernel
theorem dX10_tell_12 : decode cX10_tell 12 = .ok (.iload_n 3, 1) := by decide +kernel
theorem dX10_tell_13 : decode cX10_tell 13 = .ok (.aload_n 0, 1) := by decide +kernel
theorem dX10_tell_14 : decode cX10_tell 14 = .ok (.getfield 28, 3) := by decide +kernel
theorem dX10_tell_17 : decode cX10_tell 17 = .ok (.if_icmp .ge 33, 3) := by decide +kernel
theorem dX10_tell_20 : decode cX10_tell 20 = .ok (.aload_n 0, 1) := by decide +kernel
theorem dX10_tell_21 : decode cX10_tell 21 = .ok (.getfield 9, 3) := by decide +kernel
theorem dX10_tell_24 : decode cX10_tell 24 = .ok (.iload_n 3, 1) := by decide +kernel
theorem dX10_tell_25 : decode cX10_tell 25 = .ok (.aload_n 1, 1) := by decide +kernel
theorem dX10_tell_26 : decode cX10_tell 26 = .ok (.iload_n 3, 1) := by decide +kernel
theorem dX10_tell_27 : decode cX10_tell 27 = .ok (.iaload, 1) := by decide +kernel
theorem dX10_tell_28 : decode cX10_tell 28 = .ok (.bipush 16, 2) := by decide +kernel
theorem dX10_tell_30 : decode cX10_tell 30 = .ok (.idiv, 1) := by decide +kernel
theorem dX10_tell_31 : decode cX10_tell 31 = .ok (.iastore, 1) := by decide +kernel
theorem dX10_tell_32 : decode cX10_tell 32 = .ok (.aload_n 0, 1) := by decide +kernel
theorem dX10_tell_33 : decode cX10_tell 33 = .ok (.getfield 15, 3) := by decide +kernel
theorem dX10_tell_36 : decode cX10_tell 36 = .ok (.iload_n 3, 1) := by decide +kernel
theorem dX10_tell_37 : decode cX10_tell 37 = .ok (.aload_n 1, 1) := by decide +kernel
theorem dX10_tell_38 : decode cX10_tell 38 = .ok (.iload_n 3, 1) := by decide +kernel
theorem dX10_tell_39 : decode cX10_tell 39 = .ok (.iaload, 1) := by decide +kernel
theorem dX10_tell_40 : decode cX10_tell 40 = .ok (.bipush 16, 2) := by decide +kernel
theorem dX10_tell_42 : decode cX10_tell 42 = .ok (.irem, 1) := by decide +kernel
theorem dX10_tell_43 : decode cX10_tell 43 = .ok (.iastore, 1) := by decide +kernel
theorem dX10_tell_44 : decode cX10_tell 44 = .ok (.iinc 3 1, 3) := by decide +kernel
theorem dX10_tell_47 : decode cX10_tell 47 = .ok (.goto (-35), 3) := by decide +kernel
theorem dX10_tell_50 : decode cX10_tell 50 = .ok (.aload_n 0, 1) := by decide +kernel
theorem dX10_tell_51 : decode cX10_tell 51 = .ok (.getfield 21, 3) := by decide +kernel
theorem dX10_tell_54 : decode cX10_tell 54 = .ok (.invokevirtual 42, 3) := by decide +kernel
theorem dX10_tell_57 : decode cX10_tell 57 = .ok (.aload_n 0, 1) := by decide +kernel
theorem dX10_tell_58 : decode cX10_tell 58 = .ok (.iconst 1, 1) := by decide +kernel
theorem dX10_tell_59 : decode cX10_tell 59 = .ok (.putfield 32, 3) := by decide +kernel
theorem dX10_tell_62 : decode cX10_tell 62 = .ok (.return_, 1) := by decide +kernel
theorem dX10_comeBack_0 : decode cX10_comeBack 0 = .ok (.aload_n 0, 1) := by decide +kernel
theorem dX10_comeBack_1 : decode cX10_comeBack 1 = .ok (.getfield 21, 3) := by decide +kernel
theorem dX10_comeBack_4 : decode cX10_comeBack 4 = .ok (.aload_n 0, 1) := by decide +kernel
theorem dX10_comeBack_5 : decode cX10_comeBack 5 = .ok (.getfield 25, 3) := by decide +kernel
theorem dX10_comeBack_8 : decode cX10_comeBack 8 = .ok (.invokevirtual 45, 3) := by decide +kernel
theorem dX10_comeBack_11 : decode cX10_comeBack 11 = .ok (.aload_n 0, 1) := by decide +kernel
theorem dX10_comeBack_12 : decode cX10_comeBack 12 = .ok (.getfield 21, 3) := by decide +kernel
theorem dX10_comeBack_15 : decode cX10_comeBack 15 = .ok (.aload_n 0, 1) := by decide +kernel
theorem dX10_comeBack_16 : decode cX10_comeBack 16 = .ok (.getfield 21, 3) := by decide +kernel
theorem dX10_comeBack_19 : decode cX10_comeBack 19 = .ok (.getfield 49, 3) := by decide +kernel
theorem dX10_comeBack_22 : decode cX10_comeBack 22 = .ok (.aload_n 0, 1) := by decide +kernel
theorem dX10_comeBack_23 : decode cX10_comeBack 23 = .ok (.getfield 28, 3) := by decide +kernel
theorem dX10_comeBack_26 : decode cX10_comeBack 26 = .ok (.invokestatic 36, 3) := by decide +kernel
theorem dX10_comeBack_29 : decode cX10_comeBack 29 = .ok (.putfield 49, 3) := by decide +kernel
theorem dX10_comeBack_32 : decode cX10_comeBack 32 = .ok (.return_, 1) := by decide +kernel
theorem dX10_oldestLeft_0 : decode cX10_oldestLeft 0 = .ok (.bipush (-2), 2) := by decide +kernel
theorem dX10_oldestLeft_2 : decode cX10_oldestLeft 2 = .ok (.istore_n 1, 1) := by decide +kernel
theorem dX10_oldestLeft_3 : decode cX10_oldestLeft 3 = .ok (.aload_n 0, 1) := by decide +kernel
theorem dX10_oldestLeft_4 : decode cX10_oldestLeft 4 = .ok (.getfield 21, 3) := by decide +kernel
theorem dX10_oldestLeft_7 : decode cX10_oldestLeft 7 = .ok (.getfield 49, 3) := by decide +kernel
theorem dX10_oldestLeft_10 : decode cX10_oldestLeft 10 = .ok (.istore_n 2, 1) := by decide +kernel
theorem dX10_oldestLeft_11 : decode cX10_oldestLeft 11 = .ok (.iload_n 2, 1) := by decide +kernel
theorem dX10_oldestLeft_12 : decode cX10_oldestLeft 12 = .ok (.aload_n 0, 1) := by decide +kernel
theorem dX10_oldestLeft_13 : decode cX10_oldestLeft 13 = .ok (.getfield 28, 3) := by decide +kernel
theorem dX10_oldestLeft_16 : decode cX10_oldestLeft 16 = .ok (.if_icmp .ge 35, 3) := by decide +kernel
theorem dX10_oldestLeft_19 : decode cX10_oldestLeft 19 = .ok (.iload_n 1, 1) := by decide +kernel
theorem dX10_oldestLeft_20 : decode cX10_oldestLeft 20 = .ok (.bipush (-2), 2) := by decide +kernel
theorem dX10_oldestLeft_22 : decode cX10_oldestLeft 22 = .ok (.if_icmp .ne 12, 3) := by decide +kernel
theorem dX10_oldestLeft_25 : decode cX10_oldestLeft 25 = .ok (.aload_n 0, 1) := by decide +kernel
theorem dX10_oldestLeft_26 : decode cX10_oldestLeft 26 = .ok (.getfield 9, 3) := by decide +kernel
theorem dX10_oldestLeft_29 : decode cX10_oldestLeft 29 = .ok (.iload_n 2, 1) := by decide +kernel
theorem dX10_oldestLeft_30 : decode cX10_oldestLeft 30 = .ok (.iaload, 1) := by decide +kernel
theorem dX10_oldestLeft_31 : decode cX10_oldestLeft 31 = .ok (.goto 13, 3) := by decide +kernel
theorem dX10_oldestLeft_34 : decode cX10_oldestLeft 34 = .ok (.iload_n 1, 1) := by decide +kernel
theorem dX10_oldestLeft_35 : decode cX10_oldestLeft 35 = .ok (.aload_n 0, 1) := by decide +kernel
theorem dX10_oldestLeft_36 : decode cX10_oldestLeft 36 = .ok (.getfield 9, 3) := by decide +kernel
theorem dX10_oldestLeft_39 : decode cX10_oldestLeft 39 = .ok (.iload_n 2, 1) := by decide +kernel
theorem dX10_oldestLeft_40 : decode cX10_oldestLeft 40 = .ok (.iaload, 1) := by decide +kernel
theorem dX10_oldestLeft_41 : decode cX10_oldestLeft 41 = .ok (.invokestatic 36, 3) := by decide +kernel
theorem dX10_oldestLeft_44 : decode cX10_oldestLeft 44 = .ok (.istore_n 1, 1) := by decide +kernel
theorem dX10_oldestLeft_45 : decode cX10_oldestLeft 45 = .ok (.iinc 2 1, 3) := by decide +kernel
theorem dX10_oldestLeft_48 : decode cX10_oldestLeft 48 = .ok (.goto (-37), 3) := by decide +kernel
theorem dX10_oldestLeft_51 : decode cX10_oldestLeft 51 = .ok (.iload_n 1, 1) := by decide +kernel
theorem dX10_oldestLeft_52 : decode cX10_oldestLeft 52 = .ok (.ireturn, 1) := by decide +kernel
theorem dX10_youngestLeft_0 : decode cX10_youngestLeft 0 = .ok (.bipush (-2), 2) := by decide +kernel
theorem dX10_youngestLeft_2 : decode cX10_youngestLeft 2 = .ok (.istore_n 1, 1) := by decide +kernel
theorem dX10_youngestLeft_3 : decode cX10_youngestLeft 3 = .ok (.aload_n 0, 1) := by decide +kernel
theorem dX10_youngestLeft_4 : decode cX10_youngestLeft 4 = .ok (.getfield 21, 3) := by decide +kernel
theorem dX10_youngestLeft_7 : decode cX10_youngestLeft 7 = .ok (.getfield 49, 3) := by decide +kernel
theorem dX10_youngestLeft_10 : decode cX10_youngestLeft 10 = .ok (.istore_n 2, 1) := by decide +kernel
theorem dX10_youngestLeft_11 : decode cX10_youngestLeft 11 = .ok (.iload_n 2, 1) := by decide +kernel
theorem dX10_youngestLeft_12 : decode cX10_youngestLeft 12 = .ok (.aload_n 0, 1) := by decide +kernel
theorem dX10_youngestLeft_13 : decode cX10_youngestLeft 13 = .ok (.getfield 28, 3) := by decide +kernel
theorem dX10_youngestLeft_16 : decode cX10_youngestLeft 16 = .ok (.if_icmp .ge 20, 3) := by decide +kernel
theorem dX10_youngestLeft_19 : decode cX10_youngestLeft 19 = .ok (.iload_n 1, 1) := by decide +kernel
theorem dX10_youngestLeft_20 : decode cX10_youngestLeft 20 = .ok (.aload_n 0, 1) := by decide +kernel
theorem dX10_youngestLeft_21 : decode cX10_youngestLeft 21 = .ok (.getfield 9, 3) := by decide +kernel
theorem dX10_youngestLeft_24 : decode cX10_youngestLeft 24 = .ok (.iload_n 2, 1) := by decide +kernel
theorem dX10_youngestLeft_25 : decode cX10_youngestLeft 25 = .ok (.iaload, 1) := by decide +kernel
theorem dX10_youngestLeft_26 : decode cX10_youngestLeft 26 = .ok (.invokestatic 52, 3) := by decide +kernel
theorem dX10_youngestLeft_29 : decode cX10_youngestLeft 29 = .ok (.istore_n 1, 1) := by decide +kernel
theorem dX10_youngestLeft_30 : decode cX10_youngestLeft 30 = .ok (.iinc 2 1, 3) := by decide +kernel
theorem dX10_youngestLeft_33 : decode cX10_youngestLeft 33 = .ok (.goto (-22), 3) := by decide +kernel
theorem dX10_youngestLeft_36 : decode cX10_youngestLeft 36 = .ok (.iload_n 1, 1) := by decide +kernel
theorem dX10_youngestLeft_37 : decode cX10_youngestLeft 37 = .ok (.ireturn, 1) := by decide +kernel
theorem dX10_sinsLeft_0 : decode cX10_sinsLeft 0 = .ok (.iconst 0, 1) := by decide +kernel
theorem dX10_sinsLeft_1 : decode cX10_sinsLeft 1 = .ok (.istore_n 1, 1) := by decide +kernel
theorem dX10_sinsLeft_2 : decode cX10_sinsLeft 2 = .ok (.aload_n 0, 1) := by decide +kernel
theorem dX10_sinsLeft_3 : decode cX10_sinsLeft 3 = .ok (.getfield 21, 3) := by decide +kernel
theorem dX10_sinsLeft_6 : decode cX10_sinsLeft 6 = .ok (.getfield 49, 3) := by decide +kernel
theorem dX10_sinsLeft_9 : decode cX10_sinsLeft 9 = .ok (.istore_n 2, 1) := by decide +kernel
theorem dX10_sinsLeft_10 : decode cX10_sinsLeft 10 = .ok (.iload_n 2, 1) := by decide +kernel
theorem dX10_sinsLeft_11 : decode cX10_sinsLeft 11 = .ok (.aload_n 0, 1) := by decide +kernel
theorem dX10_sinsLeft_12 : decode cX10_sinsLeft 12 = .ok (.getfield 28, 3) := by decide +kernel
theorem dX10_sinsLeft_15 : decode cX10_sinsLeft 15 = .ok (.if_icmp .ge 20, 3) := by decide +kernel
theorem dX10_sinsLeft_18 : decode cX10_sinsLeft 18 = .ok (.iload_n 1, 1) := by decide +kernel
theorem dX10_sinsLeft_19 : decode cX10_sinsLeft 19 = .ok (.iconst 1, 1) := by decide +kernel
theorem dX10_sinsLeft_20 : decode cX10_sinsLeft 20 = .ok (.aload_n 0, 1) := by decide +kernel
theorem dX10_sinsLeft_21 : decode cX10_sinsLeft 21 = .ok (.getfield 15, 3) := by decide +kernel
theorem dX10_sinsLeft_24 : decode cX10_sinsLeft 24 = .ok (.iload_n 2, 1) := by decide +kernel
theorem dX10_sinsLeft_25 : decode cX10_sinsLeft 25 = .ok (.iaload, 1) := by decide +kernel
theorem dX10_sinsLeft_26 : decode cX10_sinsLeft 26 = .ok (.ishl, 1) := by decide +kernel
theorem dX10_sinsLeft_27 : decode cX10_sinsLeft 27 = .ok (.ior, 1) := by decide +kernel
theorem dX10_sinsLeft_28 : decode cX10_sinsLeft 28 = .ok (.istore_n 1, 1) := by decide +kernel
theorem dX10_sinsLeft_29 : decode cX10_sinsLeft 29 = .ok (.iinc 2 1, 3) := by decide +kernel
theorem dX10_sinsLeft_32 : decode cX10_sinsLeft 32 = .ok (.goto (-22), 3) := by decide +kernel
theorem dX10_sinsLeft_35 : decode cX10_sinsLeft 35 = .ok (.iload_n 1, 1) := by decide +kernel
theorem dX10_sinsLeft_36 : decode cX10_sinsLeft 36 = .ok (.ireturn, 1) := by decide +kernel
theorem dX10_nextOf_0 : decode cX10_nextOf 0 = .ok (.aload_n 0, 1) := by decide +kernel
theorem dX10_nextOf_1 : decode cX10_nextOf 1 = .ok (.getfield 21, 3) := by decide +kernel
theorem dX10_nextOf_4 : decode cX10_nextOf 4 = .ok (.getfield 49, 3) := by decide +kernel
theorem dX10_nextOf_7 : decode cX10_nextOf 7 = .ok (.istore_n 2, 1) := by decide +kernel
theorem dX10_nextOf_8 : decode cX10_nextOf 8 = .ok (.iload_n 2, 1) := by decide +kernel
theorem dX10_nextOf_9 : decode cX10_nextOf 9 = .ok (.aload_n 0, 1) := by decide +kernel
theorem dX10_nextOf_10 : decode cX10_nextOf 10 = .ok (.getfield 28, 3) := by decide +kernel
theorem dX10_nextOf_13 : decode cX10_nextOf 13 = .ok (.if_icmp .ge 21, 3) := by decide +kernel
theorem dX10_nextOf_16 : decode cX10_nextOf 16 = .ok (.aload_n 0, 1) := by decide +kernel
theorem dX10_nextOf_17 : decode cX10_nextOf 17 = .ok (.getfield 9, 3) := by decide +kernel
theorem dX10_nextOf_20 : decode cX10_nextOf 20 = .ok (.iload_n 2, 1) := by decide +kernel
theorem dX10_nextOf_21 : decode cX10_nextOf 21 = .ok (.iaload, 1) := by decide +kernel
theorem dX10_nextOf_22 : decode cX10_nextOf 22 = .ok (.iload_n 1, 1) := by decide +kernel
theorem dX10_nextOf_23 : decode cX10_nextOf 23 = .ok (.if_icmp .ne 5, 3) := by decide +kernel
theorem dX10_nextOf_26 : decode cX10_nextOf 26 = .ok (.iload_n 2, 1) := by decide +kernel
theorem dX10_nextOf_27 : decode cX10_nextOf 27 = .ok (.ireturn, 1) := by decide +kernel
theorem dX10_nextOf_28 : decode cX10_nextOf 28 = .ok (.iinc 2 1, 3) := by decide +kernel
theorem dX10_nextOf_31 : decode cX10_nextOf 31 = .ok (.goto (-23), 3) := by decide +kernel
theorem dX10_nextOf_34 : decode cX10_nextOf 34 = .ok (.iconst (-1), 1) := by decide +kernel
theorem dX10_nextOf_35 : decode cX10_nextOf 35 = .ok (.ireturn, 1) := by decide +kernel
theorem dX11_init_0 : decode cX11_init 0 = .ok (.aload_n 0, 1) := by decide +kernel
theorem dX11_init_1 : decode cX11_init 1 = .ok (.invokespecial 1, 3) := by decide +kernel
theorem dX11_init_4 : decode cX11_init 4 = .ok (.aload_n 0, 1) := by decide +kernel
theorem dX11_init_5 : decode cX11_init 5 = .ok (.bipush 12, 2) := by decide +kernel
theorem dX11_init_7 : decode cX11_init 7 = .ok (.anewarray 9, 3) := by decide +kernel
theorem dX11_init_10 : decode cX11_init 10 = .ok (.putfield 11, 3) := by decide +kernel
theorem dX11_init_13 : decode cX11_init 13 = .ok (.aload_n 0, 1) := by decide +kernel
theorem dX11_init_14 : decode cX11_init 14 = .ok (.sipush 260, 3) := by decide +kernel
theorem dX11_init_17 : decode cX11_init 17 = .ok (.newarray .int, 2) := by decide +kernel
theorem dX11_init_19 : decode cX11_init 19 = .ok (.putfield 15, 3) := by decide +kernel
theorem dX11_init_22 : decode cX11_init 22 = .ok (.aload_n 0, 1) := by decide +kernel
theorem dX11_init_23 : decode cX11_init 23 = .ok (.iconst 0, 1) := by decide +kernel
theorem dX11_init_24 : decode cX11_init 24 = .ok (.putfield 19, 3) := by decide +kernel
theorem dX11_init_27 : decode cX11_init 27 = .ok (.aload_n 0, 1) := by decide +kernel
theorem dX11_init_28 : decode cX11_init 28 = .ok (.new 23, 3) := by decide +kernel
theorem dX11_init_31 : decode cX11_init 31 = .ok (.dup, 1) := by decide +kernel
theorem dX11_init_32 : decode cX11_init 32 = .ok (.invokespecial 25, 3) := by decide +kernel
theorem dX11_init_35 : decode cX11_init 35 = .ok (.putfield 26, 3) := by decide +kernel
theorem dX11_init_38 : decode cX11_init 38 = .ok (.aload_n 0, 1) := by decide +kernel
theorem dX11_init_39 : decode cX11_init 39 = .ok (.new 30, 3) := by decide +kernel
theorem dX11_init_42 : decode cX11_init 42 = .ok (.dup, 1) := by decide +kernel
theorem dX11_init_43 : decode cX11_init 43 = .ok (.invokespecial 32, 3) := by decide +kernel
theorem dX11_init_46 : decode cX11_init 46 = .ok (.putfield 33, 3) := by decide +kernel
theorem dX11_init_49 : decode cX11_init 49 = .ok (.aload_n 0, 1) := by decide +kernel
theorem dX11_init_50 : decode cX11_init 50 = .ok (.new 37, 3) := by decide +kernel
theorem dX11_init_53 : decode cX11_init 53 = .ok (.dup, 1) := by decide +kernel
theorem dX11_init_54 : decode cX11_init 54 = .ok (.invokespecial 39, 3) := by decide +kernel
theorem dX11_init_57 : decode cX11_init 57 = .ok (.putfield 40, 3) := by decide +kernel
theorem dX11_init_60 : decode cX11_init 60 = .ok (.aload_n 0, 1) := by decide +kernel
theorem dX11_init_61 : decode cX11_init 61 = .ok (.new 44, 3) := by decide +kernel
theorem dX11_init_64 : decode cX11_init 64 = .ok (.dup, 1) := by decide +kernel
theorem dX11_init_65 : decode cX11_init 65 = .ok (.invokespecial 46, 3) := by decide +kernel
theorem dX11_init_68 : decode cX11_init 68 = .ok (.putfield 47, 3) := by decide +kernel
theorem dX11_init_71 : decode cX11_init 71 = .ok (.aload_n 0, 1) := by decide +kernel
theorem dX11_init_72 : decode cX11_init 72 = .ok (.new 51, 3) := by decide +kernel
theorem dX11_init_75 : decode cX11_init 75 = .ok (.dup, 1) := by decide +kernel
theorem dX11_init_76 : decode cX11_init 76 = .ok (.invokespecial 53, 3) := by decide +kernel
theorem dX11_init_79 : decode cX11_init 79 = .ok (.putfield 54, 3) := by decide +kernel
theorem dX11_init_82 : decode cX11_init 82 = .ok (.aload_n 0, 1) := by decide +kernel
theorem dX11_init_83 : decode cX11_init 83 = .ok (.new 58, 3) := by decide +kernel
theorem dX11_init_86 : decode cX11_init 86 = .ok (.dup, 1) := by decide +kernel
theorem dX11_init_87 : decode cX11_init 87 = .ok (.invokespecial 60, 3) := by decide +kernel
theorem dX11_init_90 : decode cX11_init 90 = .ok (.putfield 61, 3) := by decide +kernel
theorem dX11_init_93 : decode cX11_init 93 = .ok (.aload_n 0, 1) := by decide +kernel
theorem dX11_init_94 : decode cX11_init 94 = .ok (.new 65, 3) := by decide +kernel
theorem dX11_init_97 : decode cX11_init 97 = .ok (.dup, 1) := by decide +kernel
theorem dX11_init_98 : decode cX11_init 98 = .ok (.invokespecial 67, 3) := by decide +kernel
theorem dX11_init_101 : decode cX11_init 101 = .ok (.putfield 68, 3) := by decide +kernel
theorem dX11_init_104 : decode cX11_init 104 = .ok (.aload_n 0, 1) := by decide +kernel
theorem dX11_init_105 : decode cX11_init 105 = .ok (.new 72, 3) := by decide +kernel
theorem dX11_init_108 : decode cX11_init 108 = .ok (.dup, 1) := by decide +kernel
theorem dX11_init_109 : decode cX11_init 109 = .ok (.invokespecial 74, 3) := by decide +kernel
theorem dX11_init_112 : decode cX11_init 112 = .ok (.putfield 75, 3) := by decide +kernel
theorem dX11_init_115 : decode cX11_init 115 = .ok (.aload_n 0, 1) := by decide +kernel
theorem dX11_init_116 : decode cX11_init 116 = .ok (.bipush 100, 2) := by decide +kernel
theorem dX11_init_118 : decode cX11_init 118 = .ok (.newarray .int, 2) := by decide +kernel
theorem dX11_init_120 : decode cX11_init 120 = .ok (.putfield 79, 3) := by decide +kernel
theorem dX11_init_123 : decode cX11_init 123 = .ok (.aload_n 0, 1) := by decide +kernel
theorem dX11_init_124 : decode cX11_init 124 = .ok (.bipush 13, 2) := by decide +kernel
theorem dX11_init_126 : decode cX11_init 126 = .ok (.newarray .long, 2) := by decide +kernel
theorem dX11_init_128 : decode cX11_init 128 = .ok (.putfield 82, 3) := by decide +kernel
theorem dX11_init_131 : decode cX11_init 131 = .ok (.aload_n 0, 1) := by decide +kernel
theorem dX11_init_132 : decode cX11_init 132 = .ok (.bipush 99, 2) := by decide +kernel
theorem dX11_init_134 : decode cX11_init 134 = .ok (.putfield 86, 3) := by decide +kernel
theorem dX11_init_137 : decode cX11_init 137 = .ok (.aload_n 0, 1) := by decide +kernel
theorem dX11_init_138 : decode cX11_init 138 = .ok (.iconst 0, 1) := by decide +kernel
theorem dX11_init_139 : decode cX11_init 139 = .ok (.putfield 89, 3) := by decide +kernel
theorem dX11_init_142 : decode cX11_init 142 = .ok (.aload_n 0, 1) := by decide +kernel
theorem dX11_init_143 : decode cX11_init 143 = .ok (.iconst 1, 1) := by decide +kernel
theorem dX11_init_144 : decode cX11_init 144 = .ok (.putfield 92, 3) := by decide +kernel
theorem dX11_init_147 : decode cX11_init 147 = .ok (.aload_n 0, 1) := by decide +kernel
theorem dX11_init_148 : decode cX11_init 148 = .ok (.iconst 0, 1) := by decide +kernel
theorem dX11_init_149 : decode cX11_init 149 = .ok (.putfield 95, 3) := by decide +kernel
theorem dX11_init_152 : decode cX11_init 152 = .ok (.aload_n 0, 1) := by decide +kernel
theorem dX11_init_153 : decode cX11_init 153 = .ok (.iconst 0, 1) := by decide +kernel
theorem dX11_init_154 : decode cX11_init 154 = .ok (.putfield 99, 3) := by decide +kernel
theorem dX11_init_157 : decode cX11_init 157 = .ok (.aload_n 0, 1) := by decide +kernel
theorem dX11_init_158 : decode cX11_init 158 = .ok (.iconst 0, 1) := by decide +kernel
theorem dX11_init_159 : decode cX11_init 159 = .ok (.putfield 102, 3) := by decide +kernel
theorem dX11_init_162 : decode cX11_init 162 = .ok (.aload_n 0, 1) := by decide +kernel
theorem dX11_init_163 : decode cX11_init 163 = .ok (.iconst 0, 1) := by decide +kernel
theorem dX11_init_164 : decode cX11_init 164 = .ok (.putfield 105, 3) := by decide +kernel
theorem dX11_init_167 : decode cX11_init 167 = .ok (.iconst 0, 1) := by decide +kernel
theorem dX11_init_168 : decode cX11_init 168 = .ok (.istore_n 1, 1) := by decide +kernel
theorem dX11_init_169 : decode cX11_init 169 = .ok (.iload_n 1, 1) := by decide +kernel
theorem dX11_init_170 : decode cX11_init 170 = .ok (.bipush 12, 2) := by decide +kernel
theorem dX11_init_172 : decode cX11_init 172 = .ok (.if_icmp .ge 22, 3) := by decide +kernel
theorem dX11_init_175 : decode cX11_init 175 = .ok (.aload_n 0, 1) := by decide +kernel
theorem dX11_init_176 : decode cX11_init 176 = .ok (.getfield 11, 3) := by decide +kernel
theorem dX11_init_179 : decode cX11_init 179 = .ok (.iload_n 1, 1) := by decide +kernel
theorem dX11_init_180 : decode cX11_init 180 = .ok (.new 9, 3) := by decide +kernel
theorem dX11_init_183 : decode cX11_init 183 = .ok (.dup, 1) := by decide +kernel
theorem dX11_init_184 : decode cX11_init 184 = .ok (.invokespecial 108, 3) := by decide +kernel
theorem dX11_init_187 : decode cX11_init 187 = .ok (.aastore, 1) := by decide +kernel
theorem dX11_init_188 : decode cX11_init 188 = .ok (.iinc 1 1, 3) := by decide +kernel
theorem dX11_init_191 : decode cX11_init 191 = .ok (.goto (-22), 3) := by decide +kernel
theorem dX11_init_194 : decode cX11_init 194 = .ok (.return_, 1) := by decide +kernel
theorem dX11_screw_0 : decode cX11_screw 0 = .ok (.iload_n 1, 1) := by decide +kernel
theorem dX11_screw_1 : decode cX11_screw 1 = .ok (.ifCond .lt 9, 3) := by decide +kernel
theorem dX11_screw_4 : decode cX11_screw 4 = .ok (.iload_n 1, 1) := by decide +kernel
theorem dX11_screw_5 : decode cX11_screw 5 = .ok (.bipush 99, 2) := by decide +kernel
theorem dX11_screw_7 : decode cX11_screw 7 = .ok (.if_icmp .le 5, 3) := by decide +kernel
theorem dX11_screw_10 : decode cX11_screw 10 = .ok (.iconst 0, 1) := by decide +kernel
theorem dX11_screw_11 : decode cX11_screw 11 = .ok (.ireturn, 1) := by decide +kernel
theorem dX11_screw_12 : decode cX11_screw 12 = .ok (.aload_n 0, 1) := by decide +kernel
theorem dX11_screw_13 : decode cX11_screw 13 = .ok (.iload_n 1, 1) := by decide +kernel
theorem dX11_screw_14 : decode cX11_screw 14 = .ok (.putfield 86, 3) := by decide +kernel
theorem dX11_screw_17 : decode cX11_screw 17 = .ok (.iconst 1, 1) := by decide +kernel
theorem dX11_screw_18 : decode cX11_screw 18 = .ok (.ireturn, 1) := by decide +kernel
theorem dX11_feed_0 : decode cX11_feed 0 = .ok (.aload_n 0, 1) := by decide +kernel
theorem dX11_feed_1 : decode cX11_feed 1 = .ok (.getfield 19, 3) := by decide +kernel
theorem dX11_feed_4 : decode cX11_feed 4 = .ok (.bipush 20, 2) := by decide +kernel
theorem dX11_feed_6 : decode cX11_feed 6 = .ok (.iadd, 1) := by decide +kernel
theorem dX11_feed_7 : decode cX11_feed 7 = .ok (.sipush 260, 3) := by decide +kernel
theorem dX11_feed_10 : decode cX11_feed 10 = .ok (.if_icmp .le 5, 3) := by decide +kernel
theorem dX11_feed_13 : decode cX11_feed 13 = .ok (.iconst (-1), 1) := by decide +kernel
theorem dX11_feed_14 : decode cX11_feed 14 = .ok (.ireturn, 1) := by decide +kernel
theorem dX11_feed_15 : decode cX11_feed 15 = .ok (.aload_n 0, 1) := by decide +kernel
theorem dX11_feed_16 : decode cX11_feed 16 = .ok (.iload_n 1, 1) := by decide +kernel
theorem dX11_feed_17 : decode cX11_feed 17 = .ok (.invokevirtual 109, 3) := by decide +kernel
theorem dX11_feed_20 : decode cX11_feed 20 = .ok (.aload_n 0, 1) := by decide +kernel
theorem dX11_feed_21 : decode cX11_feed 21 = .ok (.iload_n 2, 1) := by decide +kernel
theorem dX11_feed_22 : decode cX11_feed 22 = .ok (.invokevirtual 109, 3) := by decide +kernel
theorem dX11_feed_25 : decode cX11_feed 25 = .ok (.aload_n 0, 1) := by decide +kernel
theorem dX11_feed_26 : decode cX11_feed 26 = .ok (.iload_n 3, 1) := by decide +kernel
theorem dX11_feed_27 : decode cX11_feed 27 = .ok (.invokevirtual 109, 3) := by decide +kernel
theorem dX11_feed_30 : decode cX11_feed 30 = .ok (.aload_n 0, 1) := by decide +kernel
theorem dX11_feed_31 : decode cX11_feed 31 = .ok (.iload 4, 2) := by decide +kernel
theorem dX11_feed_33 : decode cX11_feed 33 = .ok (.invokevirtual 109, 3) := by decide +kernel
theorem dX11_feed_36 : decode cX11_feed 36 = .ok (.aload_n 0, 1) := by decide +kernel
theorem dX11_feed_37 : decode cX11_feed 37 = .ok (.iload 5, 2) := by decide +kernel
theorem dX11_feed_39 : decode cX11_feed 39 = .ok (.invokevirtual 109, 3) := by decide +kernel
theorem dX11_feed_42 : decode cX11_feed 42 = .ok (.aload_n 0, 1) := by decide +kernel
theorem dX11_feed_43 : decode cX11_feed 43 = .ok (.getfield 19, 3) := by decide +kernel
theorem dX11_feed_46 : decode cX11_feed 46 = .ok (.ireturn, 1) := by decide +kernel
theorem dX11_law_0 : decode cX11_law 0 = .ok (.aload_n 0, 1) := by decide +kernel
theorem dX11_law_1 : decode cX11_law 1 = .ok (.iload_n 1, 1) := by decide +kernel
theorem dX11_law_2 : decode cX11_law 2 = .ok (.iconst 1, 1) := by decide +kernel
theorem dX11_law_3 : decode cX11_law 3 = .ok (.sipush 240, 3) := by decide +kernel
theorem dX11_law_6 : decode cX11_law 6 = .ok (.invokevirtual 113, 3) := by decide +kernel
theorem dX11_law_9 : decode cX11_law 9 = .ok (.ifCond .ne 5, 3) := by decide +kernel
theorem dX11_law_12 : decode cX11_law 12 = .ok (.iconst (-1), 1) := by decide +kernel
theorem dX11_law_13 : decode cX11_law 13 = .ok (.ireturn, 1) := by decide +kernel
theorem dX11_law_14 : decode cX11_law 14 = .ok (.aload_n 0, 1) := by decide +kernel
theorem dX11_law_15 : decode cX11_law 15 = .ok (.iconst 0, 1) := by decide +kernel
theorem dX11_law_16 : decode cX11_law 16 = .ok (.putfield 19, 3) := by decide +kernel
theorem dX11_law_19 : decode cX11_law 19 = .ok (.aload_n 0, 1) := by decide +kernel
theorem dX11_law_20 : decode cX11_law 20 = .ok (.getfield 33, 3) := by decide +kernel
theorem dX11_law_23 : decode cX11_law 23 = .ok (.aload_n 0, 1) := by decide +kernel
theorem dX11_law_24 : decode cX11_law 24 = .ok (.getfield 15, 3) := by decide +kernel
theorem dX11_law_27 : decode cX11_law 27 = .ok (.iload_n 1, 1) := by decide +kernel
theorem dX11_law_28 : decode cX11_law 28 = .ok (.invokevirtual 117, 3) := by decide +kernel
theorem dX11_law_31 : decode cX11_law 31 = .ok (.istore_n 2, 1) := by decide +kernel
theorem dX11_law_32 : decode cX11_law 32 = .ok (.iload_n 2, 1) := by decide +kernel
theorem dX11_law_33 : decode cX11_law 33 = .ok (.ifCond .lt 17, 3) := by decide +kernel
theorem dX11_law_36 : decode cX11_law 36 = .ok (.aload_n 0, 1) := by decide +kernel
theorem dX11_law_37 : decode cX11_law 37 = .ok (.getfield 26, 3) := by decide +kernel
theorem dX11_law_40 : decode cX11_law 40 = .ok (.aload_n 0, 1) := by decide +kernel
theorem dX11_law_41 : decode cX11_law 41 = .ok (.getfield 33, 3) := by decide +kernel
theorem dX11_law_44 : decode cX11_law 44 = .ok (.getfield 121, 3) := by decide +kernel
theorem dX11_law_47 : decode cX11_law 47 = .ok (.invokevirtual 124, 3) := by decide +kernel
theorem dX11_law_50 : decode cX11_law 50 = .ok (.iload_n 2, 1) := by decide +kernel
theorem dX11_law_51 : decode cX11_law 51 = .ok (.ireturn, 1) := by decide +kernel
theorem dX11_witness_0 : decode cX11_witness 0 = .ok (.iload_n 1, 1) := by decide +kernel
theorem dX11_witness_1 : decode cX11_witness 1 = .ok (.ifCond .lt 20, 3) := by decide +kernel
theorem dX11_witness_4 : decode cX11_witness 4 = .ok (.iload_n 1, 1) := by decide +kernel
theorem dX11_witness_5 : decode cX11_witness 5 = .ok (.bipush 12, 2) := by decide +kernel
theorem dX11_witness_7 : decode cX11_witness 7 = .ok (.if_icmp .ge 14, 3) := by decide +kernel
theorem dX11_witness_10 : decode cX11_witness 10 = .ok (.aload_n 0, 1) := by decide +kernel
theorem dX11_witness_11 : decode cX11_witness 11 = .ok (.iload_n 2, 1) := by decide +kernel
theorem dX11_witness_12 : decode cX11_witness 12 = .ok (.iconst 1, 1) := by decide +kernel
theorem dX11_witness_13 : decode cX11_witness 13 = .ok (.bipush 80, 2) := by decide +kernel
theorem dX11_witness_15 : decode cX11_witness 15 = .ok (.invokevirtual 113, 3) := by decide +kernel
theorem dX11_witness_18 : decode cX11_witness 18 = .ok (.ifCond .ne 5, 3) := by decide +kernel
theorem dX11_witness_21 : decode cX11_witness 21 = .ok (.iconst (-1), 1) := by decide +kernel
theorem dX11_witness_22 : decode cX11_witness 22 = .ok (.ireturn, 1) := by decide +kernel
theorem dX11_witness_23 : decode cX11_witness 23 = .ok (.aload_n 0, 1) := by decide +kernel
theorem dX11_witness_24 : decode cX11_witness 24 = .ok (.iconst 0, 1) := by decide +kernel
theorem dX11_witness_25 : decode cX11_witness 25 = .ok (.putfield 19, 3) := by decide +kernel
theorem dX11_witness_28 : decode cX11_witness 28 = .ok (.aload_n 0, 1) := by decide +kernel
theorem dX11_witness_29 : decode cX11_witness 29 = .ok (.getfield 40, 3) := by decide +kernel
theorem dX11_witness_32 : decode cX11_witness 32 = .ok (.aload_n 0, 1) := by decide +kernel
theorem dX11_witness_33 : decode cX11_witness 33 = .ok (.getfield 15, 3) := by decide +kernel
theorem dX11_witness_36 : decode cX11_witness 36 = .ok (.iload_n 2, 1) := by decide +kernel
theorem dX11_witness_37 : decode cX11_witness 37 = .ok (.iconst 1, 1) := by decide +kernel
theorem dX11_witness_38 : decode cX11_witness 38 = .ok (.invokevirtual 128, 3) := by decide +kernel
theorem dX11_witness_41 : decode cX11_witness 41 = .ok (.istore_n 3, 1) := by decide +kernel
theorem dX11_witness_42 : decode cX11_witness 42 = .ok (.iload_n 3, 1) := by decide +kernel
theorem dX11_witness_43 : decode cX11_witness 43 = .ok (.ifCond .lt 20, 3) := by decide +kernel
theorem dX11_witness_46 : decode cX11_witness 46 = .ok (.aload_n 0, 1) := by decide +kernel
theorem dX11_witness_47 : decode cX11_witness 47 = .ok (.getfield 11, 3) := by decide +kernel
theorem dX11_witness_50 : decode cX11_witness 50 = .ok (.iload_n 1, 1) := by decide +kernel
theorem dX11_witness_51 : decode cX11_witness 51 = .ok (.aaload, 1) := by decide +kernel
theorem dX11_witness_52 : decode cX11_witness 52 = .ok (.aload_n 0, 1) := by decide +kernel
theorem dX11_witness_53 : decode cX11_witness 53 = .ok (.getfield 40, 3) := by decide +kernel
theorem dX11_witness_56 : decode cX11_witness 56 = .ok (.getfield 131, 3) := by decide +kernel
theorem dX11_witness_59 : decode cX11_witness 59 = .ok (.iload_n 3, 1) := by decide +kernel
theorem dX11_witness_60 : decode cX11_witness 60 = .ok (.invokevirtual 134, 3) := by decide +kernel
theorem dX11_witness_63 : decode cX11_witness 63 = .ok (.iload_n 3, 1) := by decide +kernel
theorem dX11_witness_64 : decode cX11_witness 64 = .ok (.ireturn, 1) := by decide +kernel
theorem dX11_draw_0 : decode cX11_draw 0 = .ok (.aload_n 0, 1) := by decide +kernel
theorem dX11_draw_1 : decode cX11_draw 1 = .ok (.iload_n 1, 1) := by decide +kernel
theorem dX11_draw_2 : decode cX11_draw 2 = .ok (.invokevirtual 138, 3) := by decide +kernel
theorem dX11_draw_5 : decode cX11_draw 5 = .ok (.ifCond .eq 14, 3) := by decide +kernel
theorem dX11_draw_8 : decode cX11_draw 8 = .ok (.aload_n 0, 1) := by decide +kernel
theorem dX11_draw_9 : decode cX11_draw 9 = .ok (.iload_n 2, 1) := by decide +kernel
theorem dX11_draw_10 : decode cX11_draw 10 = .ok (.iconst 1, 1) := by decide +kernel
theorem dX11_draw_11 : decode cX11_draw 11 = .ok (.bipush 60, 2) := by decide +kernel
theorem dX11_draw_13 : decode cX11_draw 13 = .ok (.invokevirtual 113, 3) := by decide +kernel
theorem dX11_draw_16 : decode cX11_draw 16 = .ok (.ifCond .ne 5, 3) := by decide +kernel
theorem dX11_draw_19 : decode cX11_draw 19 = .ok (.iconst (-1), 1) := by decide +kernel
theorem dX11_draw_20 : decode cX11_draw 20 = .ok (.ireturn, 1) := by decide +kernel
theorem dX11_draw_21 : decode cX11_draw 21 = .ok (.aload_n 0, 1) := by decide +kernel
theorem dX11_draw_22 : decode cX11_draw 22 = .ok (.iload_n 1, 1) := by decide +kernel
theorem dX11_draw_23 : decode cX11_draw 23 = .ok (.iload_n 2, 1) := by decide +kernel
theorem dX11_draw_24 : decode cX11_draw 24 = .ok (.invokevirtual 142, 3) := by decide +kernel
theorem dX11_draw_27 : decode cX11_draw 27 = .ok (.istore_n 3, 1) := by decide +kernel
theorem dX11_draw_28 : decode cX11_draw 28 = .ok (.iload_n 3, 1) := by decide +kernel
theorem dX11_draw_29 : decode cX11_draw 29 = .ok (.ifCond .ge 5, 3) := by decide +kernel
theorem dX11_draw_32 : decode cX11_draw 32 = .ok (.iload_n 3, 1) := by decide +kernel
theorem dX11_draw_33 : decode cX11_draw 33 = .ok (.ireturn, 1) := by decide +kernel
theorem dX11_draw_34 : decode cX11_draw 34 = .ok (.aload_n 0, 1) := by decide +kernel
theorem dX11_draw_35 : decode cX11_draw 35 = .ok (.getfield 11, 3) := by decide +kernel
theorem dX11_draw_38 : decode cX11_draw 38 = .ok (.iload_n 1, 1) := by decide +kernel
theorem dX11_draw_39 : decode cX11_draw 39 = .ok (.aaload, 1) := by decide +kernel
theorem dX11_draw_40 : decode cX11_draw 40 = .ok (.getfield 146, 3) := by decide +kernel
theorem dX11_draw_43 : decode cX11_draw 43 = .ok (.aload_n 0, 1) := by decide +kernel
theorem dX11_draw_44 : decode cX11_draw 44 = .ok (.getfield 47, 3) := by decide +kernel
theorem dX11_draw_47 : decode cX11_draw 47 = .ok (.getfield 150, 3) := by decide +kernel
theorem dX11_draw_50 : decode cX11_draw 50 = .ok (.invokevirtual 153, 3) := by decide +kernel
theorem dX11_draw_53 : decode cX11_draw 53 = .ok (.aload_n 0, 1) := by decide +kernel
theorem dX11_draw_54 : decode cX11_draw 54 = .ok (.aload_n 0, 1) := by decide +kernel
theorem dX11_draw_55 : decode cX11_draw 55 = .ok (.getfield 47, 3) := by decide +kernel
theorem dX11_draw_58 : decode cX11_draw 58 = .ok (.getfield 158, 3) := by decide +kernel
theorem dX11_draw_61 : decode cX11_draw 61 = .ok (.putfield 86, 3) := by decide +kernel
theorem dX11_draw_64 : decode cX11_draw 64 = .ok (.aload_n 0, 1) := by decide +kernel
theorem dX11_draw_65 : decode cX11_draw 65 = .ok (.aload_n 0, 1) := by decide +kernel
theorem dX11_draw_66 : decode cX11_draw 66 = .ok (.getfield 47, 3) := by decide +kernel
theorem dX11_draw_69 : decode cX11_draw 69 = .ok (.getfield 159, 3) := by decide +kernel
theorem dX11_draw_72 : decode cX11_draw 72 = .ok (.putfield 92, 3) := by decide +kernel
theorem dX11_draw_75 : decode cX11_draw 75 = .ok (.aload_n 0, 1) := by decide +kernel
theorem dX11_draw_76 : decode cX11_draw 76 = .ok (.sipush 9999, 3) := by decide +kernel
theorem dX11_draw_79 : decode cX11_draw 79 = .ok (.aload_n 0, 1) := by decide +kernel
theorem dX11_draw_80 : decode cX11_draw 80 = .ok (.getfield 89, 3) := by decide +kernel
theorem dX11_draw_83 : decode cX11_draw 83 = .ok (.aload_n 0, 1) := by decide +kernel
theorem dX11_draw_84 : decode cX11_draw 84 = .ok (.getfield 47, 3) := by decide +kernel
theorem dX11_draw_87 : decode cX11_draw 87 = .ok (.getfield 160, 3) := by decide +kernel
theorem dX11_draw_90 : decode cX11_draw 90 = .ok (.iadd, 1) := by decide +kernel
theorem dX11_draw_91 : decode cX11_draw 91 = .ok (.invokestatic 163, 3) := by decide +kernel
theorem dX11_draw_94 : decode cX11_draw 94 = .ok (.putfield 89, 3) := by decide +kernel
theorem dX11_draw_97 : decode cX11_draw 97 = .ok (.aload_n 0, 1) := by decide +kernel
theorem dX11_draw_98 : decode cX11_draw 98 = .ok (.getfield 47, 3) := by decide +kernel
theorem dX11_draw_101 : decode cX11_draw 101 = .ok (.getfield 160, 3) := by decide +kernel
theorem dX11_draw_104 : decode cX11_draw 104 = .ok (.ireturn, 1) := by decide +kernel
theorem dX11_tried_0 : decode cX11_tried 0 = .ok (.iload_n 3, 1) := by decide +kernel
theorem dX11_tried_1 : decode cX11_tried 1 = .ok (.ifCond .lt 28, 3) := by decide +kernel
theorem dX11_tried_4 : decode cX11_tried 4 = .ok (.iload_n 3, 1) := by decide +kernel
theorem dX11_tried_5 : decode cX11_tried 5 = .ok (.bipush 7, 2) := by decide +kernel
theorem dX11_tried_7 : decode cX11_tried 7 = .ok (.if_icmp .gt 22, 3) := by decide +kernel
theorem dX11_tried_10 : decode cX11_tried 10 = .ok (.aload_n 0, 1) := by decide +kernel
theorem dX11_tried_11 : decode cX11_tried 11 = .ok (.iload_n 1, 1) := by decide +kernel
theorem dX11_tried_12 : decode cX11_tried 12 = .ok (.invokevirtual 138, 3) := by decide +kernel
theorem dX11_tried_15 : decode cX11_tried 15 = .ok (.ifCond .eq 14, 3) := by decide +kernel
theorem dX11_tried_18 : decode cX11_tried 18 = .ok (.aload_n 0, 1) := by decide +kernel
theorem dX11_tried_19 : decode cX11_tried 19 = .ok (.iload_n 2, 1) := by decide +kernel
theorem dX11_tried_20 : decode cX11_tried 20 = .ok (.iconst 1, 1) := by decide +kernel
theorem dX11_tried_21 : decode cX11_tried 21 = .ok (.bipush 60, 2) := by decide +kernel
theorem dX11_tried_23 : decode cX11_tried 23 = .ok (.invokevirtual 113, 3) := by decide +kernel
theorem dX11_tried_26 : decode cX11_tried 26 = .ok (.ifCond .ne 5, 3) := by decide +kernel
theorem dX11_tried_29 : decode cX11_tried 29 = .ok (.iconst (-1), 1) := by decide +kernel
theorem dX11_tried_30 : decode cX11_tried 30 = .ok (.ireturn, 1) := by decide +kernel
theorem dX11_tried_31 : decode cX11_tried 31 = .ok (.aload_n 0, 1) := by decide +kernel
theorem dX11_tried_32 : decode cX11_tried 32 = .ok (.iload_n 1, 1) := by decide +kernel
theorem dX11_tried_33 : decode cX11_tried 33 = .ok (.iload_n 2, 1) := by decide +kernel
theorem dX11_tried_34 : decode cX11_tried 34 = .ok (.invokevirtual 142, 3) := by decide +kernel
theorem dX11_tried_37 : decode cX11_tried 37 = .ok (.istore 4, 2) := by decide +kernel
theorem dX11_tried_39 : decode cX11_tried 39 = .ok (.iload 4, 2) := by decide +kernel
theorem dX11_tried_41 : decode cX11_tried 41 = .ok (.ifCond .ge 6, 3) := by decide +kernel
theorem dX11_tried_44 : decode cX11_tried 44 = .ok (.iload 4, 2) := by decide +kernel
theorem dX11_tried_46 : decode cX11_tried 46 = .ok (.ireturn, 1) := by decide +kernel
theorem dX11_tried_47 : decode cX11_tried 47 = .ok (.iload_n 3, 1) := by decide +kernel
theorem dX11_tried_48 : decode cX11_tried 48 = .ok (.tableswitch 120 0 6 #[44, 52, 60, 71, 82, 93, 112], 44) := by decide +kernel
theorem dX11_tried_92 : decode cX11_tried 92 = .ok (.aload_n 0, 1) := by decide +kernel
theorem dX11_tried_93 : decode cX11_tried 93 = .ok (.getfield 47, 3) := by decide +kernel
theorem dX11_tried_96 : decode cX11_tried 96 = .ok (.getfield 160, 3) := by decide +kernel
theorem dX11_tried_99 : decode cX11_tried 99 = .ok (.ireturn, 1) := by decide +kernel
theorem dX11_tried_100 : decode cX11_tried 100 = .ok (.aload_n 0, 1) := by decide +kernel
theorem dX11_tried_101 : decode cX11_tried 101 = .ok (.getfield 47, 3) := by decide +kernel
theorem dX11_tried_104 : decode cX11_tried 104 = .ok (.getfield 168, 3) := by decide +kernel
theorem dX11_tried_107 : decode cX11_tried 107 = .ok (.ireturn, 1) := by decide +kernel
theorem dX11_tried_108 : decode cX11_tried 108 = .ok (.aload_n 0, 1) := by decide +kernel
theorem dX11_tried_109 : decode cX11_tried 109 = .ok (.getfield 47, 3) := by decide +kernel
theorem dX11_tried_112 : decode cX11_tried 112 = .ok (.getfield 150, 3) := by decide +kernel
theorem dX11_tried_115 : decode cX11_tried 115 = .ok (.getfield 171, 3) := by decide +kernel
theorem dX11_tried_118 : decode cX11_tried 118 = .ok (.ireturn, 1) := by decide +kernel
theorem dX11_tried_119 : decode cX11_tried 119 = .ok (.aload_n 0, 1) := by decide +kernel
theorem dX11_tried_120 : decode cX11_tried 120 = .ok (.getfield 47, 3) := by decide +kernel
theorem dX11_tried_123 : decode cX11_tried 123 = .ok (.getfield 150, 3) := by decide +kernel
theorem dX11_tried_126 : decode cX11_tried 126 = .ok (.getfield 174, 3) := by decide +kernel
theorem dX11_tried_129 : decode cX11_tried 129 = .ok (.ireturn, 1) := by decide +kernel
theorem dX11_tried_130 : decode cX11_tried 130 = .ok (.aload_n 0, 1) := by decide +kernel
theorem dX11_tried_131 : decode cX11_tried 131 = .ok (.getfield 47, 3) := by decide +kernel
theorem dX11_tried_134 : decode cX11_tried 134 = .ok (.getfield 150, 3) := by decide +kernel
theorem dX11_tried_137 : decode cX11_tried 137 = .ok (.getfield 177, 3) := by decide +kernel
theorem dX11_tried_140 : decode cX11_tried 140 = .ok (.ireturn, 1) := by decide +kernel
theorem dX11_tried_141 : decode cX11_tried 141 = .ok (.aload_n 0, 1) := by decide +kernel
theorem dX11_tried_142 : decode cX11_tried 142 = .ok (.getfield 47, 3) := by decide +kernel
theorem dX11_tried_145 : decode cX11_tried 145 = .ok (.getfield 150, 3) := by decide +kernel
theorem dX11_tried_148 : decode cX11_tried 148 = .ok (.getfield 180, 3) := by decide +kernel
theorem dX11_tried_151 : decode cX11_tried 151 = .ok (.ifCond .eq 7, 3) := by decide +kernel
theorem dX11_tried_154 : decode cX11_tried 154 = .ok (.iconst 1, 1) := by decide +kernel
theorem dX11_tried_155 : decode cX11_tried 155 = .ok (.goto 4, 3) := by decide +kernel
theorem dX11_tried_158 : decode cX11_tried 158 = .ok (.iconst 0, 1) := by decide +kernel
theorem dX11_tried_159 : decode cX11_tried 159 = .ok (.ireturn, 1) := by decide +kernel
theorem dX11_tried_160 : decode cX11_tried 160 = .ok (.aload_n 0, 1) := by decide +kernel
theorem dX11_tried_161 : decode cX11_tried 161 = .ok (.getfield 47, 3) := by decide +kernel
theorem dX11_tried_164 : decode cX11_tried 164 = .ok (.invokevirtual 183, 3) := by decide +kernel
theorem dX11_tried_167 : decode cX11_tried 167 = .ok (.ireturn, 1) := by decide +kernel
theorem dX11_tried_168 : decode cX11_tried 168 = .ok (.aload_n 0, 1) := by decide +kernel
theorem dX11_tried_169 : decode cX11_tried 169 = .ok (.getfield 47, 3) := by decide +kernel
theorem dX11_tried_172 : decode cX11_tried 172 = .ok (.getfield 158, 3) := by decide +kernel
theorem dX11_tried_175 : decode cX11_tried 175 = .ok (.ireturn, 1) := by decide +kernel
theorem dX11_witnessIs_0 : decode cX11_witnessIs 0 = .ok (.aload_n 0, 1) := by decide +kernel
theorem dX11_witnessIs_1 : decode cX11_witnessIs 1 = .ok (.iload_n 1, 1) := by decide +kernel
theorem dX11_witnessIs_2 : decode cX11_witnessIs 2 = .ok (.invokevirtual 138, 3) := by decide +kernel
theorem dX11_witnessIs_5 : decode cX11_witnessIs 5 = .ok (.ifCond .ne 5, 3) := by decide +kernel
theorem dX11_witnessIs_8 : decode cX11_witnessIs 8 = .ok (.iconst (-1), 1) := by decide +kernel
theorem dX11_witnessIs_9 : decode cX11_witnessIs 9 = .ok (.ireturn, 1) := by decide +kernel
theorem dX11_witnessIs_10 : decode cX11_witnessIs 10 = .ok (.aload_n 0, 1) := by decide +kernel
theorem dX11_witnessIs_11 : decode cX11_witnessIs 11 = .ok (.getfield 11, 3) := by decide +kernel
theorem dX11_witnessIs_14 : decode cX11_witnessIs 14 = .ok (.iload_n 1, 1) := by decide +kernel
theorem dX11_witnessIs_15 : decode cX11_witnessIs 15 = .ok (.aaload, 1) := by decide +kernel
theorem dX11_witnessIs_16 : decode cX11_witnessIs 16 = .ok (.astore_n 3, 1) := by decide +kernel
theorem dX11_witnessIs_17 : decode cX11_witnessIs 17 = .ok (.iload_n 2, 1) := by decide +kernel
theorem dX11_witnessIs_18 : decode cX11_witnessIs 18 = .ok (.tableswitch 138 0 9 #[54, 59, 67, 75, 83, 91, 107, 123, 128, 133], 54) := by decide +kernel
theorem dX11_witnessIs_72 : decode cX11_witnessIs 72 = .ok (.aload_n 3, 1) := by decide +kernel
theorem dX11_witnessIs_73 : decode cX11_witnessIs 73 = .ok (.getfield 187, 3) := by decide +kernel
theorem dX11_witnessIs_76 : decode cX11_witnessIs 76 = .ok (.ireturn, 1) := by decide +kernel
theorem dX11_witnessIs_77 : decode cX11_witnessIs 77 = .ok (.aload_n 3, 1) := by decide +kernel
theorem dX11_witnessIs_78 : decode cX11_witnessIs 78 = .ok (.getfield 146, 3) := by decide +kernel
theorem dX11_witnessIs_81 : decode cX11_witnessIs 81 = .ok (.getfield 190, 3) := by decide +kernel
theorem dX11_witnessIs_84 : decode cX11_witnessIs 84 = .ok (.ireturn, 1) := by decide +kernel
theorem dX11_witnessIs_85 : decode cX11_witnessIs 85 = .ok (.aload_n 3, 1) := by decide +kernel
theorem dX11_witnessIs_86 : decode cX11_witnessIs 86 = .ok (.getfield 146, 3) := by decide +kernel
theorem dX11_witnessIs_89 : decode cX11_witnessIs 89 = .ok (.getfield 171, 3) := by decide +kernel
theorem dX11_witnessIs_92 : decode cX11_witnessIs 92 = .ok (.ireturn, 1) := by decide +kernel
theorem dX11_witnessIs_93 : decode cX11_witnessIs 93 = .ok (.aload_n 3, 1) := by decide +kernel
theorem dX11_witnessIs_94 : decode cX11_witnessIs 94 = .ok (.getfield 146, 3) := by decide +kernel
theorem dX11_witnessIs_97 : decode cX11_witnessIs 97 = .ok (.getfield 174, 3) := by decide +kernel
theorem dX11_witnessIs_100 : decode cX11_witnessIs 100 = .ok (.ireturn, 1) := by decide +kernel
theorem dX11_witnessIs_101 : decode cX11_witnessIs 101 = .ok (.aload_n 3, 1) := by decide +kernel
theorem dX11_witnessIs_102 : decode cX11_witnessIs 102 = .ok (.getfield 146, 3) := by decide +kernel
theorem dX11_witnessIs_105 : decode cX11_witnessIs 105 = .ok (.getfield 177, 3) := by decide +kernel
theorem dX11_witnessIs_108 : decode cX11_witnessIs 108 = .ok (.ireturn, 1) := by decide +kernel
theorem dX11_witnessIs_109 : decode cX11_witnessIs 109 = .ok (.aload_n 3, 1) := by decide +kernel
theorem dX11_witnessIs_110 : decode cX11_witnessIs 110 = .ok (.getfield 146, 3) := by decide +kernel
theorem dX11_witnessIs_113 : decode cX11_witnessIs 113 = .ok (.getfield 180, 3) := by decide +kernel
theorem dX11_witnessIs_116 : decode cX11_witnessIs 116 = .ok (.ifCond .eq 7, 3) := by decide +kernel
theorem dX11_witnessIs_119 : decode cX11_witnessIs 119 = .ok (.iconst 1, 1) := by decide +kernel
theorem dX11_witnessIs_120 : decode cX11_witnessIs 120 = .ok (.goto 4, 3) := by decide +kernel
theorem dX11_witnessIs_123 : decode cX11_witnessIs 123 = .ok (.iconst 0, 1) := by decide +kernel
theorem dX11_witnessIs_124 : decode cX11_witnessIs 124 = .ok (.ireturn, 1) := by decide +kernel
theorem dX11_witnessIs_125 : decode cX11_witnessIs 125 = .ok (.aload_n 3, 1) := by decide +kernel
theorem dX11_witnessIs_126 : decode cX11_witnessIs 126 = .ok (.getfield 146, 3) := by decide +kernel
theorem dX11_witnessIs_129 : decode cX11_witnessIs 129 = .ok (.getfield 193, 3) := by decide +kernel
theorem dX11_witnessIs_132 : decode cX11_witnessIs 132 = .ok (.ifCond .eq 7, 3) := by decide +kernel
theorem dX11_witnessIs_135 : decode cX11_witnessIs 135 = .ok (.iconst 1, 1) := by decide +kernel
theorem dX11_witnessIs_136 : decode cX11_witnessIs 136 = .ok (.goto 4, 3) := by decide +kernel
theorem dX11_witnessIs_139 : decode cX11_witnessIs 139 = .ok (.iconst 0, 1) := by decide +kernel
theorem dX11_witnessIs_140 : decode cX11_witnessIs 140 = .ok (.ireturn, 1) := by decide +kernel
theorem dX11_witnessIs_141 : decode cX11_witnessIs 141 = .ok (.aload_n 3, 1) := by decide +kernel
theorem dX11_witnessIs_142 : decode cX11_witnessIs 142 = .ok (.invokevirtual 196, 3) := by decide +kernel
theorem dX11_witnessIs_145 : decode cX11_witnessIs 145 = .ok (.ireturn, 1) := by decide +kernel
theorem dX11_witnessIs_146 : decode cX11_witnessIs 146 = .ok (.aload_n 3, 1) := by decide +kernel
theorem dX11_witnessIs_147 : decode cX11_witnessIs 147 = .ok (.invokevirtual 199, 3) := by decide +kernel
theorem dX11_witnessIs_150 : decode cX11_witnessIs 150 = .ok (.ireturn, 1) := by decide +kernel
theorem dX11_witnessIs_151 : decode cX11_witnessIs 151 = .ok (.aload_n 3, 1) := by decide +kernel
theorem dX11_witnessIs_152 : decode cX11_witnessIs 152 = .ok (.invokevirtual 202, 3) := by decide +kernel
theorem dX11_witnessIs_155 : decode cX11_witnessIs 155 = .ok (.ireturn, 1) := by decide +kernel
theorem dX11_witnessIs_156 : decode cX11_witnessIs 156 = .ok (.iconst (-1), 1) := by decide +kernel
theorem dX11_witnessIs_157 : decode cX11_witnessIs 157 = .ok (.ireturn, 1) := by decide +kernel
theorem dX11_layerIs_0 : decode cX11_layerIs 0 = .ok (.aload_n 0, 1) := by decide +kernel
theorem dX11_layerIs_1 : decode cX11_layerIs 1 = .ok (.iload_n 1, 1) := by decide +kernel
theorem dX11_layerIs_2 : decode cX11_layerIs 2 = .ok (.invokevirtual 138, 3) := by decide +kernel
theorem dX11_layerIs_5 : decode cX11_layerIs 5 = .ok (.ifCond .eq 20, 3) := by decide +kernel
theorem dX11_layerIs_8 : decode cX11_layerIs 8 = .ok (.iload_n 2, 1) := by decide +kernel
theorem dX11_layerIs_9 : decode cX11_layerIs 9 = .ok (.ifCond .lt 16, 3) := by decide +kernel
theorem dX11_layerIs_12 : decode cX11_layerIs 12 = .ok (.iload_n 2, 1) := by decide +kernel
theorem dX11_layerIs_13 : decode cX11_layerIs 13 = .ok (.aload_n 0, 1) := by decide +kernel
theorem dX11_layerIs_14 : decode cX11_layerIs 14 = .ok (.getfield 11, 3) := by decide +kernel
theorem dX11_layerIs_17 : decode cX11_layerIs 17 = .ok (.iload_n 1, 1) := by decide +kernel
theorem dX11_layerIs_18 : decode cX11_layerIs 18 = .ok (.aaload, 1) := by decide +kernel
theorem dX11_layerIs_19 : decode cX11_layerIs 19 = .ok (.getfield 187, 3) := by decide +kernel
theorem dX11_layerIs_22 : decode cX11_layerIs 22 = .ok (.if_icmp .lt 5, 3) := by decide +kernel
theorem dX11_layerIs_25 : decode cX11_layerIs 25 = .ok (.iconst (-1), 1) := by decide +kernel
theorem dX11_layerIs_26 : decode cX11_layerIs 26 = .ok (.ireturn, 1) := by decide +kernel
theorem dX11_layerIs_27 : decode cX11_layerIs 27 = .ok (.iload_n 3, 1) := by decide +kernel
theorem dX11_layerIs_28 : decode cX11_layerIs 28 = .ok (.tableswitch 74 0 2 #[28, 40, 52], 28) := by decide +kernel
theorem dX11_layerIs_56 : decode cX11_layerIs 56 = .ok (.aload_n 0, 1) := by decide +kernel
theorem dX11_layerIs_57 : decode cX11_layerIs 57 = .ok (.getfield 11, 3) := by decide +kernel
theorem dX11_layerIs_60 : decode cX11_layerIs 60 = .ok (.iload_n 1, 1) := by decide +kernel
theorem dX11_layerIs_61 : decode cX11_layerIs 61 = .ok (.aaload, 1) := by decide +kernel
theorem dX11_layerIs_62 : decode cX11_layerIs 62 = .ok (.getfield 205, 3) := by decide +kernel
theorem dX11_layerIs_65 : decode cX11_layerIs 65 = .ok (.iload_n 2, 1) := by decide +kernel
theorem dX11_layerIs_66 : decode cX11_layerIs 66 = .ok (.iaload, 1) := by decide +kernel
theorem dX11_layerIs_67 : decode cX11_layerIs 67 = .ok (.ireturn, 1) := by decide +kernel
theorem dX11_layerIs_68 : decode cX11_layerIs 68 = .ok (.aload_n 0, 1) := by decide +kernel
theorem dX11_layerIs_69 : decode cX11_layerIs 69 = .ok (.getfield 11, 3) := by decide +kernel
theorem dX11_layerIs_72 : decode cX11_layerIs 72 = .ok (.iload_n 1, 1) := by decide +kernel
theorem dX11_layerIs_73 : decode cX11_layerIs 73 = .ok (.aaload, 1) := by decide +kernel
theorem dX11_layerIs_74 : decode cX11_layerIs 74 = .ok (.getfield 208, 3) := by decide +kernel
theorem dX11_layerIs_77 : decode cX11_layerIs 77 = .ok (.iload_n 2, 1) := by decide +kernel
theorem dX11_layerIs_78 : decode cX11_layerIs 78 = .ok (.iaload, 1) := by decide +kernel
theorem dX11_layerIs_79 : decode cX11_layerIs 79 = .ok (.ireturn, 1) := by decide +kernel
theorem dX11_layerIs_80 : decode cX11_layerIs 80 = .ok (.iload_n 2, 1) := by decide +kernel
theorem dX11_layerIs_81 : decode cX11_layerIs 81 = .ok (.aload_n 0, 1) := by decide +kernel
theorem dX11_layerIs_82 : decode cX11_layerIs 82 = .ok (.getfield 11, 3) := by decide +kernel
theorem dX11_layerIs_85 : decode cX11_layerIs 85 = .ok (.iload_n 1, 1) := by decide +kernel
theorem dX11_layerIs_86 : decode cX11_layerIs 86 = .ok (.aaload, 1) := by decide +kernel
theorem dX11_layerIs_87 : decode cX11_layerIs 87 = .ok (.getfield 146, 3) := by decide +kernel
theorem dX11_layerIs_90 : decode cX11_layerIs 90 = .ok (.getfield 190, 3) := by decide +kernel
theorem dX11_layerIs_93 : decode cX11_layerIs 93 = .ok (.if_icmp .ge 7, 3) := by decide +kernel
theorem dX11_layerIs_96 : decode cX11_layerIs 96 = .ok (.iconst 1, 1) := by decide +kernel
theorem dX11_layerIs_97 : decode cX11_layerIs 97 = .ok (.goto 4, 3) := by decide +kernel
theorem dX11_layerIs_100 : decode cX11_layerIs 100 = .ok (.iconst 0, 1) := by decide +kernel
theorem dX11_layerIs_101 : decode cX11_layerIs 101 = .ok (.ireturn, 1) := by decide +kernel
theorem dX11_layerIs_102 : decode cX11_layerIs 102 = .ok (.iconst (-1), 1) := by decide +kernel
theorem dX11_layerIs_103 : decode cX11_layerIs 103 = .ok (.ireturn, 1) := by decide +kernel
theorem dX11_plan_0 : decode cX11_plan 0 = .ok (.aload_n 0, 1) := by decide +kernel
theorem dX11_plan_1 : decode cX11_plan 1 = .ok (.iload_n 1, 1) := by decide +kernel
theorem dX11_plan_2 : decode cX11_plan 2 = .ok (.invokevirtual 138, 3) := by decide +kernel
theorem dX11_plan_5 : decode cX11_plan 5 = .ok (.ifCond .eq 22, 3) := by decide +kernel
theorem dX11_plan_8 : decode cX11_plan 8 = .ok (.iload_n 2, 1) := by decide +kernel
theorem dX11_plan_9 : decode cX11_plan 9 = .ok (.ifCond .lt 18, 3) := by decide +kernel
theorem dX11_plan_12 : decode cX11_plan 12 = .ok (.iload_n 2, 1) := by decide +kernel
theorem dX11_plan_13 : decode cX11_plan 13 = .ok (.bipush 100, 2) := by decide +kernel
theorem dX11_plan_15 : decode cX11_plan 15 = .ok (.if_icmp .ge 12, 3) := by decide +kernel
theorem dX11_plan_18 : decode cX11_plan 18 = .ok (.iload_n 3, 1) := by decide +kernel
theorem dX11_plan_19 : decode cX11_plan 19 = .ok (.ifCond .lt 8, 3) := by decide +kernel
theorem dX11_plan_22 : decode cX11_plan 22 = .ok (.iload_n 3, 1) := by decide +kernel
theorem dX11_plan_23 : decode cX11_plan 23 = .ok (.iconst 1, 1) := by decide +kernel
theorem dX11_plan_24 : decode cX11_plan 24 = .ok (.if_icmp .le 5, 3) := by decide +kernel
theorem dX11_plan_27 : decode cX11_plan 27 = .ok (.iconst (-1), 1) := by decide +kernel
theorem dX11_plan_28 : decode cX11_plan 28 = .ok (.ireturn, 1) := by decide +kernel
theorem dX11_plan_29 : decode cX11_plan 29 = .ok (.aload_n 0, 1) := by decide +kernel
theorem dX11_plan_30 : decode cX11_plan 30 = .ok (.getfield 11, 3) := by decide +kernel
theorem dX11_plan_33 : decode cX11_plan 33 = .ok (.iload_n 1, 1) := by decide +kernel
theorem dX11_plan_34 : decode cX11_plan 34 = .ok (.aaload, 1) := by decide +kernel
theorem dX11_plan_35 : decode cX11_plan 35 = .ok (.iload_n 2, 1) := by decide +kernel
theorem dX11_plan_36 : decode cX11_plan 36 = .ok (.invokevirtual 211, 3) := by decide +kernel
theorem dX11_plan_39 : decode cX11_plan 39 = .ok (.istore 4, 2) := by decide +kernel
theorem dX11_plan_41 : decode cX11_plan 41 = .ok (.iload 4, 2) := by decide +kernel
theorem dX11_plan_43 : decode cX11_plan 43 = .ok (.ifCond .lt 18, 3) := by decide +kernel
theorem dX11_plan_46 : decode cX11_plan 46 = .ok (.aload_n 0, 1) := by decide +kernel
theorem dX11_plan_47 : decode cX11_plan 47 = .ok (.getfield 11, 3) := by decide +kernel
theorem dX11_plan_50 : decode cX11_plan 50 = .ok (.iload_n 1, 1) := by decide +kernel
theorem dX11_plan_51 : decode cX11_plan 51 = .ok (.aaload, 1) := by decide +kernel
theorem dX11_plan_52 : decode cX11_plan 52 = .ok (.getfield 146, 3) := by decide +kernel
theorem dX11_plan_55 : decode cX11_plan 55 = .ok (.getfield 193, 3) := by decide +kernel
theorem dX11_plan_58 : decode cX11_plan 58 = .ok (.ifCond .eq 6, 3) := by decide +kernel
theorem dX11_plan_61 : decode cX11_plan 61 = .ok (.bipush (-2), 2) := by decide +kernel
theorem dX11_plan_63 : decode cX11_plan 63 = .ok (.ireturn, 1) := by decide +kernel
theorem dX11_plan_64 : decode cX11_plan 64 = .ok (.aload_n 0, 1) := by decide +kernel
theorem dX11_plan_65 : decode cX11_plan 65 = .ok (.getfield 47, 3) := by decide +kernel
theorem dX11_plan_68 : decode cX11_plan 68 = .ok (.iload_n 1, 1) := by decide +kernel
theorem dX11_plan_69 : decode cX11_plan 69 = .ok (.aload_n 0, 1) := by decide +kernel
theorem dX11_plan_70 : decode cX11_plan 70 = .ok (.getfield 11, 3) := by decide +kernel
theorem dX11_plan_73 : decode cX11_plan 73 = .ok (.iload_n 1, 1) := by decide +kernel
theorem dX11_plan_74 : decode cX11_plan 74 = .ok (.aaload, 1) := by decide +kernel
theorem dX11_plan_75 : decode cX11_plan 75 = .ok (.aload_n 0, 1) := by decide +kernel
theorem dX11_plan_76 : decode cX11_plan 76 = .ok (.getfield 26, 3) := by decide +kernel
theorem dX11_plan_79 : decode cX11_plan 79 = .ok (.bipush 99, 2) := by decide +kernel
theorem dX11_plan_81 : decode cX11_plan 81 = .ok (.aload_n 0, 1) := by decide +kernel
theorem dX11_plan_82 : decode cX11_plan 82 = .ok (.getfield 92, 3) := by decide +kernel
theorem dX11_plan_85 : decode cX11_plan 85 = .ok (.invokevirtual 215, 3) := by decide +kernel
theorem dX11_plan_88 : decode cX11_plan 88 = .ok (.aload_n 0, 1) := by decide +kernel
theorem dX11_plan_89 : decode cX11_plan 89 = .ok (.getfield 54, 3) := by decide +kernel
theorem dX11_plan_92 : decode cX11_plan 92 = .ok (.aload_n 0, 1) := by decide +kernel
theorem dX11_plan_93 : decode cX11_plan 93 = .ok (.getfield 47, 3) := by decide +kernel
theorem dX11_plan_96 : decode cX11_plan 96 = .ok (.iload 4, 2) := by decide +kernel
theorem dX11_plan_98 : decode cX11_plan 98 = .ok (.invokevirtual 219, 3) := by decide +kernel
theorem dX11_plan_101 : decode cX11_plan 101 = .ok (.ifCond .ne 6, 3) := by decide +kernel
theorem dX11_plan_104 : decode cX11_plan 104 = .ok (.bipush (-3), 2) := by decide +kernel
theorem dX11_plan_106 : decode cX11_plan 106 = .ok (.ireturn, 1) := by decide +kernel
theorem dX11_plan_107 : decode cX11_plan 107 = .ok (.iload_n 3, 1) := by decide +kernel
theorem dX11_plan_108 : decode cX11_plan 108 = .ok (.ifCond .ne 13, 3) := by decide +kernel
theorem dX11_plan_111 : decode cX11_plan 111 = .ok (.aload_n 0, 1) := by decide +kernel
theorem dX11_plan_112 : decode cX11_plan 112 = .ok (.getfield 54, 3) := by decide +kernel
theorem dX11_plan_115 : decode cX11_plan 115 = .ok (.getfield 223, 3) := by decide +kernel
theorem dX11_plan_118 : decode cX11_plan 118 = .ok (.goto 10, 3) := by decide +kernel
theorem dX11_plan_121 : decode cX11_plan 121 = .ok (.aload_n 0, 1) := by decide +kernel
theorem dX11_plan_122 : decode cX11_plan 122 = .ok (.getfield 54, 3) := by decide +kernel
theorem dX11_plan_125 : decode cX11_plan 125 = .ok (.getfield 226, 3) := by decide +kernel
theorem dX11_plan_128 : decode cX11_plan 128 = .ok (.ireturn, 1) := by decide +kernel
theorem dX11_heard_0 : decode cX11_heard 0 = .ok (.iload_n 1, 1) := by decide +kernel
theorem dX11_heard_1 : decode cX11_heard 1 = .ok (.ifCond .lt 18, 3) := by decide +kernel
theorem dX11_heard_4 : decode cX11_heard 4 = .ok (.iload_n 1, 1) := by decide +kernel
theorem dX11_heard_5 : decode cX11_heard 5 = .ok (.ldc 229, 2) := by decide +kernel
theorem dX11_heard_7 : decode cX11_heard 7 = .ok (.if_icmp .ge 12, 3) := by decide +kernel
theorem dX11_heard_10 : decode cX11_heard 10 = .ok (.iload_n 2, 1) := by decide +kernel
theorem dX11_heard_11 : decode cX11_heard 11 = .ok (.ifCond .lt 8, 3) := by decide +kernel
theorem dX11_heard_14 : decode cX11_heard 14 = .ok (.iload_n 2, 1) := by decide +kernel
theorem dX11_heard_15 : decode cX11_heard 15 = .ok (.iconst 1, 1) := by decide +kernel
theorem dX11_heard_16 : decode cX11_heard 16 = .ok (.if_icmp .le 5, 3) := by decide +kernel
theorem dX11_heard_19 : decode cX11_heard 19 = .ok (.iconst (-1), 1) := by decide +kernel
theorem dX11_heard_20 : decode cX11_heard 20 = .ok (.ireturn, 1) := by decide +kernel
theorem dX11_heard_21 : decode cX11_heard 21 = .ok (.iconst 0, 1) := by decide +kernel
theorem dX11_heard_22 : decode cX11_heard 22 = .ok (.istore_n 3, 1) := by decide +kernel
theorem dX11_heard_23 : decode cX11_heard 23 = .ok (.iload_n 3, 1) := by decide +kernel
theorem dX11_heard_24 : decode cX11_heard 24 = .ok (.bipush 12, 2) := by decide +kernel
theorem dX11_heard_26 : decode cX11_heard 26 = .ok (.if_icmp .ge 26, 3) := by decide +kernel
theorem dX11_heard_29 : decode cX11_heard 29 = .ok (.aload_n 0, 1) := by decide +kernel
theorem dX11_heard_30 : decode cX11_heard 30 = .ok (.getfield 79, 3) := by decide +kernel
theorem dX11_heard_33 : decode cX11_heard 33 = .ok (.iload_n 3, 1) := by decide +kernel
theorem dX11_heard_34 : decode cX11_heard 34 = .ok (.aload_n 0, 1) := by decide +kernel
theorem dX11_heard_35 : decode cX11_heard 35 = .ok (.getfield 11, 3) := by decide +kernel
theorem dX11_heard_38 : decode cX11_heard 38 = .ok (.iload_n 3, 1) := by decide +kernel
theorem dX11_heard_39 : decode cX11_heard 39 = .ok (.aaload, 1) := by decide +kernel
theorem dX11_heard_40 : decode cX11_heard 40 = .ok (.invokevirtual 202, 3) := by decide +kernel
theorem dX11_heard_43 : decode cX11_heard 43 = .ok (.iload_n 1, 1) := by decide +kernel
theorem dX11_heard_44 : decode cX11_heard 44 = .ok (.iand, 1) := by decide +kernel
theorem dX11_heard_45 : decode cX11_heard 45 = .ok (.iastore, 1) := by decide +kernel
theorem dX11_heard_46 : decode cX11_heard 46 = .ok (.iinc 3 1, 3) := by decide +kernel
theorem dX11_heard_49 : decode cX11_heard 49 = .ok (.goto (-26), 3) := by decide +kernel
theorem dX11_heard_52 : decode cX11_heard 52 = .ok (.sipush 4095, 3) := by decide +kernel
theorem dX11_heard_55 : decode cX11_heard 55 = .ok (.istore_n 3, 1) := by decide +kernel
theorem dX11_heard_56 : decode cX11_heard 56 = .ok (.aload_n 0, 1) := by decide +kernel
theorem dX11_heard_57 : decode cX11_heard 57 = .ok (.iload_n 3, 1) := by decide +kernel
theorem dX11_heard_58 : decode cX11_heard 58 = .ok (.invokevirtual 230, 3) := by decide +kernel
theorem dX11_heard_61 : decode cX11_heard 61 = .ok (.iload_n 1, 1) := by decide +kernel
theorem dX11_heard_62 : decode cX11_heard 62 = .ok (.if_icmp .eq 6, 3) := by decide +kernel
theorem dX11_heard_65 : decode cX11_heard 65 = .ok (.bipush (-2), 2) := by decide +kernel
theorem dX11_heard_67 : decode cX11_heard 67 = .ok (.ireturn, 1) := by decide +kernel
theorem dX11_heard_68 : decode cX11_heard 68 = .ok (.bipush 12, 2) := by decide +kernel
theorem dX11_heard_70 : decode cX11_heard 70 = .ok (.istore 4, 2) := by decide +kernel
theorem dX11_heard_72 : decode cX11_heard 72 = .ok (.iconst 0, 1) := by decide +kernel
theorem dX11_heard_73 : decode cX11_heard 73 = .ok (.istore 5, 2) := by decide +kernel
theorem dX11_heard_75 : decode cX11_heard 75 = .ok (.iload 5, 2) := by decide +kernel
theorem dX11_heard_77 : decode cX11_heard 77 = .ok (.sipush 4096, 3) := by decide +kernel
theorem dX11_heard_80 : decode cX11_heard 80 = .ok (.if_icmp .ge 39, 3) := by decide +kernel
theorem dX11_heard_83 : decode cX11_heard 83 = .ok (.iload 5, 2) := by decide +kernel
theorem dX11_heard_85 : decode cX11_heard 85 = .ok (.invokestatic 233, 3) := by decide +kernel
theorem dX11_heard_88 : decode cX11_heard 88 = .ok (.iload 4, 2) := by decide +kernel
theorem dX11_heard_90 : decode cX11_heard 90 = .ok (.if_icmp .ge 23, 3) := by decide +kernel
theorem dX11_heard_93 : decode cX11_heard 93 = .ok (.aload_n 0, 1) := by decide +kernel
theorem dX11_heard_94 : decode cX11_heard 94 = .ok (.iload 5, 2) := by decide +kernel
theorem dX11_heard_96 : decode cX11_heard 96 = .ok (.invokevirtual 230, 3) := by decide +kernel
theorem dX11_heard_99 : decode cX11_heard 99 = .ok (.iload_n 1, 1) := by decide +kernel
theorem dX11_heard_100 : decode cX11_heard 100 = .ok (.if_icmp .ne 13, 3) := by decide +kernel
theorem dX11_heard_103 : decode cX11_heard 103 = .ok (.iload 5, 2) := by decide +kernel
theorem dX11_heard_105 : decode cX11_heard 105 = .ok (.istore_n 3, 1) := by decide +kernel
theorem dX11_heard_106 : decode cX11_heard 106 = .ok (.iload 5, 2) := by decide +kernel
theorem dX11_heard_108 : decode cX11_heard 108 = .ok (.invokestatic 233, 3) := by decide +kernel
theorem dX11_heard_111 : decode cX11_heard 111 = .ok (.istore 4, 2) := by decide +kernel
theorem dX11_heard_113 : decode cX11_heard 113 = .ok (.iinc 5 1, 3) := by decide +kernel
theorem dX11_heard_116 : decode cX11_heard 116 = .ok (.goto (-41), 3) := by decide +kernel
theorem dX11_heard_119 : decode cX11_heard 119 = .ok (.iload_n 2, 1) := by decide +kernel
theorem dX11_heard_120 : decode cX11_heard 120 = .ok (.ifCond .ne 8, 3) := by decide +kernel
theorem dX11_heard_123 : decode cX11_heard 123 = .ok (.iload 4, 2) := by decide +kernel
theorem dX11_heard_125 : decode cX11_heard 125 = .ok (.goto 4, 3) := by decide +kernel
theorem dX11_heard_128 : decode cX11_heard 128 = .ok (.iload_n 3, 1) := by decide +kernel
theorem dX11_heard_129 : decode cX11_heard 129 = .ok (.ireturn, 1) := by decide +kernel
theorem dX11_agree_0 : decode cX11_agree 0 = .ok (.aload_n 0, 1) := by decide +kernel
theorem dX11_agree_1 : decode cX11_agree 1 = .ok (.iload_n 1, 1) := by decide +kernel
theorem dX11_agree_2 : decode cX11_agree 2 = .ok (.invokevirtual 138, 3) := by decide +kernel
theorem dX11_agree_5 : decode cX11_agree 5 = .ok (.ifCond .eq 11, 3) := by decide +kernel
theorem dX11_agree_8 : decode cX11_agree 8 = .ok (.aload_n 0, 1) := by decide +kernel
theorem dX11_agree_9 : decode cX11_agree 9 = .ok (.iload_n 2, 1) := by decide +kernel
theorem dX11_agree_10 : decode cX11_agree 10 = .ok (.invokevirtual 138, 3) := by decide +kernel
theorem dX11_agree_13 : decode cX11_agree 13 = .ok (.ifCond .ne 5, 3) := by decide +kernel
theorem dX11_agree_16 : decode cX11_agree 16 = .ok (.iconst (-1), 1) := by decide +kernel
theorem dX11_agree_17 : decode cX11_agree 17 = .ok (.ireturn, 1) := by decide +kernel
theorem dX11_agree_18 : decode cX11_agree 18 = .ok (.aload_n 0, 1) := by decide +kernel
theorem dX11_agree_19 : decode cX11_agree 19 = .ok (.getfield 11, 3) := by decide +kernel
theorem dX11_agree_22 : decode cX11_agree 22 = .ok (.iload_n 1, 1) := by decide +kernel
theorem dX11_agree_23 : decode cX11_agree 23 = .ok (.aaload, 1) := by decide +kernel
theorem dX11_agree_24 : decode cX11_agree 24 = .ok (.astore_n 3, 1) := by decide +kernel
theorem dX11_agree_25 : decode cX11_agree 25 = .ok (.aload_n 0, 1) := by decide +kernel
theorem dX11_agree_26 : decode cX11_agree 26 = .ok (.getfield 11, 3) := by decide +kernel
theorem dX11_agree_29 : decode cX11_agree 29 = .ok (.iload_n 2, 1) := by decide +kernel
theorem dX11_agree_30 : decode cX11_agree 30 = .ok (.aaload, 1) := by decide +kernel
theorem dX11_agree_31 : decode cX11_agree 31 = .ok (.astore 4, 2) := by decide +kernel
theorem dX11_agree_33 : decode cX11_agree 33 = .ok (.aload_n 0, 1) := by decide +kernel
theorem dX11_agree_34 : decode cX11_agree 34 = .ok (.getfield 79, 3) := by decide +kernel
theorem dX11_agree_37 : decode cX11_agree 37 = .ok (.iconst 0, 1) := by decide +kernel
theorem dX11_agree_38 : decode cX11_agree 38 = .ok (.invokestatic 238, 3) := by decide +kernel
theorem dX11_agree_41 : decode cX11_agree 41 = .ok (.iconst 0, 1) := by decide +kernel
theorem dX11_agree_42 : decode cX11_agree 42 = .ok (.istore 5, 2) := by decide +kernel
theorem dX11_agree_44 : decode cX11_agree 44 = .ok (.iload 5, 2) := by decide +kernel
theorem dX11_agree_46 : decode cX11_agree 46 = .ok (.aload_n 3, 1) := by decide +kernel
theorem dX11_agree_47 : decode cX11_agree 47 = .ok (.getfield 187, 3) := by decide +kernel
theorem dX11_agree_50 : decode cX11_agree 50 = .ok (.if_icmp .ge 122, 3) := by decide +kernel
theorem dX11_agree_53 : decode cX11_agree 53 = .ok (.iconst 0, 1) := by decide +kernel
theorem dX11_agree_54 : decode cX11_agree 54 = .ok (.istore 6, 2) := by decide +kernel
theorem dX11_agree_56 : decode cX11_agree 56 = .ok (.iconst 0, 1) := by decide +kernel
theorem dX11_agree_57 : decode cX11_agree 57 = .ok (.istore 7, 2) := by decide +kernel
theorem dX11_agree_59 : decode cX11_agree 59 = .ok (.iload 7, 2) := by decide +kernel
theorem dX11_agree_61 : decode cX11_agree 61 = .ok (.aload 4, 2) := by decide +kernel
theorem dX11_agree_63 : decode cX11_agree 63 = .ok (.getfield 187, 3) := by decide +kernel
theorem dX11_agree_66 : decode cX11_agree 66 = .ok (.if_icmp .ge 100, 3) := by decide +kernel
theorem dX11_agree_69 : decode cX11_agree 69 = .ok (.aload_n 0, 1) := by decide +kernel
theorem dX11_agree_70 : decode cX11_agree 70 = .ok (.getfield 79, 3) := by decide +kernel
theorem dX11_agree_73 : decode cX11_agree 73 = .ok (.iload 7, 2) := by decide +kernel
theorem dX11_agree_75 : decode cX11_agree 75 = .ok (.iconst 1, 1) := by decide +kernel
theorem dX11_agree_76 : decode cX11_agree 76 = .ok (.iadd, 1) := by decide +kernel
theorem dX11_agree_77 : decode cX11_agree 77 = .ok (.iaload, 1) := by decide +kernel
theorem dX11_agree_78 : decode cX11_agree 78 = .ok (.istore 8, 2) := by decide +kernel
theorem dX11_agree_80 : decode cX11_agree 80 = .ok (.aload_n 3, 1) := by decide +kernel
theorem dX11_agree_81 : decode cX11_agree 81 = .ok (.getfield 205, 3) := by decide +kernel
theorem dX11_agree_84 : decode cX11_agree 84 = .ok (.iload 5, 2) := by decide +kernel
theorem dX11_agree_86 : decode cX11_agree 86 = .ok (.iaload, 1) := by decide +kernel
theorem dX11_agree_87 : decode cX11_agree 87 = .ok (.aload 4, 2) := by decide +kernel
theorem dX11_agree_89 : decode cX11_agree 89 = .ok (.getfield 205, 3) := by decide +kernel
theorem dX11_agree_92 : decode cX11_agree 92 = .ok (.iload 7, 2) := by decide +kernel
theorem dX11_agree_94 : decode cX11_agree 94 = .ok (.iaload, 1) := by decide +kernel
theorem dX11_agree_95 : decode cX11_agree 95 = .ok (.if_icmp .ne 25, 3) := by decide +kernel
theorem dX11_agree_98 : decode cX11_agree 98 = .ok (.aload_n 3, 1) := by decide +kernel
theorem dX11_agree_99 : decode cX11_agree 99 = .ok (.getfield 208, 3) := by decide +kernel
theorem dX11_agree_102 : decode cX11_agree 102 = .ok (.iload 5, 2) := by decide +kernel
theorem dX11_agree_104 : decode cX11_agree 104 = .ok (.iaload, 1) := by decide +kernel
theorem dX11_agree_105 : decode cX11_agree 105 = .ok (.aload 4, 2) := by decide +kernel
theorem dX11_agree_107 : decode cX11_agree 107 = .ok (.getfield 208, 3) := by decide +kernel
theorem dX11_agree_110 : decode cX11_agree 110 = .ok (.iload 7, 2) := by decide +kernel
theorem dX11_agree_112 : decode cX11_agree 112 = .ok (.iaload, 1) := by decide +kernel
theorem dX11_agree_113 : decode cX11_agree 113 = .ok (.if_icmp .ne 7, 3) := by decide +kernel
theorem dX11_agree_116 : decode cX11_agree 116 = .ok (.iconst 1, 1) := by decide +kernel
theorem dX11_agree_117 : decode cX11_agree 117 = .ok (.goto 4, 3) := by decide +kernel
theorem dX11_agree_120 : decode cX11_agree 120 = .ok (.iconst 0, 1) := by decide +kernel
theorem dX11_agree_121 : decode cX11_agree 121 = .ok (.istore 9, 2) := by decide +kernel
theorem dX11_agree_123 : decode cX11_agree 123 = .ok (.aload_n 0, 1) := by decide +kernel
theorem dX11_agree_124 : decode cX11_agree 124 = .ok (.getfield 79, 3) := by decide +kernel
theorem dX11_agree_127 : decode cX11_agree 127 = .ok (.iload 7, 2) := by decide +kernel
theorem dX11_agree_129 : decode cX11_agree 129 = .ok (.iconst 1, 1) := by decide +kernel
theorem dX11_agree_130 : decode cX11_agree 130 = .ok (.iadd, 1) := by decide +kernel
theorem dX11_agree_131 : decode cX11_agree 131 = .ok (.iload 9, 2) := by decide +kernel
theorem dX11_agree_133 : decode cX11_agree 133 = .ok (.ifCond .eq 10, 3) := by decide +kernel
theorem dX11_agree_136 : decode cX11_agree 136 = .ok (.iload 6, 2) := by decide +kernel
theorem dX11_agree_138 : decode cX11_agree 138 = .ok (.iconst 1, 1) := by decide +kernel
theorem dX11_agree_139 : decode cX11_agree 139 = .ok (.iadd, 1) := by decide +kernel
theorem dX11_agree_140 : decode cX11_agree 140 = .ok (.goto 15, 3) := by decide +kernel
theorem dX11_agree_143 : decode cX11_agree 143 = .ok (.iload 8, 2) := by decide +kernel
theorem dX11_agree_145 : decode cX11_agree 145 = .ok (.aload_n 0, 1) := by decide +kernel
theorem dX11_agree_146 : decode cX11_agree 146 = .ok (.getfield 79, 3) := by decide +kernel
theorem dX11_agree_149 : decode cX11_agree 149 = .ok (.iload 7, 2) := by decide +kernel
theorem dX11_agree_151 : decode cX11_agree 151 = .ok (.iaload, 1) := by decide +kernel
theorem dX11_agree_152 : decode cX11_agree 152 = .ok (.invokestatic 243, 3) := by decide +kernel
theorem dX11_agree_155 : decode cX11_agree 155 = .ok (.iastore, 1) := by decide +kernel
theorem dX11_agree_156 : decode cX11_agree 156 = .ok (.iload 8, 2) := by decide +kernel
theorem dX11_agree_158 : decode cX11_agree 158 = .ok (.istore 6, 2) := by decide +kernel
theorem dX11_agree_160 : decode cX11_agree 160 = .ok (.iinc 7 1, 3) := by decide +kernel
theorem dX11_agree_163 : decode cX11_agree 163 = .ok (.goto (-104), 3) := by decide +kernel
theorem dX11_agree_166 : decode cX11_agree 166 = .ok (.iinc 5 1, 3) := by decide +kernel
theorem dX11_agree_169 : decode cX11_agree 169 = .ok (.goto (-125), 3) := by decide +kernel
theorem dX11_agree_172 : decode cX11_agree 172 = .ok (.aload_n 0, 1) := by decide +kernel
theorem dX11_agree_173 : decode cX11_agree 173 = .ok (.getfield 79, 3) := by decide +kernel
theorem dX11_agree_176 : decode cX11_agree 176 = .ok (.aload 4, 2) := by decide +kernel
theorem dX11_agree_178 : decode cX11_agree 178 = .ok (.getfield 187, 3) := by decide +kernel
theorem dX11_agree_181 : decode cX11_agree 181 = .ok (.iaload, 1) := by decide +kernel
theorem dX11_agree_182 : decode cX11_agree 182 = .ok (.ireturn, 1) := by decide +kernel
theorem dX11_atOdds_0 : decode cX11_atOdds 0 = .ok (.aload_n 0, 1) := by decide +kernel
theorem dX11_atOdds_1 : decode cX11_atOdds 1 = .ok (.iload_n 1, 1) := by decide +kernel
theorem dX11_atOdds_2 : decode cX11_atOdds 2 = .ok (.invokevirtual 138, 3) := by decide +kernel
theorem dX11_atOdds_5 : decode cX11_atOdds 5 = .ok (.ifCond .eq 11, 3) := by decide +kernel
theorem dX11_atOdds_8 : decode cX11_atOdds 8 = .ok (.aload_n 0, 1) := by decide +kernel
theorem dX11_atOdds_9 : decode cX11_atOdds 9 = .ok (.iload_n 2, 1) := by decide +kernel
theorem dX11_atOdds_10 : decode cX11_atOdds 10 = .ok (.invokevirtual 138, 3) := by decide +kernel
theorem dX11_atOdds_13 : decode cX11_atOdds 13 = .ok (.ifCond .ne 5, 3) := by decide +kernel
theorem dX11_atOdds_16 : decode cX11_atOdds 16 = .ok (.iconst (-1), 1) := by decide +kernel
theorem dX11_atOdds_17 : decode cX11_atOdds 17 = .ok (.ireturn, 1) := by decide +kernel
theorem dX11_atOdds_18 : decode cX11_atOdds 18 = .ok (.aload_n 0, 1) := by decide +kernel
theorem dX11_atOdds_19 : decode cX11_atOdds 19 = .ok (.getfield 79, 3) := by decide +kernel
theorem dX11_atOdds_22 : decode cX11_atOdds 22 = .ok (.iconst 0, 1) := by decide +kernel
theorem dX11_atOdds_23 : decode cX11_atOdds 23 = .ok (.invokestatic 238, 3) := by decide +kernel
theorem dX11_atOdds_26 : decode cX11_atOdds 26 = .ok (.aload_n 0, 1) := by decide +kernel
theorem dX11_atOdds_27 : decode cX11_atOdds 27 = .ok (.aload_n 0, 1) := by decide +kernel
theorem dX11_atOdds_28 : decode cX11_atOdds 28 = .ok (.getfield 11, 3) := by decide +kernel
theorem dX11_atOdds_31 : decode cX11_atOdds 31 = .ok (.iload_n 1, 1) := by decide +kernel
theorem dX11_atOdds_32 : decode cX11_atOdds 32 = .ok (.aaload, 1) := by decide +kernel
theorem dX11_atOdds_33 : decode cX11_atOdds 33 = .ok (.iconst 0, 1) := by decide +kernel
theorem dX11_atOdds_34 : decode cX11_atOdds 34 = .ok (.invokevirtual 246, 3) := by decide +kernel
theorem dX11_atOdds_37 : decode cX11_atOdds 37 = .ok (.aload_n 0, 1) := by decide +kernel
theorem dX11_atOdds_38 : decode cX11_atOdds 38 = .ok (.aload_n 0, 1) := by decide +kernel
theorem dX11_atOdds_39 : decode cX11_atOdds 39 = .ok (.getfield 11, 3) := by decide +kernel
theorem dX11_atOdds_42 : decode cX11_atOdds 42 = .ok (.iload_n 2, 1) := by decide +kernel
theorem dX11_atOdds_43 : decode cX11_atOdds 43 = .ok (.aaload, 1) := by decide +kernel
theorem dX11_atOdds_44 : decode cX11_atOdds 44 = .ok (.bipush 16, 2) := by decide +kernel
theorem dX11_atOdds_46 : decode cX11_atOdds 46 = .ok (.invokevirtual 246, 3) := by decide +kernel
theorem dX11_atOdds_49 : decode cX11_atOdds 49 = .ok (.iconst 0, 1) := by decide +kernel
theorem dX11_atOdds_50 : decode cX11_atOdds 50 = .ok (.istore_n 3, 1) := by decide +kernel
theorem dX11_atOdds_51 : decode cX11_atOdds 51 = .ok (.iconst 0, 1) := by decide +kernel
theorem dX11_atOdds_52 : decode cX11_atOdds 52 = .ok (.istore 4, 2) := by decide +kernel
theorem dX11_atOdds_54 : decode cX11_atOdds 54 = .ok (.iload 4, 2) := by decide +kernel
theorem dX11_atOdds_56 : decode cX11_atOdds 56 = .ok (.bipush 100, 2) := by decide +kernel
theorem dX11_atOdds_58 : decode cX11_atOdds 58 = .ok (.if_icmp .ge 54, 3) := by decide +kernel
theorem dX11_atOdds_61 : decode cX11_atOdds 61 = .ok (.aload_n 0, 1) := by decide +kernel
theorem dX11_atOdds_62 : decode cX11_atOdds 62 = .ok (.getfield 79, 3) := by decide +kernel
theorem dX11_atOdds_65 : decode cX11_atOdds 65 = .ok (.iload 4, 2) := by decide +kernel
theorem dX11_atOdds_67 : decode cX11_atOdds 67 = .ok (.iaload, 1) := by decide +kernel
theorem dX11_atOdds_68 : decode cX11_atOdds 68 = .ok (.ldc 250, 2) := by decide +kernel
theorem dX11_atOdds_70 : decode cX11_atOdds 70 = .ok (.iand, 1) := by decide +kernel
theorem dX11_atOdds_71 : decode cX11_atOdds 71 = .ok (.istore 5, 2) := by decide +kernel
theorem dX11_atOdds_73 : decode cX11_atOdds 73 = .ok (.aload_n 0, 1) := by decide +kernel
theorem dX11_atOdds_74 : decode cX11_atOdds 74 = .ok (.getfield 79, 3) := by decide +kernel
theorem dX11_atOdds_77 : decode cX11_atOdds 77 = .ok (.iload 4, 2) := by decide +kernel
theorem dX11_atOdds_79 : decode cX11_atOdds 79 = .ok (.iaload, 1) := by decide +kernel
theorem dX11_atOdds_80 : decode cX11_atOdds 80 = .ok (.bipush 16, 2) := by decide +kernel
theorem dX11_atOdds_82 : decode cX11_atOdds 82 = .ok (.iushr, 1) := by decide +kernel
theorem dX11_atOdds_83 : decode cX11_atOdds 83 = .ok (.istore 6, 2) := by decide +kernel
theorem dX11_atOdds_85 : decode cX11_atOdds 85 = .ok (.iload 5, 2) := by decide +kernel
theorem dX11_atOdds_87 : decode cX11_atOdds 87 = .ok (.ifCond .eq 19, 3) := by decide +kernel
theorem dX11_atOdds_90 : decode cX11_atOdds 90 = .ok (.iload 6, 2) := by decide +kernel
theorem dX11_atOdds_92 : decode cX11_atOdds 92 = .ok (.ifCond .eq 14, 3) := by decide +kernel
theorem dX11_atOdds_95 : decode cX11_atOdds 95 = .ok (.iload 5, 2) := by decide +kernel
theorem dX11_atOdds_97 : decode cX11_atOdds 97 = .ok (.iload 6, 2) := by decide +kernel
theorem dX11_atOdds_99 : decode cX11_atOdds 99 = .ok (.iand, 1) := by decide +kernel
theorem dX11_atOdds_100 : decode cX11_atOdds 100 = .ok (.ifCond .ne 6, 3) := by decide +kernel
theorem dX11_atOdds_103 : decode cX11_atOdds 103 = .ok (.iinc 3 1, 3) := by decide +kernel
theorem dX11_atOdds_106 : decode cX11_atOdds 106 = .ok (.iinc 4 1, 3) := by decide +kernel
theorem dX11_atOdds_109 : decode cX11_atOdds 109 = .ok (.goto (-55), 3) := by decide +kernel
theorem dX11_atOdds_112 : decode cX11_atOdds 112 = .ok (.iload_n 3, 1) := by decide +kernel
theorem dX11_atOdds_113 : decode cX11_atOdds 113 = .ok (.ireturn, 1) := by decide +kernel
theorem dX11_years_0 : decode cX11_years 0 = .ok (.iload_n 1, 1) := by decide +kernel
theorem dX11_years_1 : decode cX11_years 1 = .ok (.iconst 1, 1) := by decide +kernel
theorem dX11_years_2 : decode cX11_years 2 = .ok (.if_icmp .lt 18, 3) := by decide +kernel
theorem dX11_years_5 : decode cX11_years 5 = .ok (.iload_n 1, 1) := by decide +kernel
theorem dX11_years_6 : decode cX11_years 6 = .ok (.bipush 12, 2) := by decide +kernel
theorem dX11_years_8 : decode cX11_years 8 = .ok (.if_icmp .gt 12, 3) := by decide +kernel
theorem dX11_years_11 : decode cX11_years 11 = .ok (.iload_n 2, 1) := by decide +kernel
theorem dX11_years_12 : decode cX11_years 12 = .ok (.ifCond .lt 8, 3) := by decide +kernel
theorem dX11_years_15 : decode cX11_years 15 = .ok (.iload_n 2, 1) := by decide +kernel
theorem dX11_years_16 : decode cX11_years 16 = .ok (.iconst 1, 1) := by decide +kernel
theorem dX11_years_17 : decode cX11_years 17 = .ok (.if_icmp .le 5, 3) := by decide +kernel
theorem dX11_years_20 : decode cX11_years 20 = .ok (.iconst (-1), 1) := by decide +kernel
theorem dX11_years_21 : decode cX11_years 21 = .ok (.ireturn, 1) := by decide +kernel
theorem dX11_years_22 : decode cX11_years 22 = .ok (.aload_n 0, 1) := by decide +kernel
theorem dX11_years_23 : decode cX11_years 23 = .ok (.invokevirtual 251, 3) := by decide +kernel
theorem dX11_years_26 : decode cX11_years 26 = .ok (.iconst 0, 1) := by decide +kernel
theorem dX11_years_27 : decode cX11_years 27 = .ok (.istore_n 3, 1) := by decide +kernel
theorem dX11_years_28 : decode cX11_years 28 = .ok (.bipush (-2), 2) := by decide +kernel
theorem dX11_years_30 : decode cX11_years 30 = .ok (.istore 4, 2) := by decide +kernel
theorem dX11_years_32 : decode cX11_years 32 = .ok (.bipush 99, 2) := by decide +kernel
theorem dX11_years_34 : decode cX11_years 34 = .ok (.istore 5, 2) := by decide +kernel
theorem dX11_years_36 : decode cX11_years 36 = .ok (.iload 5, 2) := by decide +kernel
theorem dX11_years_38 : decode cX11_years 38 = .ok (.ifCond .lt 30, 3) := by decide +kernel
theorem dX11_years_41 : decode cX11_years 41 = .ok (.aload_n 0, 1) := by decide +kernel
theorem dX11_years_42 : decode cX11_years 42 = .ok (.getfield 79, 3) := by decide +kernel
theorem dX11_years_45 : decode cX11_years 45 = .ok (.iload 5, 2) := by decide +kernel
theorem dX11_years_47 : decode cX11_years 47 = .ok (.iaload, 1) := by decide +kernel
theorem dX11_years_48 : decode cX11_years 48 = .ok (.invokestatic 233, 3) := by decide +kernel
theorem dX11_years_51 : decode cX11_years 51 = .ok (.iload_n 1, 1) := by decide +kernel
theorem dX11_years_52 : decode cX11_years 52 = .ok (.if_icmp .lt 10, 3) := by decide +kernel
theorem dX11_years_55 : decode cX11_years 55 = .ok (.iinc 3 1, 3) := by decide +kernel
theorem dX11_years_58 : decode cX11_years 58 = .ok (.iload 5, 2) := by decide +kernel
theorem dX11_years_60 : decode cX11_years 60 = .ok (.istore 4, 2) := by decide +kernel
theorem dX11_years_62 : decode cX11_years 62 = .ok (.iinc 5 (-1), 3) := by decide +kernel
theorem dX11_years_65 : decode cX11_years 65 = .ok (.goto (-29), 3) := by decide +kernel
theorem dX11_years_68 : decode cX11_years 68 = .ok (.iload_n 2, 1) := by decide +kernel
theorem dX11_years_69 : decode cX11_years 69 = .ok (.ifCond .ne 7, 3) := by decide +kernel
theorem dX11_years_72 : decode cX11_years 72 = .ok (.iload_n 3, 1) := by decide +kernel
theorem dX11_years_73 : decode cX11_years 73 = .ok (.goto 5, 3) := by decide +kernel
theorem dX11_years_76 : decode cX11_years 76 = .ok (.iload 4, 2) := by decide +kernel
theorem dX11_years_78 : decode cX11_years 78 = .ok (.ireturn, 1) := by decide +kernel
theorem dX11_peak_0 : decode cX11_peak 0 = .ok (.iload_n 1, 1) := by decide +kernel
theorem dX11_peak_1 : decode cX11_peak 1 = .ok (.ifCond .lt 8, 3) := by decide +kernel
theorem dX11_peak_4 : decode cX11_peak 4 = .ok (.iload_n 1, 1) := by decide +kernel
theorem dX11_peak_5 : decode cX11_peak 5 = .ok (.iconst 1, 1) := by decide +kernel
theorem dX11_peak_6 : decode cX11_peak 6 = .ok (.if_icmp .le 5, 3) := by decide +kernel
theorem dX11_peak_9 : decode cX11_peak 9 = .ok (.iconst (-1), 1) := by decide +kernel
theorem dX11_peak_10 : decode cX11_peak 10 = .ok (.ireturn, 1) := by decide +kernel
theorem dX11_peak_11 : decode cX11_peak 11 = .ok (.aload_n 0, 1) := by decide +kernel
theorem dX11_peak_12 : decode cX11_peak 12 = .ok (.invokevirtual 254, 3) := by decide +kernel
theorem dX11_peak_15 : decode cX11_peak 15 = .ok (.iconst 0, 1) := by decide +kernel
theorem dX11_peak_16 : decode cX11_peak 16 = .ok (.istore_n 2, 1) := by decide +kernel
theorem dX11_peak_17 : decode cX11_peak 17 = .ok (.bipush (-2), 2) := by decide +kernel
theorem dX11_peak_19 : decode cX11_peak 19 = .ok (.istore_n 3, 1) := by decide +kernel
theorem dX11_peak_20 : decode cX11_peak 20 = .ok (.iconst 0, 1) := by decide +kernel
theorem dX11_peak_21 : decode cX11_peak 21 = .ok (.istore 4, 2) := by decide +kernel
theorem dX11_peak_23 : decode cX11_peak 23 = .ok (.iload 4, 2) := by decide +kernel
theorem dX11_peak_25 : decode cX11_peak 25 = .ok (.bipush 100, 2) := by decide +kernel
theorem dX11_peak_27 : decode cX11_peak 27 = .ok (.if_icmp .ge 31, 3) := by decide +kernel
theorem dX11_peak_30 : decode cX11_peak 30 = .ok (.aload_n 0, 1) := by decide +kernel
theorem dX11_peak_31 : decode cX11_peak 31 = .ok (.getfield 79, 3) := by decide +kernel
theorem dX11_peak_34 : decode cX11_peak 34 = .ok (.iload 4, 2) := by decide +kernel
theorem dX11_peak_36 : decode cX11_peak 36 = .ok (.iaload, 1) := by decide +kernel
theorem dX11_peak_37 : decode cX11_peak 37 = .ok (.iload_n 2, 1) := by decide +kernel
theorem dX11_peak_38 : decode cX11_peak 38 = .ok (.if_icmp .le 14, 3) := by decide +kernel
theorem dX11_peak_41 : decode cX11_peak 41 = .ok (.aload_n 0, 1) := by decide +kernel
theorem dX11_peak_42 : decode cX11_peak 42 = .ok (.getfield 79, 3) := by decide +kernel
theorem dX11_peak_45 : decode cX11_peak 45 = .ok (.iload 4, 2) := by decide +kernel
theorem dX11_peak_47 : decode cX11_peak 47 = .ok (.iaload, 1) := by decide +kernel
theorem dX11_peak_48 : decode cX11_peak 48 = .ok (.istore_n 2, 1) := by decide +kernel
theorem dX11_peak_49 : decode cX11_peak 49 = .ok (.iload 4, 2) := by decide +kernel
theorem dX11_peak_51 : decode cX11_peak 51 = .ok (.istore_n 3, 1) := by decide +kernel
theorem dX11_peak_52 : decode cX11_peak 52 = .ok (.iinc 4 1, 3) := by decide +kernel
theorem dX11_peak_55 : decode cX11_peak 55 = .ok (.goto (-32), 3) := by decide +kernel
theorem dX11_peak_58 : decode cX11_peak 58 = .ok (.iload_n 1, 1) := by decide +kernel
theorem dX11_peak_59 : decode cX11_peak 59 = .ok (.ifCond .ne 7, 3) := by decide +kernel
theorem dX11_peak_62 : decode cX11_peak 62 = .ok (.iload_n 3, 1) := by decide +kernel
theorem dX11_peak_63 : decode cX11_peak 63 = .ok (.goto 4, 3) := by decide +kernel
theorem dX11_peak_66 : decode cX11_peak 66 = .ok (.iload_n 2, 1) := by decide +kernel
theorem dX11_peak_67 : decode cX11_peak 67 = .ok (.ireturn, 1) := by decide +kernel
theorem dX11_who_0 : decode cX11_who 0 = .ok (.iload_n 1, 1) := by decide +kernel
theorem dX11_who_1 : decode cX11_who 1 = .ok (.ifCond .lt 9, 3) := by decide +kernel
theorem dX11_who_4 : decode cX11_who 4 = .ok (.iload_n 1, 1) := by decide +kernel
theorem dX11_who_5 : decode cX11_who 5 = .ok (.bipush 16, 2) := by decide +kernel
theorem dX11_who_7 : decode cX11_who 7 = .ok (.if_icmp .lt 5, 3) := by decide +kernel
theorem dX11_who_10 : decode cX11_who 10 = .ok (.iconst (-1), 1) := by decide +kernel
theorem dX11_who_11 : decode cX11_who 11 = .ok (.ireturn, 1) := by decide +kernel
theorem dX11_who_12 : decode cX11_who 12 = .ok (.iconst 0, 1) := by decide +kernel
theorem dX11_who_13 : decode cX11_who 13 = .ok (.istore_n 2, 1) := by decide +kernel
theorem dX11_who_14 : decode cX11_who 14 = .ok (.iconst 0, 1) := by decide +kernel
theorem dX11_who_15 : decode cX11_who 15 = .ok (.istore_n 3, 1) := by decide +kernel
theorem dX11_who_16 : decode cX11_who 16 = .ok (.iload_n 3, 1) := by decide +kernel
theorem dX11_who_17 : decode cX11_who 17 = .ok (.bipush 12, 2) := by decide +kernel
theorem dX11_who_19 : decode cX11_who 19 = .ok (.if_icmp .ge 32, 3) := by decide +kernel
theorem dX11_who_22 : decode cX11_who 22 = .ok (.aload_n 0, 1) := by decide +kernel
theorem dX11_who_23 : decode cX11_who 23 = .ok (.getfield 11, 3) := by decide +kernel
theorem dX11_who_26 : decode cX11_who 26 = .ok (.iload_n 3, 1) := by decide +kernel
theorem dX11_who_27 : decode cX11_who 27 = .ok (.aaload, 1) := by decide +kernel
theorem dX11_who_28 : decode cX11_who 28 = .ok (.invokevirtual 202, 3) := by decide +kernel
theorem dX11_who_31 : decode cX11_who 31 = .ok (.iload_n 1, 1) := by decide +kernel
theorem dX11_who_32 : decode cX11_who 32 = .ok (.ishr, 1) := by decide +kernel
theorem dX11_who_33 : decode cX11_who 33 = .ok (.iconst 1, 1) := by decide +kernel
theorem dX11_who_34 : decode cX11_who 34 = .ok (.iand, 1) := by decide +kernel
theorem dX11_who_35 : decode cX11_who 35 = .ok (.iconst 1, 1) := by decide +kernel
theorem dX11_who_36 : decode cX11_who 36 = .ok (.if_icmp .ne 9, 3) := by decide +kernel
theorem dX11_who_39 : decode cX11_who 39 = .ok (.iload_n 2, 1) := by decide +kernel
theorem dX11_who_40 : decode cX11_who 40 = .ok (.iconst 1, 1) := by decide +kernel
theorem dX11_who_41 : decode cX11_who 41 = .ok (.iload_n 3, 1) := by decide +kernel
theorem dX11_who_42 : decode cX11_who 42 = .ok (.ishl, 1) := by decide +kernel
theorem dX11_who_43 : decode cX11_who 43 = .ok (.ior, 1) := by decide +kernel
theorem dX11_who_44 : decode cX11_who 44 = .ok (.istore_n 2, 1) := by decide +kernel
theorem dX11_who_45 : decode cX11_who 45 = .ok (.iinc 3 1, 3) := by decide +kernel
theorem dX11_who_48 : decode cX11_who 48 = .ok (.goto (-32), 3) := by decide +kernel
theorem dX11_who_51 : decode cX11_who 51 = .ok (.iload_n 2, 1) := by decide +kernel
theorem dX11_who_52 : decode cX11_who 52 = .ok (.ireturn, 1) := by decide +kernel
theorem dX11_jury_0 : decode cX11_jury 0 = .ok (.iload_n 2, 1) := by decide +kernel
theorem dX11_jury_1 : decode cX11_jury 1 = .ok (.ifCond .lt 20, 3) := by decide +kernel
theorem dX11_jury_4 : decode cX11_jury 4 = .ok (.iload_n 2, 1) := by decide +kernel
theorem dX11_jury_5 : decode cX11_jury 5 = .ok (.bipush 12, 2) := by decide +kernel
theorem dX11_jury_7 : decode cX11_jury 7 = .ok (.if_icmp .gt 14, 3) := by decide +kernel
theorem dX11_jury_10 : decode cX11_jury 10 = .ok (.aload_n 0, 1) := by decide +kernel
theorem dX11_jury_11 : decode cX11_jury 11 = .ok (.iload_n 1, 1) := by decide +kernel
theorem dX11_jury_12 : decode cX11_jury 12 = .ok (.iconst 1, 1) := by decide +kernel
theorem dX11_jury_13 : decode cX11_jury 13 = .ok (.bipush 12, 2) := by decide +kernel
theorem dX11_jury_15 : decode cX11_jury 15 = .ok (.invokevirtual 113, 3) := by decide +kernel
theorem dX11_jury_18 : decode cX11_jury 18 = .ok (.ifCond .ne 7, 3) := by decide +kernel
theorem dX11_jury_21 : decode cX11_jury 21 = .ok (.ldc2_w 257, 3) := by decide +kernel
theorem dX11_jury_24 : decode cX11_jury 24 = .ok (.lreturn, 1) := by decide +kernel
theorem dX11_jury_25 : decode cX11_jury 25 = .ok (.aload_n 0, 1) := by decide +kernel
theorem dX11_jury_26 : decode cX11_jury 26 = .ok (.iconst 0, 1) := by decide +kernel
theorem dX11_jury_27 : decode cX11_jury 27 = .ok (.putfield 19, 3) := by decide +kernel
theorem dX11_jury_30 : decode cX11_jury 30 = .ok (.aload_n 0, 1) := by decide +kernel
theorem dX11_jury_31 : decode cX11_jury 31 = .ok (.iload_n 1, 1) := by decide +kernel
theorem dX11_jury_32 : decode cX11_jury 32 = .ok (.iconst 0, 1) := by decide +kernel
theorem dX11_jury_33 : decode cX11_jury 33 = .ok (.iconst 1, 1) := by decide +kernel
theorem dX11_jury_34 : decode cX11_jury 34 = .ok (.bipush 10, 2) := by decide +kernel
theorem dX11_jury_36 : decode cX11_jury 36 = .ok (.invokevirtual 259, 3) := by decide +kernel
theorem dX11_jury_39 : decode cX11_jury 39 = .ok (.ifCond .eq 7, 3) := by decide +kernel
theorem dX11_jury_42 : decode cX11_jury 42 = .ok (.ldc2_w 263, 3) := by decide +kernel
theorem dX11_jury_45 : decode cX11_jury 45 = .ok (.lreturn, 1) := by decide +kernel
theorem dX11_jury_46 : decode cX11_jury 46 = .ok (.aload_n 0, 1) := by decide +kernel
theorem dX11_jury_47 : decode cX11_jury 47 = .ok (.iload_n 1, 1) := by decide +kernel
theorem dX11_jury_48 : decode cX11_jury 48 = .ok (.invokevirtual 265, 3) := by decide +kernel
theorem dX11_jury_51 : decode cX11_jury 51 = .ok (.lconst 0, 1) := by decide +kernel
theorem dX11_jury_52 : decode cX11_jury 52 = .ok (.lstore_n 3, 1) := by decide +kernel
theorem dX11_jury_53 : decode cX11_jury 53 = .ok (.iload_n 2, 1) := by decide +kernel
theorem dX11_jury_54 : decode cX11_jury 54 = .ok (.istore 5, 2) := by decide +kernel
theorem dX11_jury_56 : decode cX11_jury 56 = .ok (.iload 5, 2) := by decide +kernel
theorem dX11_jury_58 : decode cX11_jury 58 = .ok (.iload_n 1, 1) := by decide +kernel
theorem dX11_jury_59 : decode cX11_jury 59 = .ok (.if_icmp .gt 19, 3) := by decide +kernel
theorem dX11_jury_62 : decode cX11_jury 62 = .ok (.lload_n 3, 1) := by decide +kernel
theorem dX11_jury_63 : decode cX11_jury 63 = .ok (.aload_n 0, 1) := by decide +kernel
theorem dX11_jury_64 : decode cX11_jury 64 = .ok (.getfield 82, 3) := by decide +kernel
theorem dX11_jury_67 : decode cX11_jury 67 = .ok (.iload 5, 2) := by decide +kernel
theorem dX11_jury_69 : decode cX11_jury 69 = .ok (.laload, 1) := by decide +kernel
theorem dX11_jury_70 : decode cX11_jury 70 = .ok (.ladd, 1) := by decide +kernel
theorem dX11_jury_71 : decode cX11_jury 71 = .ok (.lstore_n 3, 1) := by decide +kernel
theorem dX11_jury_72 : decode cX11_jury 72 = .ok (.iinc 5 1, 3) := by decide +kernel
theorem dX11_jury_75 : decode cX11_jury 75 = .ok (.goto (-19), 3) := by decide +kernel
theorem dX11_jury_78 : decode cX11_jury 78 = .ok (.lload_n 3, 1) := by decide +kernel
theorem dX11_jury_79 : decode cX11_jury 79 = .ok (.lreturn, 1) := by decide +kernel
theorem dX11_tasters_0 : decode cX11_tasters 0 = .ok (.iload_n 1, 1) := by decide +kernel
theorem dX11_tasters_1 : decode cX11_tasters 1 = .ok (.iconst 2, 1) := by decide +kernel
theorem dX11_tasters_2 : decode cX11_tasters 2 = .ok (.if_icmp .lt 24, 3) := by decide +kernel
theorem dX11_tasters_5 : decode cX11_tasters 5 = .ok (.iload_n 1, 1) := by decide +kernel
theorem dX11_tasters_6 : decode cX11_tasters 6 = .ok (.bipush 6, 2) := by decide +kernel
theorem dX11_tasters_8 : decode cX11_tasters 8 = .ok (.if_icmp .gt 18, 3) := by decide +kernel
theorem dX11_tasters_11 : decode cX11_tasters 11 = .ok (.iload_n 2, 1) := by decide +kernel
theorem dX11_tasters_12 : decode cX11_tasters 12 = .ok (.iconst 1, 1) := by decide +kernel
theorem dX11_tasters_13 : decode cX11_tasters 13 = .ok (.if_icmp .lt 13, 3) := by decide +kernel
theorem dX11_tasters_16 : decode cX11_tasters 16 = .ok (.iload_n 2, 1) := by decide +kernel
theorem dX11_tasters_17 : decode cX11_tasters 17 = .ok (.bipush 9, 2) := by decide +kernel
theorem dX11_tasters_19 : decode cX11_tasters 19 = .ok (.if_icmp .gt 7, 3) := by decide +kernel
theorem dX11_tasters_22 : decode cX11_tasters 22 = .ok (.iconst 1, 1) := by decide +kernel
theorem dX11_tasters_23 : decode cX11_tasters 23 = .ok (.goto 4, 3) := by decide +kernel
theorem dX11_tasters_26 : decode cX11_tasters 26 = .ok (.iconst 0, 1) := by decide +kernel
theorem dX11_tasters_27 : decode cX11_tasters 27 = .ok (.istore 4, 2) := by decide +kernel
theorem dX11_tasters_29 : decode cX11_tasters 29 = .ok (.iload 4, 2) := by decide +kernel
theorem dX11_tasters_31 : decode cX11_tasters 31 = .ok (.ifCond .eq 25, 3) := by decide +kernel
theorem dX11_tasters_34 : decode cX11_tasters 34 = .ok (.iload_n 3, 1) := by decide +kernel
theorem dX11_tasters_35 : decode cX11_tasters 35 = .ok (.iload_n 1, 1) := by decide +kernel
theorem dX11_tasters_36 : decode cX11_tasters 36 = .ok (.invokestatic 268, 3) := by decide +kernel
theorem dX11_tasters_39 : decode cX11_tasters 39 = .ok (.ifCond .eq 17, 3) := by decide +kernel
theorem dX11_tasters_42 : decode cX11_tasters 42 = .ok (.aload_n 0, 1) := by decide +kernel
theorem dX11_tasters_43 : decode cX11_tasters 43 = .ok (.iload_n 1, 1) := by decide +kernel
theorem dX11_tasters_44 : decode cX11_tasters 44 = .ok (.iload_n 2, 1) := by decide +kernel
theorem dX11_tasters_45 : decode cX11_tasters 45 = .ok (.imul, 1) := by decide +kernel
theorem dX11_tasters_46 : decode cX11_tasters 46 = .ok (.iconst 1, 1) := by decide +kernel
theorem dX11_tasters_47 : decode cX11_tasters 47 = .ok (.sipush 260, 3) := by decide +kernel
theorem dX11_tasters_50 : decode cX11_tasters 50 = .ok (.invokevirtual 113, 3) := by decide +kernel
theorem dX11_tasters_53 : decode cX11_tasters 53 = .ok (.ifCond .ne 5, 3) := by decide +kernel
theorem dX11_tasters_56 : decode cX11_tasters 56 = .ok (.iconst (-1), 1) := by decide +kernel
theorem dX11_tasters_57 : decode cX11_tasters 57 = .ok (.ireturn, 1) := by decide +kernel
theorem dX11_tasters_58 : decode cX11_tasters 58 = .ok (.aload_n 0, 1) := by decide +kernel
theorem dX11_tasters_59 : decode cX11_tasters 59 = .ok (.iconst 0, 1) := by decide +kernel
theorem dX11_tasters_60 : decode cX11_tasters 60 = .ok (.putfield 19, 3) := by decide +kernel
theorem dX11_tasters_63 : decode cX11_tasters 63 = .ok (.aload_n 0, 1) := by decide +kernel
theorem dX11_tasters_64 : decode cX11_tasters 64 = .ok (.getfield 61, 3) := by decide +kernel
theorem dX11_tasters_67 : decode cX11_tasters 67 = .ok (.aload_n 0, 1) := by decide +kernel
theorem dX11_tasters_68 : decode cX11_tasters 68 = .ok (.getfield 15, 3) := by decide +kernel
theorem dX11_tasters_71 : decode cX11_tasters 71 = .ok (.iload_n 1, 1) := by decide +kernel
theorem dX11_tasters_72 : decode cX11_tasters 72 = .ok (.iload_n 2, 1) := by decide +kernel
theorem dX11_tasters_73 : decode cX11_tasters 73 = .ok (.invokevirtual 272, 3) := by decide +kernel
theorem dX11_tasters_76 : decode cX11_tasters 76 = .ok (.ifCond .ne 6, 3) := by decide +kernel
theorem dX11_tasters_79 : decode cX11_tasters 79 = .ok (.bipush (-3), 2) := by decide +kernel
theorem dX11_tasters_81 : decode cX11_tasters 81 = .ok (.ireturn, 1) := by decide +kernel
theorem dX11_tasters_82 : decode cX11_tasters 82 = .ok (.aload_n 0, 1) := by decide +kernel
theorem dX11_tasters_83 : decode cX11_tasters 83 = .ok (.getfield 61, 3) := by decide +kernel
theorem dX11_tasters_86 : decode cX11_tasters 86 = .ok (.iload_n 1, 1) := by decide +kernel
theorem dX11_tasters_87 : decode cX11_tasters 87 = .ok (.invokevirtual 276, 3) := by decide +kernel
theorem dX11_tasters_90 : decode cX11_tasters 90 = .ok (.iload_n 3, 1) := by decide +kernel
theorem dX11_tasters_91 : decode cX11_tasters 91 = .ok (.bipush 100, 2) := by decide +kernel
theorem dX11_tasters_93 : decode cX11_tasters 93 = .ok (.if_icmp .ne 13, 3) := by decide +kernel
theorem dX11_tasters_96 : decode cX11_tasters 96 = .ok (.aload_n 0, 1) := by decide +kernel
theorem dX11_tasters_97 : decode cX11_tasters 97 = .ok (.getfield 61, 3) := by decide +kernel
theorem dX11_tasters_100 : decode cX11_tasters 100 = .ok (.invokevirtual 279, 3) := by decide +kernel
theorem dX11_tasters_103 : decode cX11_tasters 103 = .ok (.goto 11, 3) := by decide +kernel
theorem dX11_tasters_106 : decode cX11_tasters 106 = .ok (.aload_n 0, 1) := by decide +kernel
theorem dX11_tasters_107 : decode cX11_tasters 107 = .ok (.getfield 61, 3) := by decide +kernel
theorem dX11_tasters_110 : decode cX11_tasters 110 = .ok (.iload_n 3, 1) := by decide +kernel
theorem dX11_tasters_111 : decode cX11_tasters 111 = .ok (.invokevirtual 282, 3) := by decide +kernel
theorem dX11_tasters_114 : decode cX11_tasters 114 = .ok (.ireturn, 1) := by decide +kernel
theorem dX11_jugs_0 : decode cX11_jugs 0 = .ok (.iload_n 1, 1) := by decide +kernel
theorem dX11_jugs_1 : decode cX11_jugs 1 = .ok (.ifCond .lt 31, 3) := by decide +kernel
theorem dX11_jugs_4 : decode cX11_jugs 4 = .ok (.iload_n 1, 1) := by decide +kernel
theorem dX11_jugs_5 : decode cX11_jugs 5 = .ok (.bipush 20, 2) := by decide +kernel
theorem dX11_jugs_7 : decode cX11_jugs 7 = .ok (.if_icmp .gt 25, 3) := by decide +kernel
theorem dX11_jugs_10 : decode cX11_jugs 10 = .ok (.iload_n 2, 1) := by decide +kernel
theorem dX11_jugs_11 : decode cX11_jugs 11 = .ok (.ifCond .lt 21, 3) := by decide +kernel
theorem dX11_jugs_14 : decode cX11_jugs 14 = .ok (.iload_n 2, 1) := by decide +kernel
theorem dX11_jugs_15 : decode cX11_jugs 15 = .ok (.iconst 1, 1) := by decide +kernel
theorem dX11_jugs_16 : decode cX11_jugs 16 = .ok (.if_icmp .gt 16, 3) := by decide +kernel
theorem dX11_jugs_19 : decode cX11_jugs 19 = .ok (.aload_n 0, 1) := by decide +kernel
theorem dX11_jugs_20 : decode cX11_jugs 20 = .ok (.bipush 6, 2) := by decide +kernel
theorem dX11_jugs_22 : decode cX11_jugs 22 = .ok (.bipush 6, 2) := by decide +kernel
theorem dX11_jugs_24 : decode cX11_jugs 24 = .ok (.bipush 6, 2) := by decide +kernel
theorem dX11_jugs_26 : decode cX11_jugs 26 = .ok (.invokevirtual 113, 3) := by decide +kernel
theorem dX11_jugs_29 : decode cX11_jugs 29 = .ok (.ifCond .ne 5, 3) := by decide +kernel
theorem dX11_jugs_32 : decode cX11_jugs 32 = .ok (.iconst (-1), 1) := by decide +kernel
theorem dX11_jugs_33 : decode cX11_jugs 33 = .ok (.ireturn, 1) := by decide +kernel
theorem dX11_jugs_34 : decode cX11_jugs 34 = .ok (.aload_n 0, 1) := by decide +kernel
theorem dX11_jugs_35 : decode cX11_jugs 35 = .ok (.iconst 0, 1) := by decide +kernel
theorem dX11_jugs_36 : decode cX11_jugs 36 = .ok (.putfield 19, 3) := by decide +kernel
theorem dX11_jugs_39 : decode cX11_jugs 39 = .ok (.aload_n 0, 1) := by decide +kernel
theorem dX11_jugs_40 : decode cX11_jugs 40 = .ok (.getfield 75, 3) := by decide +kernel
theorem dX11_jugs_43 : decode cX11_jugs 43 = .ok (.aload_n 0, 1) := by decide +kernel
theorem dX11_jugs_44 : decode cX11_jugs 44 = .ok (.getfield 15, 3) := by decide +kernel
theorem dX11_jugs_47 : decode cX11_jugs 47 = .ok (.invokevirtual 285, 3) := by decide +kernel
theorem dX11_jugs_50 : decode cX11_jugs 50 = .ok (.ifCond .ne 6, 3) := by decide +kernel
theorem dX11_jugs_53 : decode cX11_jugs 53 = .ok (.bipush (-3), 2) := by decide +kernel
theorem dX11_jugs_55 : decode cX11_jugs 55 = .ok (.ireturn, 1) := by decide +kernel
theorem dX11_jugs_56 : decode cX11_jugs 56 = .ok (.aload_n 0, 1) := by decide +kernel
theorem dX11_jugs_57 : decode cX11_jugs 57 = .ok (.getfield 75, 3) := by decide +kernel
theorem dX11_jugs_60 : decode cX11_jugs 60 = .ok (.invokevirtual 288, 3) := by decide +kernel
theorem dX11_jugs_63 : decode cX11_jugs 63 = .ok (.iload_n 2, 1) := by decide +kernel
theorem dX11_jugs_64 : decode cX11_jugs 64 = .ok (.ifCond .ne 14, 3) := by decide +kernel
theorem dX11_jugs_67 : decode cX11_jugs 67 = .ok (.aload_n 0, 1) := by decide +kernel
theorem dX11_jugs_68 : decode cX11_jugs 68 = .ok (.getfield 75, 3) := by decide +kernel
theorem dX11_jugs_71 : decode cX11_jugs 71 = .ok (.iload_n 1, 1) := by decide +kernel
theorem dX11_jugs_72 : decode cX11_jugs 72 = .ok (.invokevirtual 291, 3) := by decide +kernel
theorem dX11_jugs_75 : decode cX11_jugs 75 = .ok (.goto 10, 3) := by decide +kernel
theorem dX11_jugs_78 : decode cX11_jugs 78 = .ok (.aload_n 0, 1) := by decide +kernel
theorem dX11_jugs_79 : decode cX11_jugs 79 = .ok (.getfield 75, 3) := by decide +kernel
theorem dX11_jugs_82 : decode cX11_jugs 82 = .ok (.getfield 294, 3) := by decide +kernel
theorem dX11_jugs_85 : decode cX11_jugs 85 = .ok (.ireturn, 1) := by decide +kernel
theorem dX11_cellar_0 : decode cX11_cellar 0 = .ok (.iload_n 1, 1) := by decide +kernel
theorem dX11_cellar_1 : decode cX11_cellar 1 = .ok (.iconst 1, 1) := by decide +kernel
theorem dX11_cellar_2 : decode cX11_cellar 2 = .ok (.if_icmp .lt 23, 3) := by decide +kernel
theorem dX11_cellar_5 : decode cX11_cellar 5 = .ok (.iload_n 1, 1) := by decide +kernel
theorem dX11_cellar_6 : decode cX11_cellar 6 = .ok (.bipush 8, 2) := by decide +kernel
theorem dX11_cellar_8 : decode cX11_cellar 8 = .ok (.if_icmp .gt 17, 3) := by decide +kernel
theorem dX11_cellar_11 : decode cX11_cellar 11 = .ok (.iload_n 2, 1) := by decide +kernel
theorem dX11_cellar_12 : decode cX11_cellar 12 = .ok (.ifCond .lt 13, 3) := by decide +kernel
theorem dX11_cellar_15 : decode cX11_cellar 15 = .ok (.iload_n 2, 1) := by decide +kernel
theorem dX11_cellar_16 : decode cX11_cellar 16 = .ok (.bipush 100, 2) := by decide +kernel
theorem dX11_cellar_18 : decode cX11_cellar 18 = .ok (.if_icmp .ge 7, 3) := by decide +kernel
theorem dX11_cellar_21 : decode cX11_cellar 21 = .ok (.iconst 1, 1) := by decide +kernel
theorem dX11_cellar_22 : decode cX11_cellar 22 = .ok (.goto 4, 3) := by decide +kernel
theorem dX11_cellar_25 : decode cX11_cellar 25 = .ok (.iconst 0, 1) := by decide +kernel
theorem dX11_cellar_26 : decode cX11_cellar 26 = .ok (.istore 4, 2) := by decide +kernel
theorem dX11_cellar_28 : decode cX11_cellar 28 = .ok (.iload 4, 2) := by decide +kernel
theorem dX11_cellar_30 : decode cX11_cellar 30 = .ok (.ifCond .eq 24, 3) := by decide +kernel
theorem dX11_cellar_33 : decode cX11_cellar 33 = .ok (.iload_n 3, 1) := by decide +kernel
theorem dX11_cellar_34 : decode cX11_cellar 34 = .ok (.iload_n 1, 1) := by decide +kernel
theorem dX11_cellar_35 : decode cX11_cellar 35 = .ok (.invokestatic 268, 3) := by decide +kernel
theorem dX11_cellar_38 : decode cX11_cellar 38 = .ok (.ifCond .eq 16, 3) := by decide +kernel
theorem dX11_cellar_41 : decode cX11_cellar 41 = .ok (.aload_n 0, 1) := by decide +kernel
theorem dX11_cellar_42 : decode cX11_cellar 42 = .ok (.iconst 2, 1) := by decide +kernel
theorem dX11_cellar_43 : decode cX11_cellar 43 = .ok (.iload_n 1, 1) := by decide +kernel
theorem dX11_cellar_44 : decode cX11_cellar 44 = .ok (.imul, 1) := by decide +kernel
theorem dX11_cellar_45 : decode cX11_cellar 45 = .ok (.iconst 2, 1) := by decide +kernel
theorem dX11_cellar_46 : decode cX11_cellar 46 = .ok (.bipush 16, 2) := by decide +kernel
theorem dX11_cellar_48 : decode cX11_cellar 48 = .ok (.invokevirtual 113, 3) := by decide +kernel
theorem dX11_cellar_51 : decode cX11_cellar 51 = .ok (.ifCond .ne 5, 3) := by decide +kernel
theorem dX11_cellar_54 : decode cX11_cellar 54 = .ok (.iconst (-1), 1) := by decide +kernel
theorem dX11_cellar_55 : decode cX11_cellar 55 = .ok (.ireturn, 1) := by decide +kernel
theorem dX11_cellar_56 : decode cX11_cellar 56 = .ok (.aload_n 0, 1) := by decide +kernel
theorem dX11_cellar_57 : decode cX11_cellar 57 = .ok (.iconst 0, 1) := by decide +kernel
theorem dX11_cellar_58 : decode cX11_cellar 58 = .ok (.putfield 19, 3) := by decide +kernel
theorem dX11_cellar_61 : decode cX11_cellar 61 = .ok (.aload_n 0, 1) := by decide +kernel
theorem dX11_cellar_62 : decode cX11_cellar 62 = .ok (.iconst 2, 1) := by decide +kernel
theorem dX11_cellar_63 : decode cX11_cellar 63 = .ok (.iload_n 1, 1) := by decide +kernel
theorem dX11_cellar_64 : decode cX11_cellar 64 = .ok (.imul, 1) := by decide +kernel
theorem dX11_cellar_65 : decode cX11_cellar 65 = .ok (.iconst 0, 1) := by decide +kernel
theorem dX11_cellar_66 : decode cX11_cellar 66 = .ok (.iconst 2, 1) := by decide +kernel
theorem dX11_cellar_67 : decode cX11_cellar 67 = .ok (.bipush 99, 2) := by decide +kernel
theorem dX11_cellar_69 : decode cX11_cellar 69 = .ok (.invokevirtual 259, 3) := by decide +kernel
theorem dX11_cellar_72 : decode cX11_cellar 72 = .ok (.ifCond .ne 17, 3) := by decide +kernel
theorem dX11_cellar_75 : decode cX11_cellar 75 = .ok (.aload_n 0, 1) := by decide +kernel
theorem dX11_cellar_76 : decode cX11_cellar 76 = .ok (.iconst 2, 1) := by decide +kernel
theorem dX11_cellar_77 : decode cX11_cellar 77 = .ok (.iload_n 1, 1) := by decide +kernel
theorem dX11_cellar_78 : decode cX11_cellar 78 = .ok (.imul, 1) := by decide +kernel
theorem dX11_cellar_79 : decode cX11_cellar 79 = .ok (.iconst 1, 1) := by decide +kernel
theorem dX11_cellar_80 : decode cX11_cellar 80 = .ok (.iconst 2, 1) := by decide +kernel
theorem dX11_cellar_81 : decode cX11_cellar 81 = .ok (.bipush 50, 2) := by decide +kernel
theorem dX11_cellar_83 : decode cX11_cellar 83 = .ok (.invokevirtual 259, 3) := by decide +kernel
theorem dX11_cellar_86 : decode cX11_cellar 86 = .ok (.ifCond .eq 6, 3) := by decide +kernel
theorem dX11_cellar_89 : decode cX11_cellar 89 = .ok (.bipush (-3), 2) := by decide +kernel
theorem dX11_cellar_91 : decode cX11_cellar 91 = .ok (.ireturn, 1) := by decide +kernel
theorem dX11_cellar_92 : decode cX11_cellar 92 = .ok (.aload_n 0, 1) := by decide +kernel
theorem dX11_cellar_93 : decode cX11_cellar 93 = .ok (.getfield 68, 3) := by decide +kernel
theorem dX11_cellar_96 : decode cX11_cellar 96 = .ok (.aload_n 0, 1) := by decide +kernel
theorem dX11_cellar_97 : decode cX11_cellar 97 = .ok (.getfield 15, 3) := by decide +kernel
theorem dX11_cellar_100 : decode cX11_cellar 100 = .ok (.iload_n 1, 1) := by decide +kernel
theorem dX11_cellar_101 : decode cX11_cellar 101 = .ok (.iload_n 2, 1) := by decide +kernel
theorem dX11_cellar_102 : decode cX11_cellar 102 = .ok (.invokevirtual 297, 3) := by decide +kernel
theorem dX11_cellar_105 : decode cX11_cellar 105 = .ok (.aload_n 0, 1) := by decide +kernel
theorem dX11_cellar_106 : decode cX11_cellar 106 = .ok (.getfield 68, 3) := by decide +kernel
theorem dX11_cellar_109 : decode cX11_cellar 109 = .ok (.iload_n 1, 1) := by decide +kernel
theorem dX11_cellar_110 : decode cX11_cellar 110 = .ok (.invokevirtual 301, 3) := by decide +kernel
theorem dX11_cellar_113 : decode cX11_cellar 113 = .ok (.iload_n 3, 1) := by decide +kernel
theorem dX11_cellar_114 : decode cX11_cellar 114 = .ok (.bipush 100, 2) := by decide +kernel
theorem dX11_cellar_116 : decode cX11_cellar 116 = .ok (.if_icmp .ne 13, 3) := by decide +kernel
theorem dX11_cellar_119 : decode cX11_cellar 119 = .ok (.aload_n 0, 1) := by decide +kernel
theorem dX11_cellar_120 : decode cX11_cellar 120 = .ok (.getfield 68, 3) := by decide +kernel
theorem dX11_cellar_123 : decode cX11_cellar 123 = .ok (.invokevirtual 302, 3) := by decide +kernel
theorem dX11_cellar_126 : decode cX11_cellar 126 = .ok (.goto 11, 3) := by decide +kernel
theorem dX11_cellar_129 : decode cX11_cellar 129 = .ok (.aload_n 0, 1) := by decide +kernel
theorem dX11_cellar_130 : decode cX11_cellar 130 = .ok (.getfield 68, 3) := by decide +kernel
theorem dX11_cellar_133 : decode cX11_cellar 133 = .ok (.iload_n 3, 1) := by decide +kernel
theorem dX11_cellar_134 : decode cX11_cellar 134 = .ok (.invokevirtual 303, 3) := by decide +kernel
theorem dX11_cellar_137 : decode cX11_cellar 137 = .ok (.ireturn, 1) := by decide +kernel
theorem dX11_wear_0 : decode cX11_wear 0 = .ok (.iload_n 2, 1) := by decide +kernel
theorem dX11_wear_1 : decode cX11_wear 1 = .ok (.ifCond .lt 22, 3) := by decide +kernel
theorem dX11_wear_4 : decode cX11_wear 4 = .ok (.iload_n 2, 1) := by decide +kernel
theorem dX11_wear_5 : decode cX11_wear 5 = .ok (.bipush 99, 2) := by decide +kernel
theorem dX11_wear_7 : decode cX11_wear 7 = .ok (.if_icmp .gt 16, 3) := by decide +kernel
theorem dX11_wear_10 : decode cX11_wear 10 = .ok (.iload_n 3, 1) := by decide +kernel
theorem dX11_wear_11 : decode cX11_wear 11 = .ok (.ifCond .lt 12, 3) := by decide +kernel
theorem dX11_wear_14 : decode cX11_wear 14 = .ok (.iload_n 3, 1) := by decide +kernel
theorem dX11_wear_15 : decode cX11_wear 15 = .ok (.iconst 1, 1) := by decide +kernel
theorem dX11_wear_16 : decode cX11_wear 16 = .ok (.if_icmp .gt 7, 3) := by decide +kernel
theorem dX11_wear_19 : decode cX11_wear 19 = .ok (.iconst 1, 1) := by decide +kernel
theorem dX11_wear_20 : decode cX11_wear 20 = .ok (.goto 4, 3) := by decide +kernel
theorem dX11_wear_23 : decode cX11_wear 23 = .ok (.iconst 0, 1) := by decide +kernel
theorem dX11_wear_24 : decode cX11_wear 24 = .ok (.istore 4, 2) := by decide +kernel
theorem dX11_wear_26 : decode cX11_wear 26 = .ok (.iload 4, 2) := by decide +kernel
theorem dX11_wear_28 : decode cX11_wear 28 = .ok (.ifCond .eq 14, 3) := by decide +kernel
theorem dX11_wear_31 : decode cX11_wear 31 = .ok (.aload_n 0, 1) := by decide +kernel
theorem dX11_wear_32 : decode cX11_wear 32 = .ok (.iload_n 1, 1) := by decide +kernel
theorem dX11_wear_33 : decode cX11_wear 33 = .ok (.iconst 1, 1) := by decide +kernel
theorem dX11_wear_34 : decode cX11_wear 34 = .ok (.bipush 10, 2) := by decide +kernel
theorem dX11_wear_36 : decode cX11_wear 36 = .ok (.invokevirtual 113, 3) := by decide +kernel
theorem dX11_wear_39 : decode cX11_wear 39 = .ok (.ifCond .ne 5, 3) := by decide +kernel
theorem dX11_wear_42 : decode cX11_wear 42 = .ok (.iconst (-1), 1) := by decide +kernel
theorem dX11_wear_43 : decode cX11_wear 43 = .ok (.ireturn, 1) := by decide +kernel
theorem dX11_wear_44 : decode cX11_wear 44 = .ok (.aload_n 0, 1) := by decide +kernel
theorem dX11_wear_45 : decode cX11_wear 45 = .ok (.iconst 0, 1) := by decide +kernel
theorem dX11_wear_46 : decode cX11_wear 46 = .ok (.putfield 19, 3) := by decide +kernel
theorem dX11_wear_49 : decode cX11_wear 49 = .ok (.aload_n 0, 1) := by decide +kernel
theorem dX11_wear_50 : decode cX11_wear 50 = .ok (.iload_n 1, 1) := by decide +kernel
theorem dX11_wear_51 : decode cX11_wear 51 = .ok (.iconst 0, 1) := by decide +kernel
theorem dX11_wear_52 : decode cX11_wear 52 = .ok (.iconst 1, 1) := by decide +kernel
theorem dX11_wear_53 : decode cX11_wear 53 = .ok (.bipush 9, 2) := by decide +kernel
theorem dX11_wear_55 : decode cX11_wear 55 = .ok (.invokevirtual 259, 3) := by decide +kernel
theorem dX11_wear_58 : decode cX11_wear 58 = .ok (.ifCond .eq 6, 3) := by decide +kernel
theorem dX11_wear_61 : decode cX11_wear 61 = .ok (.bipush (-3), 2) := by decide +kernel
theorem dX11_wear_63 : decode cX11_wear 63 = .ok (.ireturn, 1) := by decide +kernel
theorem dX11_wear_64 : decode cX11_wear 64 = .ok (.aload_n 0, 1) := by decide +kernel
theorem dX11_wear_65 : decode cX11_wear 65 = .ok (.iload_n 1, 1) := by decide +kernel
theorem dX11_wear_66 : decode cX11_wear 66 = .ok (.iload_n 2, 1) := by decide +kernel
theorem dX11_wear_67 : decode cX11_wear 67 = .ok (.iload_n 3, 1) := by decide +kernel
theorem dX11_wear_68 : decode cX11_wear 68 = .ok (.iconst 1, 1) := by decide +kernel
theorem dX11_wear_69 : decode cX11_wear 69 = .ok (.if_icmp .ne 7, 3) := by decide +kernel
theorem dX11_wear_72 : decode cX11_wear 72 = .ok (.iconst 1, 1) := by decide +kernel
theorem dX11_wear_73 : decode cX11_wear 73 = .ok (.goto 4, 3) := by decide +kernel
theorem dX11_wear_76 : decode cX11_wear 76 = .ok (.iconst 0, 1) := by decide +kernel
theorem dX11_wear_77 : decode cX11_wear 77 = .ok (.invokevirtual 304, 3) := by decide +kernel
theorem dX11_wear_80 : decode cX11_wear 80 = .ok (.ireturn, 1) := by decide +kernel
theorem dX11_seed_0 : decode cX11_seed 0 = .ok (.iload_n 1, 1) := by decide +kernel
theorem dX11_seed_1 : decode cX11_seed 1 = .ok (.ifCond .lt 9, 3) := by decide +kernel
theorem dX11_seed_4 : decode cX11_seed 4 = .ok (.iload_n 1, 1) := by decide +kernel
theorem dX11_seed_5 : decode cX11_seed 5 = .ok (.ldc 250, 2) := by decide +kernel
theorem dX11_seed_7 : decode cX11_seed 7 = .ok (.if_icmp .le 5, 3) := by decide +kernel
theorem dX11_seed_10 : decode cX11_seed 10 = .ok (.iconst 0, 1) := by decide +kernel
theorem dX11_seed_11 : decode cX11_seed 11 = .ok (.ireturn, 1) := by decide +kernel
theorem dX11_seed_12 : decode cX11_seed 12 = .ok (.aload_n 0, 1) := by decide +kernel
theorem dX11_seed_13 : decode cX11_seed 13 = .ok (.iload_n 1, 1) := by decide +kernel
theorem dX11_seed_14 : decode cX11_seed 14 = .ok (.putfield 92, 3) := by decide +kernel
theorem dX11_seed_17 : decode cX11_seed 17 = .ok (.iconst 1, 1) := by decide +kernel
theorem dX11_seed_18 : decode cX11_seed 18 = .ok (.ireturn, 1) := by decide +kernel
theorem dX11_keep_0 : decode cX11_keep 0 = .ok (.aload_n 0, 1) := by decide +kernel
theorem dX11_keep_1 : decode cX11_keep 1 = .ok (.iconst 1, 1) := by decide +kernel
theorem dX11_keep_2 : decode cX11_keep 2 = .ok (.putfield 95, 3) := by decide +kernel
theorem dX11_keep_5 : decode cX11_keep 5 = .ok (.aload_n 0, 1) := by decide +kernel
theorem dX11_keep_6 : decode cX11_keep 6 = .ok (.aload_n 0, 1) := by decide +kernel
theorem dX11_keep_7 : decode cX11_keep 7 = .ok (.getfield 86, 3) := by decide +kernel
theorem dX11_keep_10 : decode cX11_keep 10 = .ok (.putfield 99, 3) := by decide +kernel
theorem dX11_keep_13 : decode cX11_keep 13 = .ok (.aload_n 0, 1) := by decide +kernel
theorem dX11_keep_14 : decode cX11_keep 14 = .ok (.aload_n 0, 1) := by decide +kernel
theorem dX11_keep_15 : decode cX11_keep 15 = .ok (.getfield 89, 3) := by decide +kernel
theorem dX11_keep_18 : decode cX11_keep 18 = .ok (.putfield 102, 3) := by decide +kernel
theorem dX11_keep_21 : decode cX11_keep 21 = .ok (.aload_n 0, 1) := by decide +kernel
theorem dX11_keep_22 : decode cX11_keep 22 = .ok (.aload_n 0, 1) := by decide +kernel
theorem dX11_keep_23 : decode cX11_keep 23 = .ok (.getfield 92, 3) := by decide +kernel
theorem dX11_keep_26 : decode cX11_keep 26 = .ok (.putfield 105, 3) := by decide +kernel
theorem dX11_keep_29 : decode cX11_keep 29 = .ok (.iconst 0, 1) := by decide +kernel
theorem dX11_keep_30 : decode cX11_keep 30 = .ok (.istore_n 1, 1) := by decide +kernel
theorem dX11_keep_31 : decode cX11_keep 31 = .ok (.iload_n 1, 1) := by decide +kernel
theorem dX11_keep_32 : decode cX11_keep 32 = .ok (.bipush 12, 2) := by decide +kernel
theorem dX11_keep_34 : decode cX11_keep 34 = .ok (.if_icmp .ge 30, 3) := by decide +kernel
theorem dX11_keep_37 : decode cX11_keep 37 = .ok (.aload_n 0, 1) := by decide +kernel
theorem dX11_keep_38 : decode cX11_keep 38 = .ok (.getfield 11, 3) := by decide +kernel
theorem dX11_keep_41 : decode cX11_keep 41 = .ok (.iload_n 1, 1) := by decide +kernel
theorem dX11_keep_42 : decode cX11_keep 42 = .ok (.aaload, 1) := by decide +kernel
theorem dX11_keep_43 : decode cX11_keep 43 = .ok (.getfield 308, 3) := by decide +kernel
theorem dX11_keep_46 : decode cX11_keep 46 = .ok (.aload_n 0, 1) := by decide +kernel
theorem dX11_keep_47 : decode cX11_keep 47 = .ok (.getfield 11, 3) := by decide +kernel
theorem dX11_keep_50 : decode cX11_keep 50 = .ok (.iload_n 1, 1) := by decide +kernel
theorem dX11_keep_51 : decode cX11_keep 51 = .ok (.aaload, 1) := by decide +kernel
theorem dX11_keep_52 : decode cX11_keep 52 = .ok (.getfield 146, 3) := by decide +kernel
theorem dX11_keep_55 : decode cX11_keep 55 = .ok (.invokevirtual 153, 3) := by decide +kernel
theorem dX11_keep_58 : decode cX11_keep 58 = .ok (.iinc 1 1, 3) := by decide +kernel
theorem dX11_keep_61 : decode cX11_keep 61 = .ok (.goto (-30), 3) := by decide +kernel
theorem dX11_keep_64 : decode cX11_keep 64 = .ok (.aload_n 0, 1) := by decide +kernel
theorem dX11_keep_65 : decode cX11_keep 65 = .ok (.getfield 89, 3) := by decide +kernel
theorem dX11_keep_68 : decode cX11_keep 68 = .ok (.ireturn, 1) := by decide +kernel
theorem dX11_undo_0 : decode cX11_undo 0 = .ok (.aload_n 0, 1) := by decide +kernel
theorem dX11_undo_1 : decode cX11_undo 1 = .ok (.getfield 95, 3) := by decide +kernel
theorem dX11_undo_4 : decode cX11_undo 4 = .ok (.ifCond .ne 5, 3) := by decide +kernel
theorem dX11_undo_7 : decode cX11_undo 7 = .ok (.iconst 0, 1) := by decide +kernel
theorem dX11_undo_8 : decode cX11_undo 8 = .ok (.ireturn, 1) := by decide +kernel
theorem dX11_undo_9 : decode cX11_undo 9 = .ok (.aload_n 0, 1) := by decide +kernel
theorem dX11_undo_10 : decode cX11_undo 10 = .ok (.aload_n 0, 1) := by decide +kernel
theorem dX11_undo_11 : decode cX11_undo 11 = .ok (.getfield 99, 3) := by decide +kernel
theorem dX11_undo_14 : decode cX11_undo 14 = .ok (.putfield 86, 3) := by decide +kernel
theorem dX11_undo_17 : decode cX11_undo 17 = .ok (.aload_n 0, 1) := by decide +kernel
theorem dX11_undo_18 : decode cX11_undo 18 = .ok (.aload_n 0, 1) := by decide +kernel
theorem dX11_undo_19 : decode cX11_undo 19 = .ok (.getfield 102, 3) := by decide +kernel
theorem dX11_undo_22 : decode cX11_undo 22 = .ok (.putfield 89, 3) := by decide +kernel
theorem dX11_undo_25 : decode cX11_undo 25 = .ok (.aload_n 0, 1) := by decide +kernel
theorem dX11_undo_26 : decode cX11_undo 26 = .ok (.aload_n 0, 1) := by decide +kernel
theorem dX11_undo_27 : decode cX11_undo 27 = .ok (.getfield 105, 3) := by decide +kernel
theorem dX11_undo_30 : decode cX11_undo 30 = .ok (.putfield 92, 3) := by decide +kernel
theorem dX11_undo_33 : decode cX11_undo 33 = .ok (.iconst 0, 1) := by decide +kernel
theorem dX11_undo_34 : decode cX11_undo 34 = .ok (.istore_n 1, 1) := by decide +kernel
theorem dX11_undo_35 : decode cX11_undo 35 = .ok (.iload_n 1, 1) := by decide +kernel
theorem dX11_undo_36 : decode cX11_undo 36 = .ok (.bipush 12, 2) := by decide +kernel
theorem dX11_undo_38 : decode cX11_undo 38 = .ok (.if_icmp .ge 18, 3) := by decide +kernel
theorem dX11_undo_41 : decode cX11_undo 41 = .ok (.aload_n 0, 1) := by decide +kernel
theorem dX11_undo_42 : decode cX11_undo 42 = .ok (.getfield 11, 3) := by decide +kernel
theorem dX11_undo_45 : decode cX11_undo 45 = .ok (.iload_n 1, 1) := by decide +kernel
theorem dX11_undo_46 : decode cX11_undo 46 = .ok (.aaload, 1) := by decide +kernel
theorem dX11_undo_47 : decode cX11_undo 47 = .ok (.invokevirtual 311, 3) := by decide +kernel
theorem dX11_undo_50 : decode cX11_undo 50 = .ok (.iinc 1 1, 3) := by decide +kernel
theorem dX11_undo_53 : decode cX11_undo 53 = .ok (.goto (-18), 3) := by decide +kernel
theorem dX11_undo_56 : decode cX11_undo 56 = .ok (.iconst 1, 1) := by decide +kernel
theorem dX11_undo_57 : decode cX11_undo 57 = .ok (.ireturn, 1) := by decide +kernel
theorem dX11_check_0 : decode cX11_check 0 = .ok (.aload_n 0, 1) := by decide +kernel
theorem dX11_check_1 : decode cX11_check 1 = .ok (.iload_n 1, 1) := by decide +kernel
theorem dX11_check_2 : decode cX11_check 2 = .ok (.iconst 0, 1) := by decide +kernel
theorem dX11_check_3 : decode cX11_check 3 = .ok (.bipush 12, 2) := by decide +kernel
theorem dX11_check_5 : decode cX11_check 5 = .ok (.invokevirtual 113, 3) := by decide +kernel
theorem dX11_check_8 : decode cX11_check 8 = .ok (.ifCond .ne 6, 3) := by decide +kernel
theorem dX11_check_11 : decode cX11_check 11 = .ok (.bipush (-2), 2) := by decide +kernel
theorem dX11_check_13 : decode cX11_check 13 = .ok (.ireturn, 1) := by decide +kernel
theorem dX11_check_14 : decode cX11_check 14 = .ok (.aload_n 0, 1) := by decide +kernel
theorem dX11_check_15 : decode cX11_check 15 = .ok (.iconst 0, 1) := by decide +kernel
theorem dX11_check_16 : decode cX11_check 16 = .ok (.putfield 19, 3) := by decide +kernel
theorem dX11_check_19 : decode cX11_check 19 = .ok (.iconst 0, 1) := by decide +kernel
theorem dX11_check_20 : decode cX11_check 20 = .ok (.istore_n 2, 1) := by decide +kernel
theorem dX11_check_21 : decode cX11_check 21 = .ok (.iload_n 2, 1) := by decide +kernel
theorem dX11_check_22 : decode cX11_check 22 = .ok (.iload_n 1, 1) := by decide +kernel
theorem dX11_check_23 : decode cX11_check 23 = .ok (.if_icmp .ge 52, 3) := by decide +kernel
theorem dX11_check_26 : decode cX11_check 26 = .ok (.aload_n 0, 1) := by decide +kernel
theorem dX11_check_27 : decode cX11_check 27 = .ok (.getfield 11, 3) := by decide +kernel
theorem dX11_check_30 : decode cX11_check 30 = .ok (.iload_n 2, 1) := by decide +kernel
theorem dX11_check_31 : decode cX11_check 31 = .ok (.aaload, 1) := by decide +kernel
theorem dX11_check_32 : decode cX11_check 32 = .ok (.getfield 314, 3) := by decide +kernel
theorem dX11_check_35 : decode cX11_check 35 = .ok (.ifCond .eq 18, 3) := by decide +kernel
