theorem dX12_who_23 : decode cX12_who 23 = .ok (.iload_n 3, 1) := by decide +kernel
theorem dX12_who_24 : decode cX12_who 24 = .ok (.invokevirtual 354, 3) := by decide +kernel
theorem dX12_who_27 : decode cX12_who 27 = .ok (.iload_n 1, 1) := by decide +kernel
theorem dX12_who_28 : decode cX12_who 28 = .ok (.invokestatic 376, 3) := by decide +kernel
theorem dX12_who_31 : decode cX12_who 31 = .ok (.ifCond .eq 9, 3) := by decide +kernel
theorem dX12_who_34 : decode cX12_who 34 = .ok (.iload_n 2, 1) := by decide +kernel
theorem dX12_who_35 : decode cX12_who 35 = .ok (.iconst 1, 1) := by decide +kernel
theorem dX12_who_36 : decode cX12_who 36 = .ok (.iload_n 3, 1) := by decide +kernel
theorem dX12_who_37 : decode cX12_who 37 = .ok (.ishl, 1) := by decide +kernel
theorem dX12_who_38 : decode cX12_who 38 = .ok (.ior, 1) := by decide +kernel
theorem dX12_who_39 : decode cX12_who 39 = .ok (.istore_n 2, 1) := by decide +kernel
theorem dX12_who_40 : decode cX12_who 40 = .ok (.iinc 3 1, 3) := by decide +kernel
theorem dX12_who_43 : decode cX12_who 43 = .ok (.goto (-27), 3) := by decide +kernel
theorem dX12_who_46 : decode cX12_who 46 = .ok (.iload_n 2, 1) := by decide +kernel
theorem dX12_who_47 : decode cX12_who 47 = .ok (.ireturn, 1) := by decide +kernel
theorem dX12_jury_0 : decode cX12_jury 0 = .ok (.iload_n 1, 1) := by decide +kernel
theorem dX12_jury_1 : decode cX12_jury 1 = .ok (.iconst 1, 1) := by decide +kernel
theorem dX12_jury_2 : decode cX12_jury 2 = .ok (.bipush 12, 2) := by decide +kernel
theorem dX12_jury_4 : decode cX12_jury 4 = .ok (.invokestatic 124, 3) := by decide +kernel
theorem dX12_jury_7 : decode cX12_jury 7 = .ok (.ifCond .eq 21, 3) := by decide +kernel
theorem dX12_jury_10 : decode cX12_jury 10 = .ok (.iload_n 2, 1) := by decide +kernel
theorem dX12_jury_11 : decode cX12_jury 11 = .ok (.iconst 0, 1) := by decide +kernel
theorem dX12_jury_12 : decode cX12_jury 12 = .ok (.bipush 12, 2) := by decide +kernel
theorem dX12_jury_14 : decode cX12_jury 14 = .ok (.invokestatic 124, 3) := by decide +kernel
theorem dX12_jury_17 : decode cX12_jury 17 = .ok (.ifCond .eq 11, 3) := by decide +kernel
theorem dX12_jury_20 : decode cX12_jury 20 = .ok (.iload_n 1, 1) := by decide +kernel
theorem dX12_jury_21 : decode cX12_jury 21 = .ok (.aload_n 0, 1) := by decide +kernel
theorem dX12_jury_22 : decode cX12_jury 22 = .ok (.getfield 128, 3) := by decide +kernel
theorem dX12_jury_25 : decode cX12_jury 25 = .ok (.if_icmp .le 7, 3) := by decide +kernel
theorem dX12_jury_28 : decode cX12_jury 28 = .ok (.ldc2_w 385, 3) := by decide +kernel
theorem dX12_jury_31 : decode cX12_jury 31 = .ok (.lreturn, 1) := by decide +kernel
theorem dX12_jury_32 : decode cX12_jury 32 = .ok (.aload_n 0, 1) := by decide +kernel
theorem dX12_jury_33 : decode cX12_jury 33 = .ok (.iconst 0, 1) := by decide +kernel
theorem dX12_jury_34 : decode cX12_jury 34 = .ok (.putfield 128, 3) := by decide +kernel
theorem dX12_jury_37 : decode cX12_jury 37 = .ok (.iconst 0, 1) := by decide +kernel
theorem dX12_jury_38 : decode cX12_jury 38 = .ok (.istore_n 3, 1) := by decide +kernel
theorem dX12_jury_39 : decode cX12_jury 39 = .ok (.iload_n 3, 1) := by decide +kernel
theorem dX12_jury_40 : decode cX12_jury 40 = .ok (.iload_n 1, 1) := by decide +kernel
theorem dX12_jury_41 : decode cX12_jury 41 = .ok (.if_icmp .ge 23, 3) := by decide +kernel
theorem dX12_jury_44 : decode cX12_jury 44 = .ok (.aload_n 0, 1) := by decide +kernel
theorem dX12_jury_45 : decode cX12_jury 45 = .ok (.iload_n 3, 1) := by decide +kernel
theorem dX12_jury_46 : decode cX12_jury 46 = .ok (.invokevirtual 387, 3) := by decide +kernel
theorem dX12_jury_49 : decode cX12_jury 49 = .ok (.bipush 10, 2) := by decide +kernel
theorem dX12_jury_51 : decode cX12_jury 51 = .ok (.if_icmp .le 7, 3) := by decide +kernel
theorem dX12_jury_54 : decode cX12_jury 54 = .ok (.ldc2_w 390, 3) := by decide +kernel
theorem dX12_jury_57 : decode cX12_jury 57 = .ok (.lreturn, 1) := by decide +kernel
theorem dX12_jury_58 : decode cX12_jury 58 = .ok (.iinc 3 1, 3) := by decide +kernel
theorem dX12_jury_61 : decode cX12_jury 61 = .ok (.goto (-22), 3) := by decide +kernel
theorem dX12_jury_64 : decode cX12_jury 64 = .ok (.iconst 0, 1) := by decide +kernel
theorem dX12_jury_65 : decode cX12_jury 65 = .ok (.istore_n 3, 1) := by decide +kernel
theorem dX12_jury_66 : decode cX12_jury 66 = .ok (.iload_n 3, 1) := by decide +kernel
theorem dX12_jury_67 : decode cX12_jury 67 = .ok (.bipush 13, 2) := by decide +kernel
theorem dX12_jury_69 : decode cX12_jury 69 = .ok (.if_icmp .ge 24, 3) := by decide +kernel
theorem dX12_jury_72 : decode cX12_jury 72 = .ok (.aload_n 0, 1) := by decide +kernel
theorem dX12_jury_73 : decode cX12_jury 73 = .ok (.getfield 96, 3) := by decide +kernel
theorem dX12_jury_76 : decode cX12_jury 76 = .ok (.iload_n 3, 1) := by decide +kernel
theorem dX12_jury_77 : decode cX12_jury 77 = .ok (.iload_n 3, 1) := by decide +kernel
theorem dX12_jury_78 : decode cX12_jury 78 = .ok (.ifCond .ne 7, 3) := by decide +kernel
theorem dX12_jury_81 : decode cX12_jury 81 = .ok (.lconst 1, 1) := by decide +kernel
theorem dX12_jury_82 : decode cX12_jury 82 = .ok (.goto 4, 3) := by decide +kernel
theorem dX12_jury_85 : decode cX12_jury 85 = .ok (.lconst 0, 1) := by decide +kernel
theorem dX12_jury_86 : decode cX12_jury 86 = .ok (.lastore, 1) := by decide +kernel
theorem dX12_jury_87 : decode cX12_jury 87 = .ok (.iinc 3 1, 3) := by decide +kernel
theorem dX12_jury_90 : decode cX12_jury 90 = .ok (.goto (-24), 3) := by decide +kernel
theorem dX12_jury_93 : decode cX12_jury 93 = .ok (.iconst 0, 1) := by decide +kernel
theorem dX12_jury_94 : decode cX12_jury 94 = .ok (.istore_n 3, 1) := by decide +kernel
theorem dX12_jury_95 : decode cX12_jury 95 = .ok (.iload_n 3, 1) := by decide +kernel
theorem dX12_jury_96 : decode cX12_jury 96 = .ok (.iload_n 1, 1) := by decide +kernel
theorem dX12_jury_97 : decode cX12_jury 97 = .ok (.if_icmp .ge 75, 3) := by decide +kernel
theorem dX12_jury_100 : decode cX12_jury 100 = .ok (.iload_n 3, 1) := by decide +kernel
theorem dX12_jury_101 : decode cX12_jury 101 = .ok (.iconst 1, 1) := by decide +kernel
theorem dX12_jury_102 : decode cX12_jury 102 = .ok (.iadd, 1) := by decide +kernel
theorem dX12_jury_103 : decode cX12_jury 103 = .ok (.istore 4, 2) := by decide +kernel
theorem dX12_jury_105 : decode cX12_jury 105 = .ok (.iload 4, 2) := by decide +kernel
theorem dX12_jury_107 : decode cX12_jury 107 = .ok (.ifCond .lt 59, 3) := by decide +kernel
theorem dX12_jury_110 : decode cX12_jury 110 = .ok (.aload_n 0, 1) := by decide +kernel
theorem dX12_jury_111 : decode cX12_jury 111 = .ok (.getfield 96, 3) := by decide +kernel
theorem dX12_jury_114 : decode cX12_jury 114 = .ok (.iload 4, 2) := by decide +kernel
theorem dX12_jury_116 : decode cX12_jury 116 = .ok (.aload_n 0, 1) := by decide +kernel
theorem dX12_jury_117 : decode cX12_jury 117 = .ok (.getfield 96, 3) := by decide +kernel
theorem dX12_jury_120 : decode cX12_jury 120 = .ok (.iload 4, 2) := by decide +kernel
theorem dX12_jury_122 : decode cX12_jury 122 = .ok (.laload, 1) := by decide +kernel
theorem dX12_jury_123 : decode cX12_jury 123 = .ok (.bipush 10, 2) := by decide +kernel
theorem dX12_jury_125 : decode cX12_jury 125 = .ok (.aload_n 0, 1) := by decide +kernel
theorem dX12_jury_126 : decode cX12_jury 126 = .ok (.iload_n 3, 1) := by decide +kernel
theorem dX12_jury_127 : decode cX12_jury 127 = .ok (.invokevirtual 387, 3) := by decide +kernel
theorem dX12_jury_130 : decode cX12_jury 130 = .ok (.isub, 1) := by decide +kernel
theorem dX12_jury_131 : decode cX12_jury 131 = .ok (.i2l, 1) := by decide +kernel
theorem dX12_jury_132 : decode cX12_jury 132 = .ok (.lmul, 1) := by decide +kernel
theorem dX12_jury_133 : decode cX12_jury 133 = .ok (.iload 4, 2) := by decide +kernel
theorem dX12_jury_135 : decode cX12_jury 135 = .ok (.ifCond .le 22, 3) := by decide +kernel
theorem dX12_jury_138 : decode cX12_jury 138 = .ok (.aload_n 0, 1) := by decide +kernel
theorem dX12_jury_139 : decode cX12_jury 139 = .ok (.getfield 96, 3) := by decide +kernel
theorem dX12_jury_142 : decode cX12_jury 142 = .ok (.iload 4, 2) := by decide +kernel
theorem dX12_jury_144 : decode cX12_jury 144 = .ok (.iconst 1, 1) := by decide +kernel
theorem dX12_jury_145 : decode cX12_jury 145 = .ok (.isub, 1) := by decide +kernel
theorem dX12_jury_146 : decode cX12_jury 146 = .ok (.laload, 1) := by decide +kernel
theorem dX12_jury_147 : decode cX12_jury 147 = .ok (.aload_n 0, 1) := by decide +kernel
theorem dX12_jury_148 : decode cX12_jury 148 = .ok (.iload_n 3, 1) := by decide +kernel
theorem dX12_jury_149 : decode cX12_jury 149 = .ok (.invokevirtual 387, 3) := by decide +kernel
theorem dX12_jury_152 : decode cX12_jury 152 = .ok (.i2l, 1) := by decide +kernel
theorem dX12_jury_153 : decode cX12_jury 153 = .ok (.lmul, 1) := by decide +kernel
theorem dX12_jury_154 : decode cX12_jury 154 = .ok (.goto 4, 3) := by decide +kernel
theorem dX12_jury_157 : decode cX12_jury 157 = .ok (.lconst 0, 1) := by decide +kernel
theorem dX12_jury_158 : decode cX12_jury 158 = .ok (.ladd, 1) := by decide +kernel
theorem dX12_jury_159 : decode cX12_jury 159 = .ok (.lastore, 1) := by decide +kernel
theorem dX12_jury_160 : decode cX12_jury 160 = .ok (.iinc 4 (-1), 3) := by decide +kernel
theorem dX12_jury_163 : decode cX12_jury 163 = .ok (.goto (-58), 3) := by decide +kernel
theorem dX12_jury_166 : decode cX12_jury 166 = .ok (.iinc 3 1, 3) := by decide +kernel
theorem dX12_jury_169 : decode cX12_jury 169 = .ok (.goto (-74), 3) := by decide +kernel
theorem dX12_jury_172 : decode cX12_jury 172 = .ok (.lconst 0, 1) := by decide +kernel
theorem dX12_jury_173 : decode cX12_jury 173 = .ok (.lstore_n 3, 1) := by decide +kernel
theorem dX12_jury_174 : decode cX12_jury 174 = .ok (.iload_n 2, 1) := by decide +kernel
theorem dX12_jury_175 : decode cX12_jury 175 = .ok (.istore 5, 2) := by decide +kernel
theorem dX12_jury_177 : decode cX12_jury 177 = .ok (.iload 5, 2) := by decide +kernel
theorem dX12_jury_179 : decode cX12_jury 179 = .ok (.bipush 13, 2) := by decide +kernel
theorem dX12_jury_181 : decode cX12_jury 181 = .ok (.if_icmp .ge 19, 3) := by decide +kernel
theorem dX12_jury_184 : decode cX12_jury 184 = .ok (.lload_n 3, 1) := by decide +kernel
theorem dX12_jury_185 : decode cX12_jury 185 = .ok (.aload_n 0, 1) := by decide +kernel
theorem dX12_jury_186 : decode cX12_jury 186 = .ok (.getfield 96, 3) := by decide +kernel
theorem dX12_jury_189 : decode cX12_jury 189 = .ok (.iload 5, 2) := by decide +kernel
theorem dX12_jury_191 : decode cX12_jury 191 = .ok (.laload, 1) := by decide +kernel
theorem dX12_jury_192 : decode cX12_jury 192 = .ok (.ladd, 1) := by decide +kernel
theorem dX12_jury_193 : decode cX12_jury 193 = .ok (.lstore_n 3, 1) := by decide +kernel
theorem dX12_jury_194 : decode cX12_jury 194 = .ok (.iinc 5 1, 3) := by decide +kernel
theorem dX12_jury_197 : decode cX12_jury 197 = .ok (.goto (-20), 3) := by decide +kernel
theorem dX12_jury_200 : decode cX12_jury 200 = .ok (.lload_n 3, 1) := by decide +kernel
theorem dX12_jury_201 : decode cX12_jury 201 = .ok (.lreturn, 1) := by decide +kernel
theorem dX12_changesOrder_0 : decode cX12_changesOrder 0 = .ok (.aload_n 0, 1) := by decide +kernel
theorem dX12_changesOrder_1 : decode cX12_changesOrder 1 = .ok (.getfield 100, 3) := by decide +kernel
theorem dX12_changesOrder_4 : decode cX12_changesOrder 4 = .ok (.iload_n 1, 1) := by decide +kernel
theorem dX12_changesOrder_5 : decode cX12_changesOrder 5 = .ok (.iaload, 1) := by decide +kernel
theorem dX12_changesOrder_6 : decode cX12_changesOrder 6 = .ok (.istore_n 3, 1) := by decide +kernel
theorem dX12_changesOrder_7 : decode cX12_changesOrder 7 = .ok (.aload_n 0, 1) := by decide +kernel
theorem dX12_changesOrder_8 : decode cX12_changesOrder 8 = .ok (.getfield 100, 3) := by decide +kernel
theorem dX12_changesOrder_11 : decode cX12_changesOrder 11 = .ok (.iload_n 1, 1) := by decide +kernel
theorem dX12_changesOrder_12 : decode cX12_changesOrder 12 = .ok (.aload_n 0, 1) := by decide +kernel
theorem dX12_changesOrder_13 : decode cX12_changesOrder 13 = .ok (.getfield 100, 3) := by decide +kernel
theorem dX12_changesOrder_16 : decode cX12_changesOrder 16 = .ok (.iload_n 2, 1) := by decide +kernel
theorem dX12_changesOrder_17 : decode cX12_changesOrder 17 = .ok (.iaload, 1) := by decide +kernel
theorem dX12_changesOrder_18 : decode cX12_changesOrder 18 = .ok (.iastore, 1) := by decide +kernel
theorem dX12_changesOrder_19 : decode cX12_changesOrder 19 = .ok (.aload_n 0, 1) := by decide +kernel
theorem dX12_changesOrder_20 : decode cX12_changesOrder 20 = .ok (.getfield 100, 3) := by decide +kernel
theorem dX12_changesOrder_23 : decode cX12_changesOrder 23 = .ok (.iload_n 2, 1) := by decide +kernel
theorem dX12_changesOrder_24 : decode cX12_changesOrder 24 = .ok (.iload_n 3, 1) := by decide +kernel
theorem dX12_changesOrder_25 : decode cX12_changesOrder 25 = .ok (.iastore, 1) := by decide +kernel
theorem dX12_changesOrder_26 : decode cX12_changesOrder 26 = .ok (.return_, 1) := by decide +kernel
theorem dX12_nextOrder_0 : decode cX12_nextOrder 0 = .ok (.iload_n 1, 1) := by decide +kernel
theorem dX12_nextOrder_1 : decode cX12_nextOrder 1 = .ok (.iconst 2, 1) := by decide +kernel
theorem dX12_nextOrder_2 : decode cX12_nextOrder 2 = .ok (.isub, 1) := by decide +kernel
theorem dX12_nextOrder_3 : decode cX12_nextOrder 3 = .ok (.istore_n 2, 1) := by decide +kernel
theorem dX12_nextOrder_4 : decode cX12_nextOrder 4 = .ok (.iload_n 2, 1) := by decide +kernel
theorem dX12_nextOrder_5 : decode cX12_nextOrder 5 = .ok (.ifCond .lt 27, 3) := by decide +kernel
theorem dX12_nextOrder_8 : decode cX12_nextOrder 8 = .ok (.aload_n 0, 1) := by decide +kernel
theorem dX12_nextOrder_9 : decode cX12_nextOrder 9 = .ok (.getfield 100, 3) := by decide +kernel
theorem dX12_nextOrder_12 : decode cX12_nextOrder 12 = .ok (.iload_n 2, 1) := by decide +kernel
theorem dX12_nextOrder_13 : decode cX12_nextOrder 13 = .ok (.iaload, 1) := by decide +kernel
theorem dX12_nextOrder_14 : decode cX12_nextOrder 14 = .ok (.aload_n 0, 1) := by decide +kernel
theorem dX12_nextOrder_15 : decode cX12_nextOrder 15 = .ok (.getfield 100, 3) := by decide +kernel
theorem dX12_nextOrder_18 : decode cX12_nextOrder 18 = .ok (.iload_n 2, 1) := by decide +kernel
theorem dX12_nextOrder_19 : decode cX12_nextOrder 19 = .ok (.iconst 1, 1) := by decide +kernel
theorem dX12_nextOrder_20 : decode cX12_nextOrder 20 = .ok (.iadd, 1) := by decide +kernel
theorem dX12_nextOrder_21 : decode cX12_nextOrder 21 = .ok (.iaload, 1) := by decide +kernel
theorem dX12_nextOrder_22 : decode cX12_nextOrder 22 = .ok (.if_icmp .le 10, 3) := by decide +kernel
theorem dX12_nextOrder_25 : decode cX12_nextOrder 25 = .ok (.iload_n 2, 1) := by decide +kernel
theorem dX12_nextOrder_26 : decode cX12_nextOrder 26 = .ok (.iconst 1, 1) := by decide +kernel
theorem dX12_nextOrder_27 : decode cX12_nextOrder 27 = .ok (.isub, 1) := by decide +kernel
theorem dX12_nextOrder_28 : decode cX12_nextOrder 28 = .ok (.istore_n 2, 1) := by decide +kernel
theorem dX12_nextOrder_29 : decode cX12_nextOrder 29 = .ok (.goto (-25), 3) := by decide +kernel
theorem dX12_nextOrder_32 : decode cX12_nextOrder 32 = .ok (.iload_n 2, 1) := by decide +kernel
theorem dX12_nextOrder_33 : decode cX12_nextOrder 33 = .ok (.ifCond .ge 5, 3) := by decide +kernel
theorem dX12_nextOrder_36 : decode cX12_nextOrder 36 = .ok (.iconst 0, 1) := by decide +kernel
theorem dX12_nextOrder_37 : decode cX12_nextOrder 37 = .ok (.ireturn, 1) := by decide +kernel
theorem dX12_nextOrder_38 : decode cX12_nextOrder 38 = .ok (.iload_n 1, 1) := by decide +kernel
theorem dX12_nextOrder_39 : decode cX12_nextOrder 39 = .ok (.iconst 1, 1) := by decide +kernel
theorem dX12_nextOrder_40 : decode cX12_nextOrder 40 = .ok (.isub, 1) := by decide +kernel
theorem dX12_nextOrder_41 : decode cX12_nextOrder 41 = .ok (.istore_n 3, 1) := by decide +kernel
theorem dX12_nextOrder_42 : decode cX12_nextOrder 42 = .ok (.aload_n 0, 1) := by decide +kernel
theorem dX12_nextOrder_43 : decode cX12_nextOrder 43 = .ok (.getfield 100, 3) := by decide +kernel
theorem dX12_nextOrder_46 : decode cX12_nextOrder 46 = .ok (.iload_n 3, 1) := by decide +kernel
theorem dX12_nextOrder_47 : decode cX12_nextOrder 47 = .ok (.iaload, 1) := by decide +kernel
theorem dX12_nextOrder_48 : decode cX12_nextOrder 48 = .ok (.aload_n 0, 1) := by decide +kernel
theorem dX12_nextOrder_49 : decode cX12_nextOrder 49 = .ok (.getfield 100, 3) := by decide +kernel
theorem dX12_nextOrder_52 : decode cX12_nextOrder 52 = .ok (.iload_n 2, 1) := by decide +kernel
theorem dX12_nextOrder_53 : decode cX12_nextOrder 53 = .ok (.iaload, 1) := by decide +kernel
theorem dX12_nextOrder_54 : decode cX12_nextOrder 54 = .ok (.if_icmp .ge 10, 3) := by decide +kernel
theorem dX12_nextOrder_57 : decode cX12_nextOrder 57 = .ok (.iload_n 3, 1) := by decide +kernel
theorem dX12_nextOrder_58 : decode cX12_nextOrder 58 = .ok (.iconst 1, 1) := by decide +kernel
theorem dX12_nextOrder_59 : decode cX12_nextOrder 59 = .ok (.isub, 1) := by decide +kernel
theorem dX12_nextOrder_60 : decode cX12_nextOrder 60 = .ok (.istore_n 3, 1) := by decide +kernel
theorem dX12_nextOrder_61 : decode cX12_nextOrder 61 = .ok (.goto (-19), 3) := by decide +kernel
theorem dX12_nextOrder_64 : decode cX12_nextOrder 64 = .ok (.aload_n 0, 1) := by decide +kernel
theorem dX12_nextOrder_65 : decode cX12_nextOrder 65 = .ok (.iload_n 2, 1) := by decide +kernel
theorem dX12_nextOrder_66 : decode cX12_nextOrder 66 = .ok (.iload_n 3, 1) := by decide +kernel
theorem dX12_nextOrder_67 : decode cX12_nextOrder 67 = .ok (.invokevirtual 392, 3) := by decide +kernel
theorem dX12_nextOrder_70 : decode cX12_nextOrder 70 = .ok (.iload_n 2, 1) := by decide +kernel
theorem dX12_nextOrder_71 : decode cX12_nextOrder 71 = .ok (.iconst 1, 1) := by decide +kernel
theorem dX12_nextOrder_72 : decode cX12_nextOrder 72 = .ok (.iadd, 1) := by decide +kernel
theorem dX12_nextOrder_73 : decode cX12_nextOrder 73 = .ok (.istore 4, 2) := by decide +kernel
theorem dX12_nextOrder_75 : decode cX12_nextOrder 75 = .ok (.iload_n 1, 1) := by decide +kernel
theorem dX12_nextOrder_76 : decode cX12_nextOrder 76 = .ok (.iconst 1, 1) := by decide +kernel
theorem dX12_nextOrder_77 : decode cX12_nextOrder 77 = .ok (.isub, 1) := by decide +kernel
theorem dX12_nextOrder_78 : decode cX12_nextOrder 78 = .ok (.istore 5, 2) := by decide +kernel
theorem dX12_nextOrder_80 : decode cX12_nextOrder 80 = .ok (.iload 4, 2) := by decide +kernel
theorem dX12_nextOrder_82 : decode cX12_nextOrder 82 = .ok (.iload 5, 2) := by decide +kernel
theorem dX12_nextOrder_84 : decode cX12_nextOrder 84 = .ok (.if_icmp .ge 20, 3) := by decide +kernel
theorem dX12_nextOrder_87 : decode cX12_nextOrder 87 = .ok (.aload_n 0, 1) := by decide +kernel
theorem dX12_nextOrder_88 : decode cX12_nextOrder 88 = .ok (.iload 4, 2) := by decide +kernel
theorem dX12_nextOrder_90 : decode cX12_nextOrder 90 = .ok (.iload 5, 2) := by decide +kernel
theorem dX12_nextOrder_92 : decode cX12_nextOrder 92 = .ok (.invokevirtual 392, 3) := by decide +kernel
theorem dX12_nextOrder_95 : decode cX12_nextOrder 95 = .ok (.iinc 4 1, 3) := by decide +kernel
theorem dX12_nextOrder_98 : decode cX12_nextOrder 98 = .ok (.iinc 5 (-1), 3) := by decide +kernel
theorem dX12_nextOrder_101 : decode cX12_nextOrder 101 = .ok (.goto (-21), 3) := by decide +kernel
theorem dX12_nextOrder_104 : decode cX12_nextOrder 104 = .ok (.iconst 1, 1) := by decide +kernel
theorem dX12_nextOrder_105 : decode cX12_nextOrder 105 = .ok (.ireturn, 1) := by decide +kernel
theorem dX12_laysRanks_0 : decode cX12_laysRanks 0 = .ok (.iconst 0, 1) := by decide +kernel
theorem dX12_laysRanks_1 : decode cX12_laysRanks 1 = .ok (.istore_n 3, 1) := by decide +kernel
theorem dX12_laysRanks_2 : decode cX12_laysRanks 2 = .ok (.iload_n 3, 1) := by decide +kernel
theorem dX12_laysRanks_3 : decode cX12_laysRanks 3 = .ok (.iload_n 2, 1) := by decide +kernel
theorem dX12_laysRanks_4 : decode cX12_laysRanks 4 = .ok (.if_icmp .ge 80, 3) := by decide +kernel
theorem dX12_laysRanks_7 : decode cX12_laysRanks 7 = .ok (.iconst 0, 1) := by decide +kernel
theorem dX12_laysRanks_8 : decode cX12_laysRanks 8 = .ok (.istore 4, 2) := by decide +kernel
theorem dX12_laysRanks_10 : decode cX12_laysRanks 10 = .ok (.iconst 0, 1) := by decide +kernel
theorem dX12_laysRanks_11 : decode cX12_laysRanks 11 = .ok (.istore 5, 2) := by decide +kernel
theorem dX12_laysRanks_13 : decode cX12_laysRanks 13 = .ok (.iload 5, 2) := by decide +kernel
theorem dX12_laysRanks_15 : decode cX12_laysRanks 15 = .ok (.iload_n 1, 1) := by decide +kernel
theorem dX12_laysRanks_16 : decode cX12_laysRanks 16 = .ok (.if_icmp .ge 62, 3) := by decide +kernel
theorem dX12_laysRanks_19 : decode cX12_laysRanks 19 = .ok (.aload_n 0, 1) := by decide +kernel
theorem dX12_laysRanks_20 : decode cX12_laysRanks 20 = .ok (.iload_n 1, 1) := by decide +kernel
theorem dX12_laysRanks_21 : decode cX12_laysRanks 21 = .ok (.iload_n 3, 1) := by decide +kernel
theorem dX12_laysRanks_22 : decode cX12_laysRanks 22 = .ok (.imul, 1) := by decide +kernel
theorem dX12_laysRanks_23 : decode cX12_laysRanks 23 = .ok (.iload 5, 2) := by decide +kernel
theorem dX12_laysRanks_25 : decode cX12_laysRanks 25 = .ok (.iadd, 1) := by decide +kernel
theorem dX12_laysRanks_26 : decode cX12_laysRanks 26 = .ok (.invokevirtual 387, 3) := by decide +kernel
theorem dX12_laysRanks_29 : decode cX12_laysRanks 29 = .ok (.istore 6, 2) := by decide +kernel
theorem dX12_laysRanks_31 : decode cX12_laysRanks 31 = .ok (.iload 6, 2) := by decide +kernel
theorem dX12_laysRanks_33 : decode cX12_laysRanks 33 = .ok (.iload_n 1, 1) := by decide +kernel
theorem dX12_laysRanks_34 : decode cX12_laysRanks 34 = .ok (.if_icmp .ge 13, 3) := by decide +kernel
theorem dX12_laysRanks_37 : decode cX12_laysRanks 37 = .ok (.iload 4, 2) := by decide +kernel
theorem dX12_laysRanks_39 : decode cX12_laysRanks 39 = .ok (.iload 6, 2) := by decide +kernel
theorem dX12_laysRanks_41 : decode cX12_laysRanks 41 = .ok (.invokestatic 376, 3) := by decide +kernel
theorem dX12_laysRanks_44 : decode cX12_laysRanks 44 = .ok (.ifCond .eq 5, 3) := by decide +kernel
theorem dX12_laysRanks_47 : decode cX12_laysRanks 47 = .ok (.iconst 0, 1) := by decide +kernel
theorem dX12_laysRanks_48 : decode cX12_laysRanks 48 = .ok (.ireturn, 1) := by decide +kernel
theorem dX12_laysRanks_49 : decode cX12_laysRanks 49 = .ok (.iload 4, 2) := by decide +kernel
theorem dX12_laysRanks_51 : decode cX12_laysRanks 51 = .ok (.iconst 1, 1) := by decide +kernel
theorem dX12_laysRanks_52 : decode cX12_laysRanks 52 = .ok (.iload 6, 2) := by decide +kernel
theorem dX12_laysRanks_54 : decode cX12_laysRanks 54 = .ok (.ishl, 1) := by decide +kernel
theorem dX12_laysRanks_55 : decode cX12_laysRanks 55 = .ok (.ior, 1) := by decide +kernel
theorem dX12_laysRanks_56 : decode cX12_laysRanks 56 = .ok (.istore 4, 2) := by decide +kernel
theorem dX12_laysRanks_58 : decode cX12_laysRanks 58 = .ok (.aload_n 0, 1) := by decide +kernel
theorem dX12_laysRanks_59 : decode cX12_laysRanks 59 = .ok (.getfield 106, 3) := by decide +kernel
theorem dX12_laysRanks_62 : decode cX12_laysRanks 62 = .ok (.bipush 6, 2) := by decide +kernel
theorem dX12_laysRanks_64 : decode cX12_laysRanks 64 = .ok (.iload_n 3, 1) := by decide +kernel
theorem dX12_laysRanks_65 : decode cX12_laysRanks 65 = .ok (.imul, 1) := by decide +kernel
theorem dX12_laysRanks_66 : decode cX12_laysRanks 66 = .ok (.iload 6, 2) := by decide +kernel
theorem dX12_laysRanks_68 : decode cX12_laysRanks 68 = .ok (.iadd, 1) := by decide +kernel
theorem dX12_laysRanks_69 : decode cX12_laysRanks 69 = .ok (.iload 5, 2) := by decide +kernel
theorem dX12_laysRanks_71 : decode cX12_laysRanks 71 = .ok (.iastore, 1) := by decide +kernel
theorem dX12_laysRanks_72 : decode cX12_laysRanks 72 = .ok (.iinc 5 1, 3) := by decide +kernel
theorem dX12_laysRanks_75 : decode cX12_laysRanks 75 = .ok (.goto (-62), 3) := by decide +kernel
theorem dX12_laysRanks_78 : decode cX12_laysRanks 78 = .ok (.iinc 3 1, 3) := by decide +kernel
theorem dX12_laysRanks_81 : decode cX12_laysRanks 81 = .ok (.goto (-79), 3) := by decide +kernel
theorem dX12_laysRanks_84 : decode cX12_laysRanks 84 = .ok (.iconst 1, 1) := by decide +kernel
theorem dX12_laysRanks_85 : decode cX12_laysRanks 85 = .ok (.ireturn, 1) := by decide +kernel
theorem dX12_otherwise_0 : decode cX12_otherwise 0 = .ok (.iconst 0, 1) := by decide +kernel
theorem dX12_otherwise_1 : decode cX12_otherwise 1 = .ok (.istore_n 3, 1) := by decide +kernel
theorem dX12_otherwise_2 : decode cX12_otherwise 2 = .ok (.iconst 0, 1) := by decide +kernel
theorem dX12_otherwise_3 : decode cX12_otherwise 3 = .ok (.istore 4, 2) := by decide +kernel
theorem dX12_otherwise_5 : decode cX12_otherwise 5 = .ok (.iload 4, 2) := by decide +kernel
theorem dX12_otherwise_7 : decode cX12_otherwise 7 = .ok (.iload_n 2, 1) := by decide +kernel
theorem dX12_otherwise_8 : decode cX12_otherwise 8 = .ok (.if_icmp .ge 85, 3) := by decide +kernel
theorem dX12_otherwise_11 : decode cX12_otherwise 11 = .ok (.iconst 0, 1) := by decide +kernel
theorem dX12_otherwise_12 : decode cX12_otherwise 12 = .ok (.istore 5, 2) := by decide +kernel
theorem dX12_otherwise_14 : decode cX12_otherwise 14 = .ok (.iload 5, 2) := by decide +kernel
theorem dX12_otherwise_16 : decode cX12_otherwise 16 = .ok (.iload_n 1, 1) := by decide +kernel
theorem dX12_otherwise_17 : decode cX12_otherwise 17 = .ok (.if_icmp .ge 70, 3) := by decide +kernel
theorem dX12_otherwise_20 : decode cX12_otherwise 20 = .ok (.iload 5, 2) := by decide +kernel
theorem dX12_otherwise_22 : decode cX12_otherwise 22 = .ok (.iconst 1, 1) := by decide +kernel
theorem dX12_otherwise_23 : decode cX12_otherwise 23 = .ok (.iadd, 1) := by decide +kernel
theorem dX12_otherwise_24 : decode cX12_otherwise 24 = .ok (.istore 6, 2) := by decide +kernel
theorem dX12_otherwise_26 : decode cX12_otherwise 26 = .ok (.iload 6, 2) := by decide +kernel
theorem dX12_otherwise_28 : decode cX12_otherwise 28 = .ok (.iload_n 1, 1) := by decide +kernel
theorem dX12_otherwise_29 : decode cX12_otherwise 29 = .ok (.if_icmp .ge 52, 3) := by decide +kernel
theorem dX12_otherwise_32 : decode cX12_otherwise 32 = .ok (.aload_n 0, 1) := by decide +kernel
theorem dX12_otherwise_33 : decode cX12_otherwise 33 = .ok (.getfield 106, 3) := by decide +kernel
theorem dX12_otherwise_36 : decode cX12_otherwise 36 = .ok (.bipush 6, 2) := by decide +kernel
theorem dX12_otherwise_38 : decode cX12_otherwise 38 = .ok (.iload 4, 2) := by decide +kernel
theorem dX12_otherwise_40 : decode cX12_otherwise 40 = .ok (.imul, 1) := by decide +kernel
theorem dX12_otherwise_41 : decode cX12_otherwise 41 = .ok (.aload_n 0, 1) := by decide +kernel
theorem dX12_otherwise_42 : decode cX12_otherwise 42 = .ok (.getfield 100, 3) := by decide +kernel
theorem dX12_otherwise_45 : decode cX12_otherwise 45 = .ok (.iload 5, 2) := by decide +kernel
theorem dX12_otherwise_47 : decode cX12_otherwise 47 = .ok (.iaload, 1) := by decide +kernel
theorem dX12_otherwise_48 : decode cX12_otherwise 48 = .ok (.iadd, 1) := by decide +kernel
theorem dX12_otherwise_49 : decode cX12_otherwise 49 = .ok (.iaload, 1) := by decide +kernel
theorem dX12_otherwise_50 : decode cX12_otherwise 50 = .ok (.aload_n 0, 1) := by decide +kernel
theorem dX12_otherwise_51 : decode cX12_otherwise 51 = .ok (.getfield 106, 3) := by decide +kernel
theorem dX12_otherwise_54 : decode cX12_otherwise 54 = .ok (.bipush 6, 2) := by decide +kernel
theorem dX12_otherwise_56 : decode cX12_otherwise 56 = .ok (.iload 4, 2) := by decide +kernel
theorem dX12_otherwise_58 : decode cX12_otherwise 58 = .ok (.imul, 1) := by decide +kernel
theorem dX12_otherwise_59 : decode cX12_otherwise 59 = .ok (.aload_n 0, 1) := by decide +kernel
theorem dX12_otherwise_60 : decode cX12_otherwise 60 = .ok (.getfield 100, 3) := by decide +kernel
theorem dX12_otherwise_63 : decode cX12_otherwise 63 = .ok (.iload 6, 2) := by decide +kernel
theorem dX12_otherwise_65 : decode cX12_otherwise 65 = .ok (.iaload, 1) := by decide +kernel
theorem dX12_otherwise_66 : decode cX12_otherwise 66 = .ok (.iadd, 1) := by decide +kernel
theorem dX12_otherwise_67 : decode cX12_otherwise 67 = .ok (.iaload, 1) := by decide +kernel
theorem dX12_otherwise_68 : decode cX12_otherwise 68 = .ok (.if_icmp .le 7, 3) := by decide +kernel
theorem dX12_otherwise_71 : decode cX12_otherwise 71 = .ok (.iload_n 3, 1) := by decide +kernel
theorem dX12_otherwise_72 : decode cX12_otherwise 72 = .ok (.iconst 1, 1) := by decide +kernel
theorem dX12_otherwise_73 : decode cX12_otherwise 73 = .ok (.iadd, 1) := by decide +kernel
theorem dX12_otherwise_74 : decode cX12_otherwise 74 = .ok (.istore_n 3, 1) := by decide +kernel
theorem dX12_otherwise_75 : decode cX12_otherwise 75 = .ok (.iinc 6 1, 3) := by decide +kernel
theorem dX12_otherwise_78 : decode cX12_otherwise 78 = .ok (.goto (-52), 3) := by decide +kernel
theorem dX12_otherwise_81 : decode cX12_otherwise 81 = .ok (.iinc 5 1, 3) := by decide +kernel
theorem dX12_otherwise_84 : decode cX12_otherwise 84 = .ok (.goto (-70), 3) := by decide +kernel
theorem dX12_otherwise_87 : decode cX12_otherwise 87 = .ok (.iinc 4 1, 3) := by decide +kernel
theorem dX12_otherwise_90 : decode cX12_otherwise 90 = .ok (.goto (-85), 3) := by decide +kernel
theorem dX12_otherwise_93 : decode cX12_otherwise 93 = .ok (.iload_n 3, 1) := by decide +kernel
theorem dX12_otherwise_94 : decode cX12_otherwise 94 = .ok (.ireturn, 1) := by decide +kernel
theorem dX12_tasters_0 : decode cX12_tasters 0 = .ok (.iload_n 1, 1) := by decide +kernel
theorem dX12_tasters_1 : decode cX12_tasters 1 = .ok (.iconst 2, 1) := by decide +kernel
theorem dX12_tasters_2 : decode cX12_tasters 2 = .ok (.bipush 6, 2) := by decide +kernel
theorem dX12_tasters_4 : decode cX12_tasters 4 = .ok (.invokestatic 124, 3) := by decide +kernel
theorem dX12_tasters_7 : decode cX12_tasters 7 = .ok (.ifCond .eq 40, 3) := by decide +kernel
theorem dX12_tasters_10 : decode cX12_tasters 10 = .ok (.iload_n 2, 1) := by decide +kernel
theorem dX12_tasters_11 : decode cX12_tasters 11 = .ok (.iconst 1, 1) := by decide +kernel
theorem dX12_tasters_12 : decode cX12_tasters 12 = .ok (.bipush 9, 2) := by decide +kernel
theorem dX12_tasters_14 : decode cX12_tasters 14 = .ok (.invokestatic 124, 3) := by decide +kernel
theorem dX12_tasters_17 : decode cX12_tasters 17 = .ok (.ifCond .eq 30, 3) := by decide +kernel
theorem dX12_tasters_20 : decode cX12_tasters 20 = .ok (.iload_n 3, 1) := by decide +kernel
theorem dX12_tasters_21 : decode cX12_tasters 21 = .ok (.iconst 0, 1) := by decide +kernel
theorem dX12_tasters_22 : decode cX12_tasters 22 = .ok (.iload_n 1, 1) := by decide +kernel
theorem dX12_tasters_23 : decode cX12_tasters 23 = .ok (.iconst 1, 1) := by decide +kernel
theorem dX12_tasters_24 : decode cX12_tasters 24 = .ok (.isub, 1) := by decide +kernel
theorem dX12_tasters_25 : decode cX12_tasters 25 = .ok (.invokestatic 124, 3) := by decide +kernel
theorem dX12_tasters_28 : decode cX12_tasters 28 = .ok (.ifCond .ne 9, 3) := by decide +kernel
theorem dX12_tasters_31 : decode cX12_tasters 31 = .ok (.iload_n 3, 1) := by decide +kernel
theorem dX12_tasters_32 : decode cX12_tasters 32 = .ok (.bipush 100, 2) := by decide +kernel
theorem dX12_tasters_34 : decode cX12_tasters 34 = .ok (.if_icmp .ne 13, 3) := by decide +kernel
theorem dX12_tasters_37 : decode cX12_tasters 37 = .ok (.iload_n 1, 1) := by decide +kernel
theorem dX12_tasters_38 : decode cX12_tasters 38 = .ok (.iload_n 2, 1) := by decide +kernel
theorem dX12_tasters_39 : decode cX12_tasters 39 = .ok (.imul, 1) := by decide +kernel
theorem dX12_tasters_40 : decode cX12_tasters 40 = .ok (.aload_n 0, 1) := by decide +kernel
theorem dX12_tasters_41 : decode cX12_tasters 41 = .ok (.getfield 128, 3) := by decide +kernel
theorem dX12_tasters_44 : decode cX12_tasters 44 = .ok (.if_icmp .le 5, 3) := by decide +kernel
theorem dX12_tasters_47 : decode cX12_tasters 47 = .ok (.iconst (-1), 1) := by decide +kernel
theorem dX12_tasters_48 : decode cX12_tasters 48 = .ok (.ireturn, 1) := by decide +kernel
theorem dX12_tasters_49 : decode cX12_tasters 49 = .ok (.aload_n 0, 1) := by decide +kernel
theorem dX12_tasters_50 : decode cX12_tasters 50 = .ok (.iconst 0, 1) := by decide +kernel
theorem dX12_tasters_51 : decode cX12_tasters 51 = .ok (.putfield 128, 3) := by decide +kernel
theorem dX12_tasters_54 : decode cX12_tasters 54 = .ok (.aload_n 0, 1) := by decide +kernel
theorem dX12_tasters_55 : decode cX12_tasters 55 = .ok (.iload_n 1, 1) := by decide +kernel
theorem dX12_tasters_56 : decode cX12_tasters 56 = .ok (.iload_n 2, 1) := by decide +kernel
theorem dX12_tasters_57 : decode cX12_tasters 57 = .ok (.invokevirtual 395, 3) := by decide +kernel
theorem dX12_tasters_60 : decode cX12_tasters 60 = .ok (.ifCond .ne 6, 3) := by decide +kernel
theorem dX12_tasters_63 : decode cX12_tasters 63 = .ok (.bipush (-3), 2) := by decide +kernel
theorem dX12_tasters_65 : decode cX12_tasters 65 = .ok (.ireturn, 1) := by decide +kernel
theorem dX12_tasters_66 : decode cX12_tasters 66 = .ok (.iconst 0, 1) := by decide +kernel
theorem dX12_tasters_67 : decode cX12_tasters 67 = .ok (.istore 4, 2) := by decide +kernel
theorem dX12_tasters_69 : decode cX12_tasters 69 = .ok (.iload 4, 2) := by decide +kernel
theorem dX12_tasters_71 : decode cX12_tasters 71 = .ok (.iload_n 1, 1) := by decide +kernel
theorem dX12_tasters_72 : decode cX12_tasters 72 = .ok (.if_icmp .ge 18, 3) := by decide +kernel
theorem dX12_tasters_75 : decode cX12_tasters 75 = .ok (.aload_n 0, 1) := by decide +kernel
theorem dX12_tasters_76 : decode cX12_tasters 76 = .ok (.getfield 100, 3) := by decide +kernel
theorem dX12_tasters_79 : decode cX12_tasters 79 = .ok (.iload 4, 2) := by decide +kernel
theorem dX12_tasters_81 : decode cX12_tasters 81 = .ok (.iload 4, 2) := by decide +kernel
theorem dX12_tasters_83 : decode cX12_tasters 83 = .ok (.iastore, 1) := by decide +kernel
theorem dX12_tasters_84 : decode cX12_tasters 84 = .ok (.iinc 4 1, 3) := by decide +kernel
theorem dX12_tasters_87 : decode cX12_tasters 87 = .ok (.goto (-18), 3) := by decide +kernel
theorem dX12_tasters_90 : decode cX12_tasters 90 = .ok (.ldc_w 398, 3) := by decide +kernel
theorem dX12_tasters_93 : decode cX12_tasters 93 = .ok (.istore 4, 2) := by decide +kernel
theorem dX12_tasters_95 : decode cX12_tasters 95 = .ok (.iconst 1, 1) := by decide +kernel
theorem dX12_tasters_96 : decode cX12_tasters 96 = .ok (.istore 5, 2) := by decide +kernel
theorem dX12_tasters_98 : decode cX12_tasters 98 = .ok (.iload 5, 2) := by decide +kernel
theorem dX12_tasters_100 : decode cX12_tasters 100 = .ok (.ifCond .eq 61, 3) := by decide +kernel
theorem dX12_tasters_103 : decode cX12_tasters 103 = .ok (.aload_n 0, 1) := by decide +kernel
theorem dX12_tasters_104 : decode cX12_tasters 104 = .ok (.iload_n 1, 1) := by decide +kernel
theorem dX12_tasters_105 : decode cX12_tasters 105 = .ok (.iload_n 2, 1) := by decide +kernel
theorem dX12_tasters_106 : decode cX12_tasters 106 = .ok (.invokevirtual 399, 3) := by decide +kernel
theorem dX12_tasters_109 : decode cX12_tasters 109 = .ok (.istore 6, 2) := by decide +kernel
theorem dX12_tasters_111 : decode cX12_tasters 111 = .ok (.iload 6, 2) := by decide +kernel
theorem dX12_tasters_113 : decode cX12_tasters 113 = .ok (.iload 4, 2) := by decide +kernel
theorem dX12_tasters_115 : decode cX12_tasters 115 = .ok (.if_icmp .ge 36, 3) := by decide +kernel
theorem dX12_tasters_118 : decode cX12_tasters 118 = .ok (.iload 6, 2) := by decide +kernel
theorem dX12_tasters_120 : decode cX12_tasters 120 = .ok (.istore 4, 2) := by decide +kernel
theorem dX12_tasters_122 : decode cX12_tasters 122 = .ok (.iconst 0, 1) := by decide +kernel
theorem dX12_tasters_123 : decode cX12_tasters 123 = .ok (.istore 7, 2) := by decide +kernel
theorem dX12_tasters_125 : decode cX12_tasters 125 = .ok (.iload 7, 2) := by decide +kernel
theorem dX12_tasters_127 : decode cX12_tasters 127 = .ok (.iload_n 1, 1) := by decide +kernel
theorem dX12_tasters_128 : decode cX12_tasters 128 = .ok (.if_icmp .ge 23, 3) := by decide +kernel
theorem dX12_tasters_131 : decode cX12_tasters 131 = .ok (.aload_n 0, 1) := by decide +kernel
theorem dX12_tasters_132 : decode cX12_tasters 132 = .ok (.getfield 103, 3) := by decide +kernel
theorem dX12_tasters_135 : decode cX12_tasters 135 = .ok (.iload 7, 2) := by decide +kernel
theorem dX12_tasters_137 : decode cX12_tasters 137 = .ok (.aload_n 0, 1) := by decide +kernel
theorem dX12_tasters_138 : decode cX12_tasters 138 = .ok (.getfield 100, 3) := by decide +kernel
theorem dX12_tasters_141 : decode cX12_tasters 141 = .ok (.iload 7, 2) := by decide +kernel
theorem dX12_tasters_143 : decode cX12_tasters 143 = .ok (.iaload, 1) := by decide +kernel
theorem dX12_tasters_144 : decode cX12_tasters 144 = .ok (.iastore, 1) := by decide +kernel
theorem dX12_tasters_145 : decode cX12_tasters 145 = .ok (.iinc 7 1, 3) := by decide +kernel
theorem dX12_tasters_148 : decode cX12_tasters 148 = .ok (.goto (-23), 3) := by decide +kernel
theorem dX12_tasters_151 : decode cX12_tasters 151 = .ok (.aload_n 0, 1) := by decide +kernel
theorem dX12_tasters_152 : decode cX12_tasters 152 = .ok (.iload_n 1, 1) := by decide +kernel
theorem dX12_tasters_153 : decode cX12_tasters 153 = .ok (.invokevirtual 402, 3) := by decide +kernel
theorem dX12_tasters_156 : decode cX12_tasters 156 = .ok (.istore 5, 2) := by decide +kernel
theorem dX12_tasters_158 : decode cX12_tasters 158 = .ok (.goto (-60), 3) := by decide +kernel
theorem dX12_tasters_161 : decode cX12_tasters 161 = .ok (.iload_n 3, 1) := by decide +kernel
theorem dX12_tasters_162 : decode cX12_tasters 162 = .ok (.bipush 100, 2) := by decide +kernel
theorem dX12_tasters_164 : decode cX12_tasters 164 = .ok (.if_icmp .ne 8, 3) := by decide +kernel
theorem dX12_tasters_167 : decode cX12_tasters 167 = .ok (.iload 4, 2) := by decide +kernel
theorem dX12_tasters_169 : decode cX12_tasters 169 = .ok (.goto 9, 3) := by decide +kernel
theorem dX12_tasters_172 : decode cX12_tasters 172 = .ok (.aload_n 0, 1) := by decide +kernel
theorem dX12_tasters_173 : decode cX12_tasters 173 = .ok (.getfield 103, 3) := by decide +kernel
theorem dX12_tasters_176 : decode cX12_tasters 176 = .ok (.iload_n 3, 1) := by decide +kernel
theorem dX12_tasters_177 : decode cX12_tasters 177 = .ok (.iaload, 1) := by decide +kernel
theorem dX12_tasters_178 : decode cX12_tasters 178 = .ok (.ireturn, 1) := by decide +kernel
theorem dX12_laysJugs_0 : decode cX12_laysJugs 0 = .ok (.aload_n 0, 1) := by decide +kernel
theorem dX12_laysJugs_1 : decode cX12_laysJugs 1 = .ok (.getfield 115, 3) := by decide +kernel
theorem dX12_laysJugs_4 : decode cX12_laysJugs 4 = .ok (.iconst 0, 1) := by decide +kernel
theorem dX12_laysJugs_5 : decode cX12_laysJugs 5 = .ok (.iload_n 1, 1) := by decide +kernel
theorem dX12_laysJugs_6 : decode cX12_laysJugs 6 = .ok (.sipush 441, 3) := by decide +kernel
theorem dX12_laysJugs_9 : decode cX12_laysJugs 9 = .ok (.idiv, 1) := by decide +kernel
theorem dX12_laysJugs_10 : decode cX12_laysJugs 10 = .ok (.iastore, 1) := by decide +kernel
theorem dX12_laysJugs_11 : decode cX12_laysJugs 11 = .ok (.aload_n 0, 1) := by decide +kernel
theorem dX12_laysJugs_12 : decode cX12_laysJugs 12 = .ok (.getfield 115, 3) := by decide +kernel
theorem dX12_laysJugs_15 : decode cX12_laysJugs 15 = .ok (.iconst 1, 1) := by decide +kernel
theorem dX12_laysJugs_16 : decode cX12_laysJugs 16 = .ok (.iload_n 1, 1) := by decide +kernel
theorem dX12_laysJugs_17 : decode cX12_laysJugs 17 = .ok (.bipush 21, 2) := by decide +kernel
theorem dX12_laysJugs_19 : decode cX12_laysJugs 19 = .ok (.idiv, 1) := by decide +kernel
theorem dX12_laysJugs_20 : decode cX12_laysJugs 20 = .ok (.bipush 21, 2) := by decide +kernel
theorem dX12_laysJugs_22 : decode cX12_laysJugs 22 = .ok (.irem, 1) := by decide +kernel
theorem dX12_laysJugs_23 : decode cX12_laysJugs 23 = .ok (.iastore, 1) := by decide +kernel
theorem dX12_laysJugs_24 : decode cX12_laysJugs 24 = .ok (.aload_n 0, 1) := by decide +kernel
theorem dX12_laysJugs_25 : decode cX12_laysJugs 25 = .ok (.getfield 115, 3) := by decide +kernel
theorem dX12_laysJugs_28 : decode cX12_laysJugs 28 = .ok (.iconst 2, 1) := by decide +kernel
theorem dX12_laysJugs_29 : decode cX12_laysJugs 29 = .ok (.iload_n 1, 1) := by decide +kernel
theorem dX12_laysJugs_30 : decode cX12_laysJugs 30 = .ok (.bipush 21, 2) := by decide +kernel
theorem dX12_laysJugs_32 : decode cX12_laysJugs 32 = .ok (.irem, 1) := by decide +kernel
theorem dX12_laysJugs_33 : decode cX12_laysJugs 33 = .ok (.iastore, 1) := by decide +kernel
theorem dX12_laysJugs_34 : decode cX12_laysJugs 34 = .ok (.return_, 1) := by decide +kernel
theorem dX12_jugState_0 : decode cX12_jugState 0 = .ok (.sipush 441, 3) := by decide +kernel
theorem dX12_jugState_3 : decode cX12_jugState 3 = .ok (.aload_n 0, 1) := by decide +kernel
theorem dX12_jugState_4 : decode cX12_jugState 4 = .ok (.getfield 115, 3) := by decide +kernel
theorem dX12_jugState_7 : decode cX12_jugState 7 = .ok (.iconst 0, 1) := by decide +kernel
theorem dX12_jugState_8 : decode cX12_jugState 8 = .ok (.iaload, 1) := by decide +kernel
theorem dX12_jugState_9 : decode cX12_jugState 9 = .ok (.imul, 1) := by decide +kernel
theorem dX12_jugState_10 : decode cX12_jugState 10 = .ok (.bipush 21, 2) := by decide +kernel
theorem dX12_jugState_12 : decode cX12_jugState 12 = .ok (.aload_n 0, 1) := by decide +kernel
theorem dX12_jugState_13 : decode cX12_jugState 13 = .ok (.getfield 115, 3) := by decide +kernel
theorem dX12_jugState_16 : decode cX12_jugState 16 = .ok (.iconst 1, 1) := by decide +kernel
theorem dX12_jugState_17 : decode cX12_jugState 17 = .ok (.iaload, 1) := by decide +kernel
theorem dX12_jugState_18 : decode cX12_jugState 18 = .ok (.imul, 1) := by decide +kernel
theorem dX12_jugState_19 : decode cX12_jugState 19 = .ok (.iadd, 1) := by decide +kernel
theorem dX12_jugState_20 : decode cX12_jugState 20 = .ok (.aload_n 0, 1) := by decide +kernel
theorem dX12_jugState_21 : decode cX12_jugState 21 = .ok (.getfield 115, 3) := by decide +kernel
theorem dX12_jugState_24 : decode cX12_jugState 24 = .ok (.iconst 2, 1) := by decide +kernel
theorem dX12_jugState_25 : decode cX12_jugState 25 = .ok (.iaload, 1) := by decide +kernel
theorem dX12_jugState_26 : decode cX12_jugState 26 = .ok (.iadd, 1) := by decide +kernel
theorem dX12_jugState_27 : decode cX12_jugState 27 = .ok (.ireturn, 1) := by decide +kernel
theorem dX12_isAnyFull_0 : decode cX12_isAnyFull 0 = .ok (.aload_n 0, 1) := by decide +kernel
theorem dX12_isAnyFull_1 : decode cX12_isAnyFull 1 = .ok (.getfield 115, 3) := by decide +kernel
theorem dX12_isAnyFull_4 : decode cX12_isAnyFull 4 = .ok (.iconst 0, 1) := by decide +kernel
theorem dX12_isAnyFull_5 : decode cX12_isAnyFull 5 = .ok (.iaload, 1) := by decide +kernel
theorem dX12_isAnyFull_6 : decode cX12_isAnyFull 6 = .ok (.iload_n 1, 1) := by decide +kernel
theorem dX12_isAnyFull_7 : decode cX12_isAnyFull 7 = .ok (.if_icmp .eq 23, 3) := by decide +kernel
theorem dX12_isAnyFull_10 : decode cX12_isAnyFull 10 = .ok (.aload_n 0, 1) := by decide +kernel
theorem dX12_isAnyFull_11 : decode cX12_isAnyFull 11 = .ok (.getfield 115, 3) := by decide +kernel
theorem dX12_isAnyFull_14 : decode cX12_isAnyFull 14 = .ok (.iconst 1, 1) := by decide +kernel
theorem dX12_isAnyFull_15 : decode cX12_isAnyFull 15 = .ok (.iaload, 1) := by decide +kernel
theorem dX12_isAnyFull_16 : decode cX12_isAnyFull 16 = .ok (.iload_n 1, 1) := by decide +kernel
theorem dX12_isAnyFull_17 : decode cX12_isAnyFull 17 = .ok (.if_icmp .eq 13, 3) := by decide +kernel
theorem dX12_isAnyFull_20 : decode cX12_isAnyFull 20 = .ok (.aload_n 0, 1) := by decide +kernel
theorem dX12_isAnyFull_21 : decode cX12_isAnyFull 21 = .ok (.getfield 115, 3) := by decide +kernel
theorem dX12_isAnyFull_24 : decode cX12_isAnyFull 24 = .ok (.iconst 2, 1) := by decide +kernel
theorem dX12_isAnyFull_25 : decode cX12_isAnyFull 25 = .ok (.iaload, 1) := by decide +kernel
theorem dX12_isAnyFull_26 : decode cX12_isAnyFull 26 = .ok (.iload_n 1, 1) := by decide +kernel
theorem dX12_isAnyFull_27 : decode cX12_isAnyFull 27 = .ok (.if_icmp .ne 7, 3) := by decide +kernel
theorem dX12_isAnyFull_30 : decode cX12_isAnyFull 30 = .ok (.iconst 1, 1) := by decide +kernel
theorem dX12_isAnyFull_31 : decode cX12_isAnyFull 31 = .ok (.goto 4, 3) := by decide +kernel
theorem dX12_isAnyFull_34 : decode cX12_isAnyFull 34 = .ok (.iconst 0, 1) := by decide +kernel
theorem dX12_isAnyFull_35 : decode cX12_isAnyFull 35 = .ok (.ireturn, 1) := by decide +kernel
theorem dX12_jugs_0 : decode cX12_jugs 0 = .ok (.iload_n 1, 1) := by decide +kernel
theorem dX12_jugs_1 : decode cX12_jugs 1 = .ok (.iconst 0, 1) := by decide +kernel
theorem dX12_jugs_2 : decode cX12_jugs 2 = .ok (.bipush 20, 2) := by decide +kernel
theorem dX12_jugs_4 : decode cX12_jugs 4 = .ok (.invokestatic 124, 3) := by decide +kernel
theorem dX12_jugs_7 : decode cX12_jugs 7 = .ok (.ifCond .eq 21, 3) := by decide +kernel
theorem dX12_jugs_10 : decode cX12_jugs 10 = .ok (.iload_n 2, 1) := by decide +kernel
theorem dX12_jugs_11 : decode cX12_jugs 11 = .ok (.iconst 0, 1) := by decide +kernel
theorem dX12_jugs_12 : decode cX12_jugs 12 = .ok (.iconst 1, 1) := by decide +kernel
theorem dX12_jugs_13 : decode cX12_jugs 13 = .ok (.invokestatic 124, 3) := by decide +kernel
theorem dX12_jugs_16 : decode cX12_jugs 16 = .ok (.ifCond .eq 12, 3) := by decide +kernel
theorem dX12_jugs_19 : decode cX12_jugs 19 = .ok (.aload_n 0, 1) := by decide +kernel
theorem dX12_jugs_20 : decode cX12_jugs 20 = .ok (.getfield 128, 3) := by decide +kernel
theorem dX12_jugs_23 : decode cX12_jugs 23 = .ok (.bipush 6, 2) := by decide +kernel
theorem dX12_jugs_25 : decode cX12_jugs 25 = .ok (.if_icmp .ge 5, 3) := by decide +kernel
theorem dX12_jugs_28 : decode cX12_jugs 28 = .ok (.iconst (-1), 1) := by decide +kernel
theorem dX12_jugs_29 : decode cX12_jugs 29 = .ok (.ireturn, 1) := by decide +kernel
theorem dX12_jugs_30 : decode cX12_jugs 30 = .ok (.aload_n 0, 1) := by decide +kernel
theorem dX12_jugs_31 : decode cX12_jugs 31 = .ok (.iconst 0, 1) := by decide +kernel
theorem dX12_jugs_32 : decode cX12_jugs 32 = .ok (.putfield 128, 3) := by decide +kernel
theorem dX12_jugs_35 : decode cX12_jugs 35 = .ok (.iconst 0, 1) := by decide +kernel
theorem dX12_jugs_36 : decode cX12_jugs 36 = .ok (.istore_n 3, 1) := by decide +kernel
theorem dX12_jugs_37 : decode cX12_jugs 37 = .ok (.iload_n 3, 1) := by decide +kernel
theorem dX12_jugs_38 : decode cX12_jugs 38 = .ok (.iconst 3, 1) := by decide +kernel
theorem dX12_jugs_39 : decode cX12_jugs 39 = .ok (.if_icmp .ge 66, 3) := by decide +kernel
theorem dX12_jugs_42 : decode cX12_jugs 42 = .ok (.aload_n 0, 1) := by decide +kernel
theorem dX12_jugs_43 : decode cX12_jugs 43 = .ok (.getfield 112, 3) := by decide +kernel
theorem dX12_jugs_46 : decode cX12_jugs 46 = .ok (.iload_n 3, 1) := by decide +kernel
theorem dX12_jugs_47 : decode cX12_jugs 47 = .ok (.aload_n 0, 1) := by decide +kernel
theorem dX12_jugs_48 : decode cX12_jugs 48 = .ok (.iconst 2, 1) := by decide +kernel
theorem dX12_jugs_49 : decode cX12_jugs 49 = .ok (.iload_n 3, 1) := by decide +kernel
theorem dX12_jugs_50 : decode cX12_jugs 50 = .ok (.imul, 1) := by decide +kernel
theorem dX12_jugs_51 : decode cX12_jugs 51 = .ok (.invokevirtual 387, 3) := by decide +kernel
theorem dX12_jugs_54 : decode cX12_jugs 54 = .ok (.iastore, 1) := by decide +kernel
theorem dX12_jugs_55 : decode cX12_jugs 55 = .ok (.aload_n 0, 1) := by decide +kernel
theorem dX12_jugs_56 : decode cX12_jugs 56 = .ok (.getfield 115, 3) := by decide +kernel
theorem dX12_jugs_59 : decode cX12_jugs 59 = .ok (.iload_n 3, 1) := by decide +kernel
theorem dX12_jugs_60 : decode cX12_jugs 60 = .ok (.aload_n 0, 1) := by decide +kernel
theorem dX12_jugs_61 : decode cX12_jugs 61 = .ok (.iconst 2, 1) := by decide +kernel
theorem dX12_jugs_62 : decode cX12_jugs 62 = .ok (.iload_n 3, 1) := by decide +kernel
theorem dX12_jugs_63 : decode cX12_jugs 63 = .ok (.imul, 1) := by decide +kernel
theorem dX12_jugs_64 : decode cX12_jugs 64 = .ok (.iconst 1, 1) := by decide +kernel
theorem dX12_jugs_65 : decode cX12_jugs 65 = .ok (.iadd, 1) := by decide +kernel
theorem dX12_jugs_66 : decode cX12_jugs 66 = .ok (.invokevirtual 387, 3) := by decide +kernel
theorem dX12_jugs_69 : decode cX12_jugs 69 = .ok (.iastore, 1) := by decide +kernel
theorem dX12_jugs_70 : decode cX12_jugs 70 = .ok (.aload_n 0, 1) := by decide +kernel
theorem dX12_jugs_71 : decode cX12_jugs 71 = .ok (.getfield 112, 3) := by decide +kernel
theorem dX12_jugs_74 : decode cX12_jugs 74 = .ok (.iload_n 3, 1) := by decide +kernel
theorem dX12_jugs_75 : decode cX12_jugs 75 = .ok (.iaload, 1) := by decide +kernel
theorem dX12_jugs_76 : decode cX12_jugs 76 = .ok (.bipush 20, 2) := by decide +kernel
theorem dX12_jugs_78 : decode cX12_jugs 78 = .ok (.if_icmp .gt 18, 3) := by decide +kernel
theorem dX12_jugs_81 : decode cX12_jugs 81 = .ok (.aload_n 0, 1) := by decide +kernel
theorem dX12_jugs_82 : decode cX12_jugs 82 = .ok (.getfield 115, 3) := by decide +kernel
theorem dX12_jugs_85 : decode cX12_jugs 85 = .ok (.iload_n 3, 1) := by decide +kernel
theorem dX12_jugs_86 : decode cX12_jugs 86 = .ok (.iaload, 1) := by decide +kernel
theorem dX12_jugs_87 : decode cX12_jugs 87 = .ok (.aload_n 0, 1) := by decide +kernel
theorem dX12_jugs_88 : decode cX12_jugs 88 = .ok (.getfield 112, 3) := by decide +kernel
theorem dX12_jugs_91 : decode cX12_jugs 91 = .ok (.iload_n 3, 1) := by decide +kernel
theorem dX12_jugs_92 : decode cX12_jugs 92 = .ok (.iaload, 1) := by decide +kernel
theorem dX12_jugs_93 : decode cX12_jugs 93 = .ok (.if_icmp .le 6, 3) := by decide +kernel
theorem dX12_jugs_96 : decode cX12_jugs 96 = .ok (.bipush (-3), 2) := by decide +kernel
theorem dX12_jugs_98 : decode cX12_jugs 98 = .ok (.ireturn, 1) := by decide +kernel
theorem dX12_jugs_99 : decode cX12_jugs 99 = .ok (.iinc 3 1, 3) := by decide +kernel
theorem dX12_jugs_102 : decode cX12_jugs 102 = .ok (.goto (-65), 3) := by decide +kernel
theorem dX12_jugs_105 : decode cX12_jugs 105 = .ok (.iconst 0, 1) := by decide +kernel
theorem dX12_jugs_106 : decode cX12_jugs 106 = .ok (.istore_n 3, 1) := by decide +kernel
theorem dX12_jugs_107 : decode cX12_jugs 107 = .ok (.iload_n 3, 1) := by decide +kernel
theorem dX12_jugs_108 : decode cX12_jugs 108 = .ok (.sipush 9261, 3) := by decide +kernel
theorem dX12_jugs_111 : decode cX12_jugs 111 = .ok (.if_icmp .ge 16, 3) := by decide +kernel
theorem dX12_jugs_114 : decode cX12_jugs 114 = .ok (.aload_n 0, 1) := by decide +kernel
theorem dX12_jugs_115 : decode cX12_jugs 115 = .ok (.getfield 109, 3) := by decide +kernel
theorem dX12_jugs_118 : decode cX12_jugs 118 = .ok (.iload_n 3, 1) := by decide +kernel
theorem dX12_jugs_119 : decode cX12_jugs 119 = .ok (.iconst (-1), 1) := by decide +kernel
theorem dX12_jugs_120 : decode cX12_jugs 120 = .ok (.iastore, 1) := by decide +kernel
theorem dX12_jugs_121 : decode cX12_jugs 121 = .ok (.iinc 3 1, 3) := by decide +kernel
theorem dX12_jugs_124 : decode cX12_jugs 124 = .ok (.goto (-17), 3) := by decide +kernel
theorem dX12_jugs_127 : decode cX12_jugs 127 = .ok (.aload_n 0, 1) := by decide +kernel
theorem dX12_jugs_128 : decode cX12_jugs 128 = .ok (.getfield 118, 3) := by decide +kernel
theorem dX12_jugs_131 : decode cX12_jugs 131 = .ok (.iconst 0, 1) := by decide +kernel
theorem dX12_jugs_132 : decode cX12_jugs 132 = .ok (.aload_n 0, 1) := by decide +kernel
theorem dX12_jugs_133 : decode cX12_jugs 133 = .ok (.invokevirtual 405, 3) := by decide +kernel
theorem dX12_jugs_136 : decode cX12_jugs 136 = .ok (.iastore, 1) := by decide +kernel
theorem dX12_jugs_137 : decode cX12_jugs 137 = .ok (.aload_n 0, 1) := by decide +kernel
theorem dX12_jugs_138 : decode cX12_jugs 138 = .ok (.getfield 109, 3) := by decide +kernel
theorem dX12_jugs_141 : decode cX12_jugs 141 = .ok (.aload_n 0, 1) := by decide +kernel
theorem dX12_jugs_142 : decode cX12_jugs 142 = .ok (.getfield 118, 3) := by decide +kernel
theorem dX12_jugs_145 : decode cX12_jugs 145 = .ok (.iconst 0, 1) := by decide +kernel
theorem dX12_jugs_146 : decode cX12_jugs 146 = .ok (.iaload, 1) := by decide +kernel
theorem dX12_jugs_147 : decode cX12_jugs 147 = .ok (.iconst 0, 1) := by decide +kernel
theorem dX12_jugs_148 : decode cX12_jugs 148 = .ok (.iastore, 1) := by decide +kernel
theorem dX12_jugs_149 : decode cX12_jugs 149 = .ok (.iconst 1, 1) := by decide +kernel
theorem dX12_jugs_150 : decode cX12_jugs 150 = .ok (.istore_n 3, 1) := by decide +kernel
theorem dX12_jugs_151 : decode cX12_jugs 151 = .ok (.bipush (-2), 2) := by decide +kernel
theorem dX12_jugs_153 : decode cX12_jugs 153 = .ok (.istore 4, 2) := by decide +kernel
theorem dX12_jugs_155 : decode cX12_jugs 155 = .ok (.iconst 0, 1) := by decide +kernel
theorem dX12_jugs_156 : decode cX12_jugs 156 = .ok (.istore 5, 2) := by decide +kernel
theorem dX12_jugs_158 : decode cX12_jugs 158 = .ok (.iload 5, 2) := by decide +kernel
theorem dX12_jugs_160 : decode cX12_jugs 160 = .ok (.iload_n 3, 1) := by decide +kernel
theorem dX12_jugs_161 : decode cX12_jugs 161 = .ok (.if_icmp .ge 213, 3) := by decide +kernel
theorem dX12_jugs_164 : decode cX12_jugs 164 = .ok (.aload_n 0, 1) := by decide +kernel
theorem dX12_jugs_165 : decode cX12_jugs 165 = .ok (.aload_n 0, 1) := by decide +kernel
theorem dX12_jugs_166 : decode cX12_jugs 166 = .ok (.getfield 118, 3) := by decide +kernel
theorem dX12_jugs_169 : decode cX12_jugs 169 = .ok (.iload 5, 2) := by decide +kernel
theorem dX12_jugs_171 : decode cX12_jugs 171 = .ok (.iaload, 1) := by decide +kernel
theorem dX12_jugs_172 : decode cX12_jugs 172 = .ok (.invokevirtual 408, 3) := by decide +kernel
theorem dX12_jugs_175 : decode cX12_jugs 175 = .ok (.iload 4, 2) := by decide +kernel
theorem dX12_jugs_177 : decode cX12_jugs 177 = .ok (.bipush (-2), 2) := by decide +kernel
theorem dX12_jugs_179 : decode cX12_jugs 179 = .ok (.if_icmp .ne 25, 3) := by decide +kernel
theorem dX12_jugs_182 : decode cX12_jugs 182 = .ok (.aload_n 0, 1) := by decide +kernel
theorem dX12_jugs_183 : decode cX12_jugs 183 = .ok (.iload_n 1, 1) := by decide +kernel
theorem dX12_jugs_184 : decode cX12_jugs 184 = .ok (.invokevirtual 411, 3) := by decide +kernel
theorem dX12_jugs_187 : decode cX12_jugs 187 = .ok (.ifCond .eq 17, 3) := by decide +kernel
theorem dX12_jugs_190 : decode cX12_jugs 190 = .ok (.aload_n 0, 1) := by decide +kernel
theorem dX12_jugs_191 : decode cX12_jugs 191 = .ok (.getfield 109, 3) := by decide +kernel
theorem dX12_jugs_194 : decode cX12_jugs 194 = .ok (.aload_n 0, 1) := by decide +kernel
theorem dX12_jugs_195 : decode cX12_jugs 195 = .ok (.getfield 118, 3) := by decide +kernel
theorem dX12_jugs_198 : decode cX12_jugs 198 = .ok (.iload 5, 2) := by decide +kernel
theorem dX12_jugs_200 : decode cX12_jugs 200 = .ok (.iaload, 1) := by decide +kernel
theorem dX12_jugs_201 : decode cX12_jugs 201 = .ok (.iaload, 1) := by decide +kernel
theorem dX12_jugs_202 : decode cX12_jugs 202 = .ok (.istore 4, 2) := by decide +kernel
theorem dX12_jugs_204 : decode cX12_jugs 204 = .ok (.iconst 0, 1) := by decide +kernel
theorem dX12_jugs_205 : decode cX12_jugs 205 = .ok (.istore 6, 2) := by decide +kernel
theorem dX12_jugs_207 : decode cX12_jugs 207 = .ok (.iload 6, 2) := by decide +kernel
theorem dX12_jugs_209 : decode cX12_jugs 209 = .ok (.bipush 9, 2) := by decide +kernel
theorem dX12_jugs_211 : decode cX12_jugs 211 = .ok (.if_icmp .ge 157, 3) := by decide +kernel
theorem dX12_jugs_214 : decode cX12_jugs 214 = .ok (.aload_n 0, 1) := by decide +kernel
theorem dX12_jugs_215 : decode cX12_jugs 215 = .ok (.aload_n 0, 1) := by decide +kernel
theorem dX12_jugs_216 : decode cX12_jugs 216 = .ok (.getfield 118, 3) := by decide +kernel
theorem dX12_jugs_219 : decode cX12_jugs 219 = .ok (.iload 5, 2) := by decide +kernel
theorem dX12_jugs_221 : decode cX12_jugs 221 = .ok (.iaload, 1) := by decide +kernel
theorem dX12_jugs_222 : decode cX12_jugs 222 = .ok (.invokevirtual 408, 3) := by decide +kernel
theorem dX12_jugs_225 : decode cX12_jugs 225 = .ok (.iload 6, 2) := by decide +kernel
theorem dX12_jugs_227 : decode cX12_jugs 227 = .ok (.iconst 3, 1) := by decide +kernel
theorem dX12_jugs_228 : decode cX12_jugs 228 = .ok (.idiv, 1) := by decide +kernel
theorem dX12_jugs_229 : decode cX12_jugs 229 = .ok (.istore 7, 2) := by decide +kernel
theorem dX12_jugs_231 : decode cX12_jugs 231 = .ok (.iload 6, 2) := by decide +kernel
theorem dX12_jugs_233 : decode cX12_jugs 233 = .ok (.iconst 3, 1) := by decide +kernel
theorem dX12_jugs_234 : decode cX12_jugs 234 = .ok (.irem, 1) := by decide +kernel
theorem dX12_jugs_235 : decode cX12_jugs 235 = .ok (.istore 8, 2) := by decide +kernel
theorem dX12_jugs_237 : decode cX12_jugs 237 = .ok (.iload 7, 2) := by decide +kernel
theorem dX12_jugs_239 : decode cX12_jugs 239 = .ok (.iload 8, 2) := by decide +kernel
theorem dX12_jugs_241 : decode cX12_jugs 241 = .ok (.if_icmp .ne 7, 3) := by decide +kernel
theorem dX12_jugs_244 : decode cX12_jugs 244 = .ok (.iconst 0, 1) := by decide +kernel
theorem dX12_jugs_245 : decode cX12_jugs 245 = .ok (.goto 28, 3) := by decide +kernel
theorem dX12_jugs_248 : decode cX12_jugs 248 = .ok (.aload_n 0, 1) := by decide +kernel
theorem dX12_jugs_249 : decode cX12_jugs 249 = .ok (.getfield 115, 3) := by decide +kernel
theorem dX12_jugs_252 : decode cX12_jugs 252 = .ok (.iload 7, 2) := by decide +kernel
theorem dX12_jugs_254 : decode cX12_jugs 254 = .ok (.iaload, 1) := by decide +kernel
theorem dX12_jugs_255 : decode cX12_jugs 255 = .ok (.aload_n 0, 1) := by decide +kernel
theorem dX12_jugs_256 : decode cX12_jugs 256 = .ok (.getfield 112, 3) := by decide +kernel
theorem dX12_jugs_259 : decode cX12_jugs 259 = .ok (.iload 8, 2) := by decide +kernel
theorem dX12_jugs_261 : decode cX12_jugs 261 = .ok (.iaload, 1) := by decide +kernel
theorem dX12_jugs_262 : decode cX12_jugs 262 = .ok (.aload_n 0, 1) := by decide +kernel
theorem dX12_jugs_263 : decode cX12_jugs 263 = .ok (.getfield 115, 3) := by decide +kernel
theorem dX12_jugs_266 : decode cX12_jugs 266 = .ok (.iload 8, 2) := by decide +kernel
theorem dX12_jugs_268 : decode cX12_jugs 268 = .ok (.iaload, 1) := by decide +kernel
theorem dX12_jugs_269 : decode cX12_jugs 269 = .ok (.isub, 1) := by decide +kernel
theorem dX12_jugs_270 : decode cX12_jugs 270 = .ok (.invokestatic 292, 3) := by decide +kernel
theorem dX12_jugs_273 : decode cX12_jugs 273 = .ok (.istore 9, 2) := by decide +kernel
theorem dX12_jugs_275 : decode cX12_jugs 275 = .ok (.aload_n 0, 1) := by decide +kernel
theorem dX12_jugs_276 : decode cX12_jugs 276 = .ok (.getfield 115, 3) := by decide +kernel
theorem dX12_jugs_279 : decode cX12_jugs 279 = .ok (.iload 7, 2) := by decide +kernel
theorem dX12_jugs_281 : decode cX12_jugs 281 = .ok (.aload_n 0, 1) := by decide +kernel
theorem dX12_jugs_282 : decode cX12_jugs 282 = .ok (.getfield 115, 3) := by decide +kernel
theorem dX12_jugs_285 : decode cX12_jugs 285 = .ok (.iload 7, 2) := by decide +kernel
theorem dX12_jugs_287 : decode cX12_jugs 287 = .ok (.iaload, 1) := by decide +kernel
theorem dX12_jugs_288 : decode cX12_jugs 288 = .ok (.iload 9, 2) := by decide +kernel
theorem dX12_jugs_290 : decode cX12_jugs 290 = .ok (.isub, 1) := by decide +kernel
theorem dX12_jugs_291 : decode cX12_jugs 291 = .ok (.iastore, 1) := by decide +kernel
theorem dX12_jugs_292 : decode cX12_jugs 292 = .ok (.aload_n 0, 1) := by decide +kernel
theorem dX12_jugs_293 : decode cX12_jugs 293 = .ok (.getfield 115, 3) := by decide +kernel
theorem dX12_jugs_296 : decode cX12_jugs 296 = .ok (.iload 8, 2) := by decide +kernel
theorem dX12_jugs_298 : decode cX12_jugs 298 = .ok (.aload_n 0, 1) := by decide +kernel
theorem dX12_jugs_299 : decode cX12_jugs 299 = .ok (.getfield 115, 3) := by decide +kernel
theorem dX12_jugs_302 : decode cX12_jugs 302 = .ok (.iload 8, 2) := by decide +kernel
theorem dX12_jugs_304 : decode cX12_jugs 304 = .ok (.iaload, 1) := by decide +kernel
theorem dX12_jugs_305 : decode cX12_jugs 305 = .ok (.iload 9, 2) := by decide +kernel
theorem dX12_jugs_307 : decode cX12_jugs 307 = .ok (.iadd, 1) := by decide +kernel
theorem dX12_jugs_308 : decode cX12_jugs 308 = .ok (.iastore, 1) := by decide +kernel
theorem dX12_jugs_309 : decode cX12_jugs 309 = .ok (.aload_n 0, 1) := by decide +kernel
theorem dX12_jugs_310 : decode cX12_jugs 310 = .ok (.getfield 109, 3) := by decide +kernel
theorem dX12_jugs_313 : decode cX12_jugs 313 = .ok (.aload_n 0, 1) := by decide +kernel
theorem dX12_jugs_314 : decode cX12_jugs 314 = .ok (.invokevirtual 405, 3) := by decide +kernel
theorem dX12_jugs_317 : decode cX12_jugs 317 = .ok (.iaload, 1) := by decide +kernel
theorem dX12_jugs_318 : decode cX12_jugs 318 = .ok (.iconst (-1), 1) := by decide +kernel
theorem dX12_jugs_319 : decode cX12_jugs 319 = .ok (.if_icmp .eq 6, 3) := by decide +kernel
theorem dX12_jugs_322 : decode cX12_jugs 322 = .ok (.goto 40, 3) := by decide +kernel
theorem dX12_jugs_325 : decode cX12_jugs 325 = .ok (.aload_n 0, 1) := by decide +kernel
theorem dX12_jugs_326 : decode cX12_jugs 326 = .ok (.getfield 109, 3) := by decide +kernel
theorem dX12_jugs_329 : decode cX12_jugs 329 = .ok (.aload_n 0, 1) := by decide +kernel
theorem dX12_jugs_330 : decode cX12_jugs 330 = .ok (.invokevirtual 405, 3) := by decide +kernel
theorem dX12_jugs_333 : decode cX12_jugs 333 = .ok (.aload_n 0, 1) := by decide +kernel
theorem dX12_jugs_334 : decode cX12_jugs 334 = .ok (.getfield 109, 3) := by decide +kernel
theorem dX12_jugs_337 : decode cX12_jugs 337 = .ok (.aload_n 0, 1) := by decide +kernel
theorem dX12_jugs_338 : decode cX12_jugs 338 = .ok (.getfield 118, 3) := by decide +kernel
theorem dX12_jugs_341 : decode cX12_jugs 341 = .ok (.iload 5, 2) := by decide +kernel
theorem dX12_jugs_343 : decode cX12_jugs 343 = .ok (.iaload, 1) := by decide +kernel
theorem dX12_jugs_344 : decode cX12_jugs 344 = .ok (.iaload, 1) := by decide +kernel
theorem dX12_jugs_345 : decode cX12_jugs 345 = .ok (.iconst 1, 1) := by decide +kernel
theorem dX12_jugs_346 : decode cX12_jugs 346 = .ok (.iadd, 1) := by decide +kernel
theorem dX12_jugs_347 : decode cX12_jugs 347 = .ok (.iastore, 1) := by decide +kernel
theorem dX12_jugs_348 : decode cX12_jugs 348 = .ok (.aload_n 0, 1) := by decide +kernel
theorem dX12_jugs_349 : decode cX12_jugs 349 = .ok (.getfield 118, 3) := by decide +kernel
theorem dX12_jugs_352 : decode cX12_jugs 352 = .ok (.iload_n 3, 1) := by decide +kernel
theorem dX12_jugs_353 : decode cX12_jugs 353 = .ok (.aload_n 0, 1) := by decide +kernel
theorem dX12_jugs_354 : decode cX12_jugs 354 = .ok (.invokevirtual 405, 3) := by decide +kernel
theorem dX12_jugs_357 : decode cX12_jugs 357 = .ok (.iastore, 1) := by decide +kernel
theorem dX12_jugs_358 : decode cX12_jugs 358 = .ok (.iload_n 3, 1) := by decide +kernel
theorem dX12_jugs_359 : decode cX12_jugs 359 = .ok (.iconst 1, 1) := by decide +kernel
theorem dX12_jugs_360 : decode cX12_jugs 360 = .ok (.iadd, 1) := by decide +kernel
theorem dX12_jugs_361 : decode cX12_jugs 361 = .ok (.istore_n 3, 1) := by decide +kernel
theorem dX12_jugs_362 : decode cX12_jugs 362 = .ok (.iinc 6 1, 3) := by decide +kernel
theorem dX12_jugs_365 : decode cX12_jugs 365 = .ok (.goto (-158), 3) := by decide +kernel
theorem dX12_jugs_368 : decode cX12_jugs 368 = .ok (.iinc 5 1, 3) := by decide +kernel
theorem dX12_jugs_371 : decode cX12_jugs 371 = .ok (.goto (-213), 3) := by decide +kernel
theorem dX12_jugs_374 : decode cX12_jugs 374 = .ok (.iload_n 2, 1) := by decide +kernel
theorem dX12_jugs_375 : decode cX12_jugs 375 = .ok (.ifCond .ne 8, 3) := by decide +kernel
theorem dX12_jugs_378 : decode cX12_jugs 378 = .ok (.iload 4, 2) := by decide +kernel
theorem dX12_jugs_380 : decode cX12_jugs 380 = .ok (.goto 4, 3) := by decide +kernel
theorem dX12_jugs_383 : decode cX12_jugs 383 = .ok (.iload_n 3, 1) := by decide +kernel
theorem dX12_jugs_384 : decode cX12_jugs 384 = .ok (.ireturn, 1) := by decide +kernel
theorem dX12_losesAt_0 : decode cX12_losesAt 0 = .ok (.aload_n 0, 1) := by decide +kernel
theorem dX12_losesAt_1 : decode cX12_losesAt 1 = .ok (.iconst 2, 1) := by decide +kernel
theorem dX12_losesAt_2 : decode cX12_losesAt 2 = .ok (.iload_n 1, 1) := by decide +kernel
theorem dX12_losesAt_3 : decode cX12_losesAt 3 = .ok (.imul, 1) := by decide +kernel
theorem dX12_losesAt_4 : decode cX12_losesAt 4 = .ok (.iconst 1, 1) := by decide +kernel
theorem dX12_losesAt_5 : decode cX12_losesAt 5 = .ok (.iadd, 1) := by decide +kernel
theorem dX12_losesAt_6 : decode cX12_losesAt 6 = .ok (.invokevirtual 387, 3) := by decide +kernel
theorem dX12_losesAt_9 : decode cX12_losesAt 9 = .ok (.aload_n 0, 1) := by decide +kernel
theorem dX12_losesAt_10 : decode cX12_losesAt 10 = .ok (.iconst 2, 1) := by decide +kernel
theorem dX12_losesAt_11 : decode cX12_losesAt 11 = .ok (.iload_n 1, 1) := by decide +kernel
theorem dX12_losesAt_12 : decode cX12_losesAt 12 = .ok (.imul, 1) := by decide +kernel
theorem dX12_losesAt_13 : decode cX12_losesAt 13 = .ok (.invokevirtual 387, 3) := by decide +kernel
theorem dX12_losesAt_16 : decode cX12_losesAt 16 = .ok (.iload_n 2, 1) := by decide +kernel
theorem dX12_losesAt_17 : decode cX12_losesAt 17 = .ok (.isub, 1) := by decide +kernel
theorem dX12_losesAt_18 : decode cX12_losesAt 18 = .ok (.invokestatic 414, 3) := by decide +kernel
theorem dX12_losesAt_21 : decode cX12_losesAt 21 = .ok (.imul, 1) := by decide +kernel
theorem dX12_losesAt_22 : decode cX12_losesAt 22 = .ok (.ireturn, 1) := by decide +kernel
theorem dX12_laysLoss_0 : decode cX12_laysLoss 0 = .ok (.aload_n 0, 1) := by decide +kernel
theorem dX12_laysLoss_1 : decode cX12_laysLoss 1 = .ok (.getfield 121, 3) := by decide +kernel
theorem dX12_laysLoss_4 : decode cX12_laysLoss 4 = .ok (.iconst 1, 1) := by decide +kernel
theorem dX12_laysLoss_5 : decode cX12_laysLoss 5 = .ok (.iload_n 1, 1) := by decide +kernel
theorem dX12_laysLoss_6 : decode cX12_laysLoss 6 = .ok (.ishl, 1) := by decide +kernel
theorem dX12_laysLoss_7 : decode cX12_laysLoss 7 = .ok (.iconst 1, 1) := by decide +kernel
theorem dX12_laysLoss_8 : decode cX12_laysLoss 8 = .ok (.isub, 1) := by decide +kernel
theorem dX12_laysLoss_9 : decode cX12_laysLoss 9 = .ok (.iconst 0, 1) := by decide +kernel
theorem dX12_laysLoss_10 : decode cX12_laysLoss 10 = .ok (.iastore, 1) := by decide +kernel
theorem dX12_laysLoss_11 : decode cX12_laysLoss 11 = .ok (.iconst 1, 1) := by decide +kernel
theorem dX12_laysLoss_12 : decode cX12_laysLoss 12 = .ok (.iload_n 1, 1) := by decide +kernel
theorem dX12_laysLoss_13 : decode cX12_laysLoss 13 = .ok (.ishl, 1) := by decide +kernel
theorem dX12_laysLoss_14 : decode cX12_laysLoss 14 = .ok (.iconst 2, 1) := by decide +kernel
theorem dX12_laysLoss_15 : decode cX12_laysLoss 15 = .ok (.isub, 1) := by decide +kernel
theorem dX12_laysLoss_16 : decode cX12_laysLoss 16 = .ok (.istore_n 3, 1) := by decide +kernel
theorem dX12_laysLoss_17 : decode cX12_laysLoss 17 = .ok (.iload_n 3, 1) := by decide +kernel
theorem dX12_laysLoss_18 : decode cX12_laysLoss 18 = .ok (.ifCond .lt 81, 3) := by decide +kernel
theorem dX12_laysLoss_21 : decode cX12_laysLoss 21 = .ok (.aload_n 0, 1) := by decide +kernel
theorem dX12_laysLoss_22 : decode cX12_laysLoss 22 = .ok (.getfield 121, 3) := by decide +kernel
theorem dX12_laysLoss_25 : decode cX12_laysLoss 25 = .ok (.iload_n 3, 1) := by decide +kernel
theorem dX12_laysLoss_26 : decode cX12_laysLoss 26 = .ok (.ldc_w 398, 3) := by decide +kernel
theorem dX12_laysLoss_29 : decode cX12_laysLoss 29 = .ok (.iastore, 1) := by decide +kernel
theorem dX12_laysLoss_30 : decode cX12_laysLoss 30 = .ok (.iconst 0, 1) := by decide +kernel
theorem dX12_laysLoss_31 : decode cX12_laysLoss 31 = .ok (.istore 4, 2) := by decide +kernel
theorem dX12_laysLoss_33 : decode cX12_laysLoss 33 = .ok (.iload 4, 2) := by decide +kernel
theorem dX12_laysLoss_35 : decode cX12_laysLoss 35 = .ok (.iload_n 1, 1) := by decide +kernel
theorem dX12_laysLoss_36 : decode cX12_laysLoss 36 = .ok (.if_icmp .ge 57, 3) := by decide +kernel
theorem dX12_laysLoss_39 : decode cX12_laysLoss 39 = .ok (.iload_n 3, 1) := by decide +kernel
theorem dX12_laysLoss_40 : decode cX12_laysLoss 40 = .ok (.iload 4, 2) := by decide +kernel
theorem dX12_laysLoss_42 : decode cX12_laysLoss 42 = .ok (.invokestatic 376, 3) := by decide +kernel
theorem dX12_laysLoss_45 : decode cX12_laysLoss 45 = .ok (.ifCond .ne 42, 3) := by decide +kernel
theorem dX12_laysLoss_48 : decode cX12_laysLoss 48 = .ok (.aload_n 0, 1) := by decide +kernel
theorem dX12_laysLoss_49 : decode cX12_laysLoss 49 = .ok (.getfield 121, 3) := by decide +kernel
theorem dX12_laysLoss_52 : decode cX12_laysLoss 52 = .ok (.iload_n 3, 1) := by decide +kernel
theorem dX12_laysLoss_53 : decode cX12_laysLoss 53 = .ok (.aload_n 0, 1) := by decide +kernel
theorem dX12_laysLoss_54 : decode cX12_laysLoss 54 = .ok (.getfield 121, 3) := by decide +kernel
theorem dX12_laysLoss_57 : decode cX12_laysLoss 57 = .ok (.iload_n 3, 1) := by decide +kernel
theorem dX12_laysLoss_58 : decode cX12_laysLoss 58 = .ok (.iaload, 1) := by decide +kernel
theorem dX12_laysLoss_59 : decode cX12_laysLoss 59 = .ok (.aload_n 0, 1) := by decide +kernel
theorem dX12_laysLoss_60 : decode cX12_laysLoss 60 = .ok (.iload 4, 2) := by decide +kernel
theorem dX12_laysLoss_62 : decode cX12_laysLoss 62 = .ok (.iload_n 2, 1) := by decide +kernel
theorem dX12_laysLoss_63 : decode cX12_laysLoss 63 = .ok (.iload_n 3, 1) := by decide +kernel
theorem dX12_laysLoss_64 : decode cX12_laysLoss 64 = .ok (.invokestatic 379, 3) := by decide +kernel
theorem dX12_laysLoss_67 : decode cX12_laysLoss 67 = .ok (.iadd, 1) := by decide +kernel
theorem dX12_laysLoss_68 : decode cX12_laysLoss 68 = .ok (.invokevirtual 417, 3) := by decide +kernel
theorem dX12_laysLoss_71 : decode cX12_laysLoss 71 = .ok (.aload_n 0, 1) := by decide +kernel
theorem dX12_laysLoss_72 : decode cX12_laysLoss 72 = .ok (.getfield 121, 3) := by decide +kernel
theorem dX12_laysLoss_75 : decode cX12_laysLoss 75 = .ok (.iload_n 3, 1) := by decide +kernel
theorem dX12_laysLoss_76 : decode cX12_laysLoss 76 = .ok (.iconst 1, 1) := by decide +kernel
theorem dX12_laysLoss_77 : decode cX12_laysLoss 77 = .ok (.iload 4, 2) := by decide +kernel
theorem dX12_laysLoss_79 : decode cX12_laysLoss 79 = .ok (.ishl, 1) := by decide +kernel
theorem dX12_laysLoss_80 : decode cX12_laysLoss 80 = .ok (.ior, 1) := by decide +kernel
theorem dX12_laysLoss_81 : decode cX12_laysLoss 81 = .ok (.iaload, 1) := by decide +kernel
theorem dX12_laysLoss_82 : decode cX12_laysLoss 82 = .ok (.iadd, 1) := by decide +kernel
theorem dX12_laysLoss_83 : decode cX12_laysLoss 83 = .ok (.invokestatic 292, 3) := by decide +kernel
theorem dX12_laysLoss_86 : decode cX12_laysLoss 86 = .ok (.iastore, 1) := by decide +kernel
theorem dX12_laysLoss_87 : decode cX12_laysLoss 87 = .ok (.iinc 4 1, 3) := by decide +kernel
theorem dX12_laysLoss_90 : decode cX12_laysLoss 90 = .ok (.goto (-57), 3) := by decide +kernel
theorem dX12_laysLoss_93 : decode cX12_laysLoss 93 = .ok (.iinc 3 (-1), 3) := by decide +kernel
theorem dX12_laysLoss_96 : decode cX12_laysLoss 96 = .ok (.goto (-79), 3) := by decide +kernel
theorem dX12_laysLoss_99 : decode cX12_laysLoss 99 = .ok (.return_, 1) := by decide +kernel
theorem dX12_cellar_0 : decode cX12_cellar 0 = .ok (.iload_n 1, 1) := by decide +kernel
theorem dX12_cellar_1 : decode cX12_cellar 1 = .ok (.iconst 1, 1) := by decide +kernel
theorem dX12_cellar_2 : decode cX12_cellar 2 = .ok (.bipush 8, 2) := by decide +kernel
theorem dX12_cellar_4 : decode cX12_cellar 4 = .ok (.invokestatic 124, 3) := by decide +kernel
theorem dX12_cellar_7 : decode cX12_cellar 7 = .ok (.ifCond .eq 40, 3) := by decide +kernel
theorem dX12_cellar_10 : decode cX12_cellar 10 = .ok (.iload_n 2, 1) := by decide +kernel
theorem dX12_cellar_11 : decode cX12_cellar 11 = .ok (.iconst 0, 1) := by decide +kernel
theorem dX12_cellar_12 : decode cX12_cellar 12 = .ok (.bipush 99, 2) := by decide +kernel
theorem dX12_cellar_14 : decode cX12_cellar 14 = .ok (.invokestatic 124, 3) := by decide +kernel
theorem dX12_cellar_17 : decode cX12_cellar 17 = .ok (.ifCond .eq 30, 3) := by decide +kernel
theorem dX12_cellar_20 : decode cX12_cellar 20 = .ok (.iload_n 3, 1) := by decide +kernel
theorem dX12_cellar_21 : decode cX12_cellar 21 = .ok (.iconst 0, 1) := by decide +kernel
theorem dX12_cellar_22 : decode cX12_cellar 22 = .ok (.iload_n 1, 1) := by decide +kernel
theorem dX12_cellar_23 : decode cX12_cellar 23 = .ok (.iconst 1, 1) := by decide +kernel
theorem dX12_cellar_24 : decode cX12_cellar 24 = .ok (.isub, 1) := by decide +kernel
theorem dX12_cellar_25 : decode cX12_cellar 25 = .ok (.invokestatic 124, 3) := by decide +kernel
theorem dX12_cellar_28 : decode cX12_cellar 28 = .ok (.ifCond .ne 9, 3) := by decide +kernel
theorem dX12_cellar_31 : decode cX12_cellar 31 = .ok (.iload_n 3, 1) := by decide +kernel
theorem dX12_cellar_32 : decode cX12_cellar 32 = .ok (.bipush 100, 2) := by decide +kernel
theorem dX12_cellar_34 : decode cX12_cellar 34 = .ok (.if_icmp .ne 13, 3) := by decide +kernel
theorem dX12_cellar_37 : decode cX12_cellar 37 = .ok (.iconst 2, 1) := by decide +kernel
theorem dX12_cellar_38 : decode cX12_cellar 38 = .ok (.iload_n 1, 1) := by decide +kernel
theorem dX12_cellar_39 : decode cX12_cellar 39 = .ok (.imul, 1) := by decide +kernel
theorem dX12_cellar_40 : decode cX12_cellar 40 = .ok (.aload_n 0, 1) := by decide +kernel
theorem dX12_cellar_41 : decode cX12_cellar 41 = .ok (.getfield 128, 3) := by decide +kernel
theorem dX12_cellar_44 : decode cX12_cellar 44 = .ok (.if_icmp .le 5, 3) := by decide +kernel
theorem dX12_cellar_47 : decode cX12_cellar 47 = .ok (.iconst (-1), 1) := by decide +kernel
theorem dX12_cellar_48 : decode cX12_cellar 48 = .ok (.ireturn, 1) := by decide +kernel
theorem dX12_cellar_49 : decode cX12_cellar 49 = .ok (.aload_n 0, 1) := by decide +kernel
theorem dX12_cellar_50 : decode cX12_cellar 50 = .ok (.iconst 0, 1) := by decide +kernel
theorem dX12_cellar_51 : decode cX12_cellar 51 = .ok (.putfield 128, 3) := by decide +kernel
theorem dX12_cellar_54 : decode cX12_cellar 54 = .ok (.iconst 0, 1) := by decide +kernel
theorem dX12_cellar_55 : decode cX12_cellar 55 = .ok (.istore 4, 2) := by decide +kernel
theorem dX12_cellar_57 : decode cX12_cellar 57 = .ok (.iload 4, 2) := by decide +kernel
theorem dX12_cellar_59 : decode cX12_cellar 59 = .ok (.iload_n 1, 1) := by decide +kernel
theorem dX12_cellar_60 : decode cX12_cellar 60 = .ok (.if_icmp .ge 40, 3) := by decide +kernel
theorem dX12_cellar_63 : decode cX12_cellar 63 = .ok (.aload_n 0, 1) := by decide +kernel
theorem dX12_cellar_64 : decode cX12_cellar 64 = .ok (.iconst 2, 1) := by decide +kernel
theorem dX12_cellar_65 : decode cX12_cellar 65 = .ok (.iload 4, 2) := by decide +kernel
theorem dX12_cellar_67 : decode cX12_cellar 67 = .ok (.imul, 1) := by decide +kernel
theorem dX12_cellar_68 : decode cX12_cellar 68 = .ok (.invokevirtual 387, 3) := by decide +kernel
theorem dX12_cellar_71 : decode cX12_cellar 71 = .ok (.bipush 99, 2) := by decide +kernel
theorem dX12_cellar_73 : decode cX12_cellar 73 = .ok (.if_icmp .gt 18, 3) := by decide +kernel
theorem dX12_cellar_76 : decode cX12_cellar 76 = .ok (.aload_n 0, 1) := by decide +kernel
theorem dX12_cellar_77 : decode cX12_cellar 77 = .ok (.iconst 2, 1) := by decide +kernel
theorem dX12_cellar_78 : decode cX12_cellar 78 = .ok (.iload 4, 2) := by decide +kernel
theorem dX12_cellar_80 : decode cX12_cellar 80 = .ok (.imul, 1) := by decide +kernel
theorem dX12_cellar_81 : decode cX12_cellar 81 = .ok (.iconst 1, 1) := by decide +kernel
theorem dX12_cellar_82 : decode cX12_cellar 82 = .ok (.iadd, 1) := by decide +kernel
theorem dX12_cellar_83 : decode cX12_cellar 83 = .ok (.invokevirtual 387, 3) := by decide +kernel
theorem dX12_cellar_86 : decode cX12_cellar 86 = .ok (.bipush 50, 2) := by decide +kernel
theorem dX12_cellar_88 : decode cX12_cellar 88 = .ok (.if_icmp .le 6, 3) := by decide +kernel
theorem dX12_cellar_91 : decode cX12_cellar 91 = .ok (.bipush (-3), 2) := by decide +kernel
theorem dX12_cellar_93 : decode cX12_cellar 93 = .ok (.ireturn, 1) := by decide +kernel
theorem dX12_cellar_94 : decode cX12_cellar 94 = .ok (.iinc 4 1, 3) := by decide +kernel
theorem dX12_cellar_97 : decode cX12_cellar 97 = .ok (.goto (-40), 3) := by decide +kernel
theorem dX12_cellar_100 : decode cX12_cellar 100 = .ok (.aload_n 0, 1) := by decide +kernel
theorem dX12_cellar_101 : decode cX12_cellar 101 = .ok (.iload_n 1, 1) := by decide +kernel
theorem dX12_cellar_102 : decode cX12_cellar 102 = .ok (.iload_n 2, 1) := by decide +kernel
theorem dX12_cellar_103 : decode cX12_cellar 103 = .ok (.invokevirtual 420, 3) := by decide +kernel
theorem dX12_cellar_106 : decode cX12_cellar 106 = .ok (.iload_n 3, 1) := by decide +kernel
theorem dX12_cellar_107 : decode cX12_cellar 107 = .ok (.bipush 100, 2) := by decide +kernel
theorem dX12_cellar_109 : decode cX12_cellar 109 = .ok (.if_icmp .ne 10, 3) := by decide +kernel
theorem dX12_cellar_112 : decode cX12_cellar 112 = .ok (.aload_n 0, 1) := by decide +kernel
theorem dX12_cellar_113 : decode cX12_cellar 113 = .ok (.getfield 121, 3) := by decide +kernel
theorem dX12_cellar_116 : decode cX12_cellar 116 = .ok (.iconst 0, 1) := by decide +kernel
theorem dX12_cellar_117 : decode cX12_cellar 117 = .ok (.iaload, 1) := by decide +kernel
theorem dX12_cellar_118 : decode cX12_cellar 118 = .ok (.ireturn, 1) := by decide +kernel
theorem dX12_cellar_119 : decode cX12_cellar 119 = .ok (.iconst 0, 1) := by decide +kernel
theorem dX12_cellar_120 : decode cX12_cellar 120 = .ok (.istore 4, 2) := by decide +kernel
theorem dX12_cellar_122 : decode cX12_cellar 122 = .ok (.iconst 0, 1) := by decide +kernel
theorem dX12_cellar_123 : decode cX12_cellar 123 = .ok (.istore 5, 2) := by decide +kernel
theorem dX12_cellar_125 : decode cX12_cellar 125 = .ok (.iconst 0, 1) := by decide +kernel
theorem dX12_cellar_126 : decode cX12_cellar 126 = .ok (.istore 6, 2) := by decide +kernel
theorem dX12_cellar_128 : decode cX12_cellar 128 = .ok (.iload 6, 2) := by decide +kernel
theorem dX12_cellar_130 : decode cX12_cellar 130 = .ok (.iload_n 3, 1) := by decide +kernel
theorem dX12_cellar_131 : decode cX12_cellar 131 = .ok (.if_icmp .gt 73, 3) := by decide +kernel
theorem dX12_cellar_134 : decode cX12_cellar 134 = .ok (.iconst 0, 1) := by decide +kernel
theorem dX12_cellar_135 : decode cX12_cellar 135 = .ok (.istore 5, 2) := by decide +kernel
theorem dX12_cellar_137 : decode cX12_cellar 137 = .ok (.iload 4, 2) := by decide +kernel
theorem dX12_cellar_139 : decode cX12_cellar 139 = .ok (.iload 5, 2) := by decide +kernel
theorem dX12_cellar_141 : decode cX12_cellar 141 = .ok (.invokestatic 376, 3) := by decide +kernel
theorem dX12_cellar_144 : decode cX12_cellar 144 = .ok (.ifCond .ne 36, 3) := by decide +kernel
theorem dX12_cellar_147 : decode cX12_cellar 147 = .ok (.aload_n 0, 1) := by decide +kernel
theorem dX12_cellar_148 : decode cX12_cellar 148 = .ok (.iload 5, 2) := by decide +kernel
theorem dX12_cellar_150 : decode cX12_cellar 150 = .ok (.iload_n 2, 1) := by decide +kernel
theorem dX12_cellar_151 : decode cX12_cellar 151 = .ok (.iload 6, 2) := by decide +kernel
theorem dX12_cellar_153 : decode cX12_cellar 153 = .ok (.iadd, 1) := by decide +kernel
theorem dX12_cellar_154 : decode cX12_cellar 154 = .ok (.invokevirtual 417, 3) := by decide +kernel
theorem dX12_cellar_157 : decode cX12_cellar 157 = .ok (.aload_n 0, 1) := by decide +kernel
theorem dX12_cellar_158 : decode cX12_cellar 158 = .ok (.getfield 121, 3) := by decide +kernel
theorem dX12_cellar_161 : decode cX12_cellar 161 = .ok (.iload 4, 2) := by decide +kernel
theorem dX12_cellar_163 : decode cX12_cellar 163 = .ok (.iconst 1, 1) := by decide +kernel
theorem dX12_cellar_164 : decode cX12_cellar 164 = .ok (.iload 5, 2) := by decide +kernel
theorem dX12_cellar_166 : decode cX12_cellar 166 = .ok (.ishl, 1) := by decide +kernel
theorem dX12_cellar_167 : decode cX12_cellar 167 = .ok (.ior, 1) := by decide +kernel
theorem dX12_cellar_168 : decode cX12_cellar 168 = .ok (.iaload, 1) := by decide +kernel
theorem dX12_cellar_169 : decode cX12_cellar 169 = .ok (.iadd, 1) := by decide +kernel
theorem dX12_cellar_170 : decode cX12_cellar 170 = .ok (.aload_n 0, 1) := by decide +kernel
theorem dX12_cellar_171 : decode cX12_cellar 171 = .ok (.getfield 121, 3) := by decide +kernel
theorem dX12_cellar_174 : decode cX12_cellar 174 = .ok (.iload 4, 2) := by decide +kernel
theorem dX12_cellar_176 : decode cX12_cellar 176 = .ok (.iaload, 1) := by decide +kernel
theorem dX12_cellar_177 : decode cX12_cellar 177 = .ok (.if_icmp .eq 12, 3) := by decide +kernel
theorem dX12_cellar_180 : decode cX12_cellar 180 = .ok (.iload 5, 2) := by decide +kernel
theorem dX12_cellar_182 : decode cX12_cellar 182 = .ok (.iconst 1, 1) := by decide +kernel
theorem dX12_cellar_183 : decode cX12_cellar 183 = .ok (.iadd, 1) := by decide +kernel
theorem dX12_cellar_184 : decode cX12_cellar 184 = .ok (.istore 5, 2) := by decide +kernel
theorem dX12_cellar_186 : decode cX12_cellar 186 = .ok (.goto (-49), 3) := by decide +kernel
theorem dX12_cellar_189 : decode cX12_cellar 189 = .ok (.iload 4, 2) := by decide +kernel
theorem dX12_cellar_191 : decode cX12_cellar 191 = .ok (.iconst 1, 1) := by decide +kernel
theorem dX12_cellar_192 : decode cX12_cellar 192 = .ok (.iload 5, 2) := by decide +kernel
theorem dX12_cellar_194 : decode cX12_cellar 194 = .ok (.ishl, 1) := by decide +kernel
theorem dX12_cellar_195 : decode cX12_cellar 195 = .ok (.ior, 1) := by decide +kernel
theorem dX12_cellar_196 : decode cX12_cellar 196 = .ok (.istore 4, 2) := by decide +kernel
theorem dX12_cellar_198 : decode cX12_cellar 198 = .ok (.iinc 6 1, 3) := by decide +kernel
theorem dX12_cellar_201 : decode cX12_cellar 201 = .ok (.goto (-73), 3) := by decide +kernel
theorem dX12_cellar_204 : decode cX12_cellar 204 = .ok (.iload 5, 2) := by decide +kernel
theorem dX12_cellar_206 : decode cX12_cellar 206 = .ok (.ireturn, 1) := by decide +kernel
theorem dX12_wear_0 : decode cX12_wear 0 = .ok (.iload_n 1, 1) := by decide +kernel
theorem dX12_wear_1 : decode cX12_wear 1 = .ok (.iconst 1, 1) := by decide +kernel
theorem dX12_wear_2 : decode cX12_wear 2 = .ok (.bipush 10, 2) := by decide +kernel
theorem dX12_wear_4 : decode cX12_wear 4 = .ok (.invokestatic 124, 3) := by decide +kernel
theorem dX12_wear_7 : decode cX12_wear 7 = .ok (.ifCond .eq 30, 3) := by decide +kernel
theorem dX12_wear_10 : decode cX12_wear 10 = .ok (.iload_n 2, 1) := by decide +kernel
theorem dX12_wear_11 : decode cX12_wear 11 = .ok (.iconst 0, 1) := by decide +kernel
theorem dX12_wear_12 : decode cX12_wear 12 = .ok (.bipush 99, 2) := by decide +kernel
theorem dX12_wear_14 : decode cX12_wear 14 = .ok (.invokestatic 124, 3) := by decide +kernel
theorem dX12_wear_17 : decode cX12_wear 17 = .ok (.ifCond .eq 20, 3) := by decide +kernel
theorem dX12_wear_20 : decode cX12_wear 20 = .ok (.iload_n 3, 1) := by decide +kernel
theorem dX12_wear_21 : decode cX12_wear 21 = .ok (.iconst 0, 1) := by decide +kernel
theorem dX12_wear_22 : decode cX12_wear 22 = .ok (.iconst 1, 1) := by decide +kernel
theorem dX12_wear_23 : decode cX12_wear 23 = .ok (.invokestatic 124, 3) := by decide +kernel
theorem dX12_wear_26 : decode cX12_wear 26 = .ok (.ifCond .eq 11, 3) := by decide +kernel
theorem dX12_wear_29 : decode cX12_wear 29 = .ok (.iload_n 1, 1) := by decide +kernel
theorem dX12_wear_30 : decode cX12_wear 30 = .ok (.aload_n 0, 1) := by decide +kernel
theorem dX12_wear_31 : decode cX12_wear 31 = .ok (.getfield 128, 3) := by decide +kernel
theorem dX12_wear_34 : decode cX12_wear 34 = .ok (.if_icmp .le 5, 3) := by decide +kernel
theorem dX12_wear_37 : decode cX12_wear 37 = .ok (.iconst (-1), 1) := by decide +kernel
theorem dX12_wear_38 : decode cX12_wear 38 = .ok (.ireturn, 1) := by decide +kernel
theorem dX12_wear_39 : decode cX12_wear 39 = .ok (.aload_n 0, 1) := by decide +kernel
theorem dX12_wear_40 : decode cX12_wear 40 = .ok (.iconst 0, 1) := by decide +kernel
theorem dX12_wear_41 : decode cX12_wear 41 = .ok (.putfield 128, 3) := by decide +kernel
theorem dX12_wear_44 : decode cX12_wear 44 = .ok (.iconst 0, 1) := by decide +kernel
theorem dX12_wear_45 : decode cX12_wear 45 = .ok (.istore 4, 2) := by decide +kernel
theorem dX12_wear_47 : decode cX12_wear 47 = .ok (.iload 4, 2) := by decide +kernel
theorem dX12_wear_49 : decode cX12_wear 49 = .ok (.iload_n 1, 1) := by decide +kernel
theorem dX12_wear_50 : decode cX12_wear 50 = .ok (.if_icmp .ge 23, 3) := by decide +kernel
theorem dX12_wear_53 : decode cX12_wear 53 = .ok (.aload_n 0, 1) := by decide +kernel
theorem dX12_wear_54 : decode cX12_wear 54 = .ok (.iload 4, 2) := by decide +kernel
theorem dX12_wear_56 : decode cX12_wear 56 = .ok (.invokevirtual 387, 3) := by decide +kernel
theorem dX12_wear_59 : decode cX12_wear 59 = .ok (.bipush 9, 2) := by decide +kernel
theorem dX12_wear_61 : decode cX12_wear 61 = .ok (.if_icmp .le 6, 3) := by decide +kernel
theorem dX12_wear_64 : decode cX12_wear 64 = .ok (.bipush (-3), 2) := by decide +kernel
theorem dX12_wear_66 : decode cX12_wear 66 = .ok (.ireturn, 1) := by decide +kernel
theorem dX12_wear_67 : decode cX12_wear 67 = .ok (.iinc 4 1, 3) := by decide +kernel
theorem dX12_wear_70 : decode cX12_wear 70 = .ok (.goto (-23), 3) := by decide +kernel
theorem dX12_wear_73 : decode cX12_wear 73 = .ok (.iconst 0, 1) := by decide +kernel
theorem dX12_wear_74 : decode cX12_wear 74 = .ok (.istore 4, 2) := by decide +kernel
theorem dX12_wear_76 : decode cX12_wear 76 = .ok (.iconst 0, 1) := by decide +kernel
theorem dX12_wear_77 : decode cX12_wear 77 = .ok (.istore 5, 2) := by decide +kernel
theorem dX12_wear_79 : decode cX12_wear 79 = .ok (.iload 5, 2) := by decide +kernel
theorem dX12_wear_81 : decode cX12_wear 81 = .ok (.iconst 1, 1) := by decide +kernel
theorem dX12_wear_82 : decode cX12_wear 82 = .ok (.iload_n 1, 1) := by decide +kernel
theorem dX12_wear_83 : decode cX12_wear 83 = .ok (.ishl, 1) := by decide +kernel
theorem dX12_wear_84 : decode cX12_wear 84 = .ok (.if_icmp .ge 99, 3) := by decide +kernel
theorem dX12_wear_87 : decode cX12_wear 87 = .ok (.iconst 0, 1) := by decide +kernel
theorem dX12_wear_88 : decode cX12_wear 88 = .ok (.istore 6, 2) := by decide +kernel
theorem dX12_wear_90 : decode cX12_wear 90 = .ok (.iconst 0, 1) := by decide +kernel
theorem dX12_wear_91 : decode cX12_wear 91 = .ok (.istore 7, 2) := by decide +kernel
theorem dX12_wear_93 : decode cX12_wear 93 = .ok (.iconst 0, 1) := by decide +kernel
theorem dX12_wear_94 : decode cX12_wear 94 = .ok (.istore 8, 2) := by decide +kernel
theorem dX12_wear_96 : decode cX12_wear 96 = .ok (.iload 8, 2) := by decide +kernel
theorem dX12_wear_98 : decode cX12_wear 98 = .ok (.iload_n 1, 1) := by decide +kernel
theorem dX12_wear_99 : decode cX12_wear 99 = .ok (.if_icmp .ge 51, 3) := by decide +kernel
theorem dX12_wear_102 : decode cX12_wear 102 = .ok (.iload 5, 2) := by decide +kernel
theorem dX12_wear_104 : decode cX12_wear 104 = .ok (.iload 8, 2) := by decide +kernel
theorem dX12_wear_106 : decode cX12_wear 106 = .ok (.invokestatic 376, 3) := by decide +kernel
theorem dX12_wear_109 : decode cX12_wear 109 = .ok (.ifCond .ne 6, 3) := by decide +kernel
theorem dX12_wear_112 : decode cX12_wear 112 = .ok (.goto 32, 3) := by decide +kernel
theorem dX12_wear_115 : decode cX12_wear 115 = .ok (.iload 6, 2) := by decide +kernel
theorem dX12_wear_117 : decode cX12_wear 117 = .ok (.aload_n 0, 1) := by decide +kernel
theorem dX12_wear_118 : decode cX12_wear 118 = .ok (.iload 8, 2) := by decide +kernel
theorem dX12_wear_120 : decode cX12_wear 120 = .ok (.invokevirtual 387, 3) := by decide +kernel
theorem dX12_wear_123 : decode cX12_wear 123 = .ok (.iadd, 1) := by decide +kernel
theorem dX12_wear_124 : decode cX12_wear 124 = .ok (.istore 6, 2) := by decide +kernel
theorem dX12_wear_126 : decode cX12_wear 126 = .ok (.iload 7, 2) := by decide +kernel
theorem dX12_wear_128 : decode cX12_wear 128 = .ok (.aload_n 0, 1) := by decide +kernel
theorem dX12_wear_129 : decode cX12_wear 129 = .ok (.iload 8, 2) := by decide +kernel
theorem dX12_wear_131 : decode cX12_wear 131 = .ok (.invokevirtual 387, 3) := by decide +kernel
theorem dX12_wear_134 : decode cX12_wear 134 = .ok (.aload_n 0, 1) := by decide +kernel
theorem dX12_wear_135 : decode cX12_wear 135 = .ok (.iload 8, 2) := by decide +kernel
theorem dX12_wear_137 : decode cX12_wear 137 = .ok (.invokevirtual 387, 3) := by decide +kernel
theorem dX12_wear_140 : decode cX12_wear 140 = .ok (.imul, 1) := by decide +kernel
theorem dX12_wear_141 : decode cX12_wear 141 = .ok (.iadd, 1) := by decide +kernel
theorem dX12_wear_142 : decode cX12_wear 142 = .ok (.istore 7, 2) := by decide +kernel
theorem dX12_wear_144 : decode cX12_wear 144 = .ok (.iinc 8 1, 3) := by decide +kernel
theorem dX12_wear_147 : decode cX12_wear 147 = .ok (.goto (-51), 3) := by decide +kernel
theorem dX12_wear_150 : decode cX12_wear 150 = .ok (.iload 6, 2) := by decide +kernel
theorem dX12_wear_152 : decode cX12_wear 152 = .ok (.iload_n 2, 1) := by decide +kernel
theorem dX12_wear_153 : decode cX12_wear 153 = .ok (.if_icmp .gt 24, 3) := by decide +kernel
theorem dX12_wear_156 : decode cX12_wear 156 = .ok (.iload 4, 2) := by decide +kernel
theorem dX12_wear_158 : decode cX12_wear 158 = .ok (.iload_n 3, 1) := by decide +kernel
theorem dX12_wear_159 : decode cX12_wear 159 = .ok (.ifCond .ne 11, 3) := by decide +kernel
theorem dX12_wear_162 : decode cX12_wear 162 = .ok (.iload 5, 2) := by decide +kernel
theorem dX12_wear_164 : decode cX12_wear 164 = .ok (.invokestatic 379, 3) := by decide +kernel
theorem dX12_wear_167 : decode cX12_wear 167 = .ok (.goto 5, 3) := by decide +kernel
theorem dX12_wear_170 : decode cX12_wear 170 = .ok (.iload 7, 2) := by decide +kernel
theorem dX12_wear_172 : decode cX12_wear 172 = .ok (.invokestatic 298, 3) := by decide +kernel
theorem dX12_wear_175 : decode cX12_wear 175 = .ok (.istore 4, 2) := by decide +kernel
theorem dX12_wear_177 : decode cX12_wear 177 = .ok (.iinc 5 1, 3) := by decide +kernel
theorem dX12_wear_180 : decode cX12_wear 180 = .ok (.goto (-101), 3) := by decide +kernel
theorem dX12_wear_183 : decode cX12_wear 183 = .ok (.iload 4, 2) := by decide +kernel
theorem dX12_wear_185 : decode cX12_wear 185 = .ok (.ireturn, 1) := by decide +kernel
theorem dX12_seed_0 : decode cX12_seed 0 = .ok (.iload_n 1, 1) := by decide +kernel
theorem dX12_seed_1 : decode cX12_seed 1 = .ok (.iconst 0, 1) := by decide +kernel
theorem dX12_seed_2 : decode cX12_seed 2 = .ok (.ldc_w 375, 3) := by decide +kernel
theorem dX12_seed_5 : decode cX12_seed 5 = .ok (.invokestatic 124, 3) := by decide +kernel
theorem dX12_seed_8 : decode cX12_seed 8 = .ok (.ifCond .ne 5, 3) := by decide +kernel
theorem dX12_seed_11 : decode cX12_seed 11 = .ok (.iconst 0, 1) := by decide +kernel
theorem dX12_seed_12 : decode cX12_seed 12 = .ok (.ireturn, 1) := by decide +kernel
theorem dX12_seed_13 : decode cX12_seed 13 = .ok (.aload_n 0, 1) := by decide +kernel
theorem dX12_seed_14 : decode cX12_seed 14 = .ok (.getfield 7, 3) := by decide +kernel
theorem dX12_seed_17 : decode cX12_seed 17 = .ok (.bipush 74, 2) := by decide +kernel
theorem dX12_seed_19 : decode cX12_seed 19 = .ok (.iload_n 1, 1) := by decide +kernel
theorem dX12_seed_20 : decode cX12_seed 20 = .ok (.iastore, 1) := by decide +kernel
theorem dX12_seed_21 : decode cX12_seed 21 = .ok (.iconst 1, 1) := by decide +kernel
theorem dX12_seed_22 : decode cX12_seed 22 = .ok (.ireturn, 1) := by decide +kernel
theorem dX12_keep_0 : decode cX12_keep 0 = .ok (.aload_n 0, 1) := by decide +kernel
theorem dX12_keep_1 : decode cX12_keep 1 = .ok (.iconst 1, 1) := by decide +kernel
theorem dX12_keep_2 : decode cX12_keep 2 = .ok (.putfield 423, 3) := by decide +kernel
theorem dX12_keep_5 : decode cX12_keep 5 = .ok (.aload_n 0, 1) := by decide +kernel
theorem dX12_keep_6 : decode cX12_keep 6 = .ok (.getfield 7, 3) := by decide +kernel
theorem dX12_keep_9 : decode cX12_keep 9 = .ok (.aload_n 0, 1) := by decide +kernel
theorem dX12_keep_10 : decode cX12_keep 10 = .ok (.getfield 16, 3) := by decide +kernel
theorem dX12_keep_13 : decode cX12_keep 13 = .ok (.invokestatic 346, 3) := by decide +kernel
theorem dX12_keep_16 : decode cX12_keep 16 = .ok (.aload_n 0, 1) := by decide +kernel
theorem dX12_keep_17 : decode cX12_keep 17 = .ok (.getfield 7, 3) := by decide +kernel
theorem dX12_keep_20 : decode cX12_keep 20 = .ok (.bipush 73, 2) := by decide +kernel
theorem dX12_keep_22 : decode cX12_keep 22 = .ok (.iaload, 1) := by decide +kernel
theorem dX12_keep_23 : decode cX12_keep 23 = .ok (.ireturn, 1) := by decide +kernel
theorem dX12_undo_0 : decode cX12_undo 0 = .ok (.aload_n 0, 1) := by decide +kernel
theorem dX12_undo_1 : decode cX12_undo 1 = .ok (.getfield 423, 3) := by decide +kernel
theorem dX12_undo_4 : decode cX12_undo 4 = .ok (.ifCond .ne 5, 3) := by decide +kernel
theorem dX12_undo_7 : decode cX12_undo 7 = .ok (.iconst 0, 1) := by decide +kernel
theorem dX12_undo_8 : decode cX12_undo 8 = .ok (.ireturn, 1) := by decide +kernel
theorem dX12_undo_9 : decode cX12_undo 9 = .ok (.aload_n 0, 1) := by decide +kernel
theorem dX12_undo_10 : decode cX12_undo 10 = .ok (.getfield 16, 3) := by decide +kernel
theorem dX12_undo_13 : decode cX12_undo 13 = .ok (.aload_n 0, 1) := by decide +kernel
theorem dX12_undo_14 : decode cX12_undo 14 = .ok (.getfield 7, 3) := by decide +kernel
theorem dX12_undo_17 : decode cX12_undo 17 = .ok (.invokestatic 346, 3) := by decide +kernel
theorem dX12_undo_20 : decode cX12_undo 20 = .ok (.iconst 0, 1) := by decide +kernel
theorem dX12_undo_21 : decode cX12_undo 21 = .ok (.istore_n 1, 1) := by decide +kernel
theorem dX12_undo_22 : decode cX12_undo 22 = .ok (.iload_n 1, 1) := by decide +kernel
theorem dX12_undo_23 : decode cX12_undo 23 = .ok (.bipush 12, 2) := by decide +kernel
theorem dX12_undo_25 : decode cX12_undo 25 = .ok (.if_icmp .ge 36, 3) := by decide +kernel
theorem dX12_undo_28 : decode cX12_undo 28 = .ok (.aload_n 0, 1) := by decide +kernel
theorem dX12_undo_29 : decode cX12_undo 29 = .ok (.getfield 7, 3) := by decide +kernel
theorem dX12_undo_32 : decode cX12_undo 32 = .ok (.bipush 60, 2) := by decide +kernel
theorem dX12_undo_34 : decode cX12_undo 34 = .ok (.iload_n 1, 1) := by decide +kernel
theorem dX12_undo_35 : decode cX12_undo 35 = .ok (.iadd, 1) := by decide +kernel
theorem dX12_undo_36 : decode cX12_undo 36 = .ok (.aload_n 0, 1) := by decide +kernel
theorem dX12_undo_37 : decode cX12_undo 37 = .ok (.getfield 7, 3) := by decide +kernel
theorem dX12_undo_40 : decode cX12_undo 40 = .ok (.bipush 60, 2) := by decide +kernel
theorem dX12_undo_42 : decode cX12_undo 42 = .ok (.iload_n 1, 1) := by decide +kernel
theorem dX12_undo_43 : decode cX12_undo 43 = .ok (.iadd, 1) := by decide +kernel
theorem dX12_undo_44 : decode cX12_undo 44 = .ok (.iaload, 1) := by decide +kernel
theorem dX12_undo_45 : decode cX12_undo 45 = .ok (.aload_n 0, 1) := by decide +kernel
theorem dX12_undo_46 : decode cX12_undo 46 = .ok (.getfield 19, 3) := by decide +kernel
theorem dX12_undo_49 : decode cX12_undo 49 = .ok (.iload_n 1, 1) := by decide +kernel
theorem dX12_undo_50 : decode cX12_undo 50 = .ok (.iaload, 1) := by decide +kernel
theorem dX12_undo_51 : decode cX12_undo 51 = .ok (.invokestatic 292, 3) := by decide +kernel
theorem dX12_undo_54 : decode cX12_undo 54 = .ok (.iastore, 1) := by decide +kernel
theorem dX12_undo_55 : decode cX12_undo 55 = .ok (.iinc 1 1, 3) := by decide +kernel
theorem dX12_undo_58 : decode cX12_undo 58 = .ok (.goto (-36), 3) := by decide +kernel
theorem dX12_undo_61 : decode cX12_undo 61 = .ok (.iconst 1, 1) := by decide +kernel
theorem dX12_undo_62 : decode cX12_undo 62 = .ok (.ireturn, 1) := by decide +kernel
theorem dX12_check_0 : decode cX12_check 0 = .ok (.iload_n 1, 1) := by decide +kernel
theorem dX12_check_1 : decode cX12_check 1 = .ok (.iconst 0, 1) := by decide +kernel
theorem dX12_check_2 : decode cX12_check 2 = .ok (.bipush 12, 2) := by decide +kernel
theorem dX12_check_4 : decode cX12_check 4 = .ok (.invokestatic 124, 3) := by decide +kernel
theorem dX12_check_7 : decode cX12_check 7 = .ok (.ifCond .eq 11, 3) := by decide +kernel
theorem dX12_check_10 : decode cX12_check 10 = .ok (.iload_n 1, 1) := by decide +kernel
theorem dX12_check_11 : decode cX12_check 11 = .ok (.aload_n 0, 1) := by decide +kernel
theorem dX12_check_12 : decode cX12_check 12 = .ok (.getfield 128, 3) := by decide +kernel
theorem dX12_check_15 : decode cX12_check 15 = .ok (.if_icmp .le 6, 3) := by decide +kernel
theorem dX12_check_18 : decode cX12_check 18 = .ok (.bipush (-2), 2) := by decide +kernel
theorem dX12_check_20 : decode cX12_check 20 = .ok (.ireturn, 1) := by decide +kernel
theorem dX12_check_21 : decode cX12_check 21 = .ok (.aload_n 0, 1) := by decide +kernel
theorem dX12_check_22 : decode cX12_check 22 = .ok (.iconst 0, 1) := by decide +kernel
theorem dX12_check_23 : decode cX12_check 23 = .ok (.putfield 128, 3) := by decide +kernel
theorem dX12_check_26 : decode cX12_check 26 = .ok (.iconst 0, 1) := by decide +kernel
theorem dX12_check_27 : decode cX12_check 27 = .ok (.istore_n 2, 1) := by decide +kernel
theorem dX12_check_28 : decode cX12_check 28 = .ok (.iload_n 2, 1) := by decide +kernel
theorem dX12_check_29 : decode cX12_check 29 = .ok (.iload_n 1, 1) := by decide +kernel
theorem dX12_check_30 : decode cX12_check 30 = .ok (.if_icmp .ge 42, 3) := by decide +kernel
theorem dX12_check_33 : decode cX12_check 33 = .ok (.aload_n 0, 1) := by decide +kernel
theorem dX12_check_34 : decode cX12_check 34 = .ok (.iload_n 2, 1) := by decide +kernel
theorem dX12_check_35 : decode cX12_check 35 = .ok (.invokevirtual 387, 3) := by decide +kernel
theorem dX12_check_38 : decode cX12_check 38 = .ok (.aload_n 0, 1) := by decide +kernel
theorem dX12_check_39 : decode cX12_check 39 = .ok (.iload_n 2, 1) := by decide +kernel
theorem dX12_check_40 : decode cX12_check 40 = .ok (.invokevirtual 340, 3) := by decide +kernel
theorem dX12_check_43 : decode cX12_check 43 = .ok (.ifCond .eq 15, 3) := by decide +kernel
theorem dX12_check_46 : decode cX12_check 46 = .ok (.aload_n 0, 1) := by decide +kernel
theorem dX12_check_47 : decode cX12_check 47 = .ok (.getfield 7, 3) := by decide +kernel
theorem dX12_check_50 : decode cX12_check 50 = .ok (.bipush 60, 2) := by decide +kernel
theorem dX12_check_52 : decode cX12_check 52 = .ok (.iload_n 2, 1) := by decide +kernel
theorem dX12_check_53 : decode cX12_check 53 = .ok (.iadd, 1) := by decide +kernel
theorem dX12_check_54 : decode cX12_check 54 = .ok (.iaload, 1) := by decide +kernel
theorem dX12_check_55 : decode cX12_check 55 = .ok (.goto 6, 3) := by decide +kernel
theorem dX12_check_58 : decode cX12_check 58 = .ok (.sipush 255, 3) := by decide +kernel
theorem dX12_check_61 : decode cX12_check 61 = .ok (.if_icmp .eq 5, 3) := by decide +kernel
theorem dX12_check_64 : decode cX12_check 64 = .ok (.iload_n 2, 1) := by decide +kernel
theorem dX12_check_65 : decode cX12_check 65 = .ok (.ireturn, 1) := by decide +kernel
theorem dX12_check_66 : decode cX12_check 66 = .ok (.iinc 2 1, 3) := by decide +kernel
theorem dX12_check_69 : decode cX12_check 69 = .ok (.goto (-41), 3) := by decide +kernel
theorem dX12_check_72 : decode cX12_check 72 = .ok (.iconst (-1), 1) := by decide +kernel
theorem dX12_check_73 : decode cX12_check 73 = .ok (.ireturn, 1) := by decide +kernel
theorem dX12_setOf_0 : decode cX12_setOf 0 = .ok (.iconst 0, 1) := by decide +kernel
theorem dX12_setOf_1 : decode cX12_setOf 1 = .ok (.istore_n 2, 1) := by decide +kernel
theorem dX12_setOf_2 : decode cX12_setOf 2 = .ok (.iconst 0, 1) := by decide +kernel
theorem dX12_setOf_3 : decode cX12_setOf 3 = .ok (.istore_n 3, 1) := by decide +kernel
theorem dX12_setOf_4 : decode cX12_setOf 4 = .ok (.iload_n 3, 1) := by decide +kernel
theorem dX12_setOf_5 : decode cX12_setOf 5 = .ok (.bipush 12, 2) := by decide +kernel
theorem dX12_setOf_7 : decode cX12_setOf 7 = .ok (.if_icmp .ge 35, 3) := by decide +kernel
theorem dX12_setOf_10 : decode cX12_setOf 10 = .ok (.aload_n 0, 1) := by decide +kernel
theorem dX12_setOf_11 : decode cX12_setOf 11 = .ok (.iload_n 3, 1) := by decide +kernel
theorem dX12_setOf_12 : decode cX12_setOf 12 = .ok (.invokevirtual 340, 3) := by decide +kernel
theorem dX12_setOf_15 : decode cX12_setOf 15 = .ok (.ifCond .eq 21, 3) := by decide +kernel
theorem dX12_setOf_18 : decode cX12_setOf 18 = .ok (.aload_n 0, 1) := by decide +kernel
theorem dX12_setOf_19 : decode cX12_setOf 19 = .ok (.getfield 7, 3) := by decide +kernel
theorem dX12_setOf_22 : decode cX12_setOf 22 = .ok (.iload_n 1, 1) := by decide +kernel
theorem dX12_setOf_23 : decode cX12_setOf 23 = .ok (.iload_n 3, 1) := by decide +kernel
theorem dX12_setOf_24 : decode cX12_setOf 24 = .ok (.iadd, 1) := by decide +kernel
theorem dX12_setOf_25 : decode cX12_setOf 25 = .ok (.iaload, 1) := by decide +kernel
theorem dX12_setOf_26 : decode cX12_setOf 26 = .ok (.iconst 1, 1) := by decide +kernel
theorem dX12_setOf_27 : decode cX12_setOf 27 = .ok (.if_icmp .ne 9, 3) := by decide +kernel
theorem dX12_setOf_30 : decode cX12_setOf 30 = .ok (.iload_n 2, 1) := by decide +kernel
theorem dX12_setOf_31 : decode cX12_setOf 31 = .ok (.iconst 1, 1) := by decide +kernel
theorem dX12_setOf_32 : decode cX12_setOf 32 = .ok (.iload_n 3, 1) := by decide +kernel
theorem dX12_setOf_33 : decode cX12_setOf 33 = .ok (.ishl, 1) := by decide +kernel
theorem dX12_setOf_34 : decode cX12_setOf 34 = .ok (.ior, 1) := by decide +kernel
theorem dX12_setOf_35 : decode cX12_setOf 35 = .ok (.istore_n 2, 1) := by decide +kernel
theorem dX12_setOf_36 : decode cX12_setOf 36 = .ok (.iinc 3 1, 3) := by decide +kernel
theorem dX12_setOf_39 : decode cX12_setOf 39 = .ok (.goto (-35), 3) := by decide +kernel
theorem dX12_setOf_42 : decode cX12_setOf 42 = .ok (.iload_n 2, 1) := by decide +kernel
theorem dX12_setOf_43 : decode cX12_setOf 43 = .ok (.ireturn, 1) := by decide +kernel
theorem dX12_count_0 : decode cX12_count 0 = .ok (.iconst 0, 1) := by decide +kernel
theorem dX12_count_1 : decode cX12_count 1 = .ok (.istore_n 2, 1) := by decide +kernel
theorem dX12_count_2 : decode cX12_count 2 = .ok (.iload_n 1, 1) := by decide +kernel
theorem dX12_count_3 : decode cX12_count 3 = .ok (.tableswitch 159 0 8 #[49, 57, 87, 94, 101, 109, 114, 119, 127], 49) := by decide +kernel
theorem dX12_count_52 : decode cX12_count 52 = .ok (.aload_n 0, 1) := by decide +kernel
theorem dX12_count_53 : decode cX12_count 53 = .ok (.getfield 7, 3) := by decide +kernel
theorem dX12_count_56 : decode cX12_count 56 = .ok (.bipush 73, 2) := by decide +kernel
theorem dX12_count_58 : decode cX12_count 58 = .ok (.iaload, 1) := by decide +kernel
theorem dX12_count_59 : decode cX12_count 59 = .ok (.ireturn, 1) := by decide +kernel
theorem dX12_count_60 : decode cX12_count 60 = .ok (.iconst 0, 1) := by decide +kernel
theorem dX12_count_61 : decode cX12_count 61 = .ok (.istore_n 3, 1) := by decide +kernel
theorem dX12_count_62 : decode cX12_count 62 = .ok (.iload_n 3, 1) := by decide +kernel
theorem dX12_count_63 : decode cX12_count 63 = .ok (.bipush 12, 2) := by decide +kernel
theorem dX12_count_65 : decode cX12_count 65 = .ok (.if_icmp .ge 23, 3) := by decide +kernel
theorem dX12_count_68 : decode cX12_count 68 = .ok (.aload_n 0, 1) := by decide +kernel
theorem dX12_count_69 : decode cX12_count 69 = .ok (.iload_n 3, 1) := by decide +kernel
theorem dX12_count_70 : decode cX12_count 70 = .ok (.invokevirtual 340, 3) := by decide +kernel
theorem dX12_count_73 : decode cX12_count 73 = .ok (.ifCond .eq 9, 3) := by decide +kernel
theorem dX12_count_76 : decode cX12_count 76 = .ok (.iload_n 2, 1) := by decide +kernel
theorem dX12_count_77 : decode cX12_count 77 = .ok (.iconst 1, 1) := by decide +kernel
theorem dX12_count_78 : decode cX12_count 78 = .ok (.iload_n 3, 1) := by decide +kernel
theorem dX12_count_79 : decode cX12_count 79 = .ok (.ishl, 1) := by decide +kernel
theorem dX12_count_80 : decode cX12_count 80 = .ok (.ior, 1) := by decide +kernel
theorem dX12_count_81 : decode cX12_count 81 = .ok (.istore_n 2, 1) := by decide +kernel
theorem dX12_count_82 : decode cX12_count 82 = .ok (.iinc 3 1, 3) := by decide +kernel
theorem dX12_count_85 : decode cX12_count 85 = .ok (.goto (-23), 3) := by decide +kernel
theorem dX12_count_88 : decode cX12_count 88 = .ok (.iload_n 2, 1) := by decide +kernel
theorem dX12_count_89 : decode cX12_count 89 = .ok (.ireturn, 1) := by decide +kernel
theorem dX12_count_90 : decode cX12_count 90 = .ok (.aload_n 0, 1) := by decide +kernel
theorem dX12_count_91 : decode cX12_count 91 = .ok (.bipush 48, 2) := by decide +kernel
theorem dX12_count_93 : decode cX12_count 93 = .ok (.invokevirtual 426, 3) := by decide +kernel
theorem dX12_count_96 : decode cX12_count 96 = .ok (.ireturn, 1) := by decide +kernel
theorem dX12_count_97 : decode cX12_count 97 = .ok (.aload_n 0, 1) := by decide +kernel
theorem dX12_count_98 : decode cX12_count 98 = .ok (.bipush 36, 2) := by decide +kernel
theorem dX12_count_100 : decode cX12_count 100 = .ok (.invokevirtual 426, 3) := by decide +kernel
theorem dX12_count_103 : decode cX12_count 103 = .ok (.ireturn, 1) := by decide +kernel
theorem dX12_count_104 : decode cX12_count 104 = .ok (.aload_n 0, 1) := by decide +kernel
theorem dX12_count_105 : decode cX12_count 105 = .ok (.getfield 7, 3) := by decide +kernel
theorem dX12_count_108 : decode cX12_count 108 = .ok (.bipush 72, 2) := by decide +kernel
theorem dX12_count_110 : decode cX12_count 110 = .ok (.iaload, 1) := by decide +kernel
theorem dX12_count_111 : decode cX12_count 111 = .ok (.ireturn, 1) := by decide +kernel
theorem dX12_count_112 : decode cX12_count 112 = .ok (.aload_n 0, 1) := by decide +kernel
theorem dX12_count_113 : decode cX12_count 113 = .ok (.getfield 231, 3) := by decide +kernel
theorem dX12_count_116 : decode cX12_count 116 = .ok (.ireturn, 1) := by decide +kernel
theorem dX12_count_117 : decode cX12_count 117 = .ok (.aload_n 0, 1) := by decide +kernel
theorem dX12_count_118 : decode cX12_count 118 = .ok (.getfield 128, 3) := by decide +kernel
theorem dX12_count_121 : decode cX12_count 121 = .ok (.ireturn, 1) := by decide +kernel
theorem dX12_count_122 : decode cX12_count 122 = .ok (.aload_n 0, 1) := by decide +kernel
theorem dX12_count_123 : decode cX12_count 123 = .ok (.getfield 7, 3) := by decide +kernel
theorem dX12_count_126 : decode cX12_count 126 = .ok (.bipush 74, 2) := by decide +kernel
theorem dX12_count_128 : decode cX12_count 128 = .ok (.iaload, 1) := by decide +kernel
theorem dX12_count_129 : decode cX12_count 129 = .ok (.ireturn, 1) := by decide +kernel
theorem dX12_count_130 : decode cX12_count 130 = .ok (.iconst 0, 1) := by decide +kernel
theorem dX12_count_131 : decode cX12_count 131 = .ok (.istore_n 3, 1) := by decide +kernel
theorem dX12_count_132 : decode cX12_count 132 = .ok (.iload_n 3, 1) := by decide +kernel
theorem dX12_count_133 : decode cX12_count 133 = .ok (.bipush 12, 2) := by decide +kernel
theorem dX12_count_135 : decode cX12_count 135 = .ok (.if_icmp .ge 25, 3) := by decide +kernel
theorem dX12_count_138 : decode cX12_count 138 = .ok (.aload_n 0, 1) := by decide +kernel
theorem dX12_count_139 : decode cX12_count 139 = .ok (.iload_n 3, 1) := by decide +kernel
theorem dX12_count_140 : decode cX12_count 140 = .ok (.invokevirtual 340, 3) := by decide +kernel
theorem dX12_count_143 : decode cX12_count 143 = .ok (.ifCond .eq 11, 3) := by decide +kernel
theorem dX12_count_146 : decode cX12_count 146 = .ok (.iload_n 2, 1) := by decide +kernel
theorem dX12_count_147 : decode cX12_count 147 = .ok (.aload_n 0, 1) := by decide +kernel
theorem dX12_count_148 : decode cX12_count 148 = .ok (.iload_n 3, 1) := by decide +kernel
theorem dX12_count_149 : decode cX12_count 149 = .ok (.invokevirtual 286, 3) := by decide +kernel
theorem dX12_count_152 : decode cX12_count 152 = .ok (.iadd, 1) := by decide +kernel
theorem dX12_count_153 : decode cX12_count 153 = .ok (.istore_n 2, 1) := by decide +kernel
theorem dX12_count_154 : decode cX12_count 154 = .ok (.iinc 3 1, 3) := by decide +kernel
theorem dX12_count_157 : decode cX12_count 157 = .ok (.goto (-25), 3) := by decide +kernel
theorem dX12_count_160 : decode cX12_count 160 = .ok (.iload_n 2, 1) := by decide +kernel
theorem dX12_count_161 : decode cX12_count 161 = .ok (.ireturn, 1) := by decide +kernel
theorem dX12_count_162 : decode cX12_count 162 = .ok (.iconst (-1), 1) := by decide +kernel
theorem dX12_count_163 : decode cX12_count 163 = .ok (.ireturn, 1) := by decide +kernel
theorem dJ6_bitCount_0f7a4_0 : decode cJ6_bitCount_0f7a4 0 = .ok (.iload_n 0, 1) := by decide +kernel
theorem dJ6_bitCount_0f7a4_1 : decode cJ6_bitCount_0f7a4 1 = .ok (.iload_n 0, 1) := by decide +kernel
theorem dJ6_bitCount_0f7a4_2 : decode cJ6_bitCount_0f7a4 2 = .ok (.iconst 1, 1) := by decide +kernel
theorem dJ6_bitCount_0f7a4_3 : decode cJ6_bitCount_0f7a4 3 = .ok (.iushr, 1) := by decide +kernel
theorem dJ6_bitCount_0f7a4_4 : decode cJ6_bitCount_0f7a4 4 = .ok (.ldc_w 265, 3) := by decide +kernel
theorem dJ6_bitCount_0f7a4_7 : decode cJ6_bitCount_0f7a4 7 = .ok (.iand, 1) := by decide +kernel
theorem dJ6_bitCount_0f7a4_8 : decode cJ6_bitCount_0f7a4 8 = .ok (.isub, 1) := by decide +kernel
theorem dJ6_bitCount_0f7a4_9 : decode cJ6_bitCount_0f7a4 9 = .ok (.istore_n 0, 1) := by decide +kernel
theorem dJ6_bitCount_0f7a4_10 : decode cJ6_bitCount_0f7a4 10 = .ok (.iload_n 0, 1) := by decide +kernel
theorem dJ6_bitCount_0f7a4_11 : decode cJ6_bitCount_0f7a4 11 = .ok (.ldc_w 266, 3) := by decide +kernel
theorem dJ6_bitCount_0f7a4_14 : decode cJ6_bitCount_0f7a4 14 = .ok (.iand, 1) := by decide +kernel
theorem dJ6_bitCount_0f7a4_15 : decode cJ6_bitCount_0f7a4 15 = .ok (.iload_n 0, 1) := by decide +kernel
theorem dJ6_bitCount_0f7a4_16 : decode cJ6_bitCount_0f7a4 16 = .ok (.iconst 2, 1) := by decide +kernel
theorem dJ6_bitCount_0f7a4_17 : decode cJ6_bitCount_0f7a4 17 = .ok (.iushr, 1) := by decide +kernel
theorem dJ6_bitCount_0f7a4_18 : decode cJ6_bitCount_0f7a4 18 = .ok (.ldc_w 266, 3) := by decide +kernel
theorem dJ6_bitCount_0f7a4_21 : decode cJ6_bitCount_0f7a4 21 = .ok (.iand, 1) := by decide +kernel
theorem dJ6_bitCount_0f7a4_22 : decode cJ6_bitCount_0f7a4 22 = .ok (.iadd, 1) := by decide +kernel
theorem dJ6_bitCount_0f7a4_23 : decode cJ6_bitCount_0f7a4 23 = .ok (.istore_n 0, 1) := by decide +kernel
theorem dJ6_bitCount_0f7a4_24 : decode cJ6_bitCount_0f7a4 24 = .ok (.iload_n 0, 1) := by decide +kernel
theorem dJ6_bitCount_0f7a4_25 : decode cJ6_bitCount_0f7a4 25 = .ok (.iload_n 0, 1) := by decide +kernel
theorem dJ6_bitCount_0f7a4_26 : decode cJ6_bitCount_0f7a4 26 = .ok (.iconst 4, 1) := by decide +kernel
theorem dJ6_bitCount_0f7a4_27 : decode cJ6_bitCount_0f7a4 27 = .ok (.iushr, 1) := by decide +kernel
theorem dJ6_bitCount_0f7a4_28 : decode cJ6_bitCount_0f7a4 28 = .ok (.iadd, 1) := by decide +kernel
theorem dJ6_bitCount_0f7a4_29 : decode cJ6_bitCount_0f7a4 29 = .ok (.ldc_w 267, 3) := by decide +kernel
theorem dJ6_bitCount_0f7a4_32 : decode cJ6_bitCount_0f7a4 32 = .ok (.iand, 1) := by decide +kernel
theorem dJ6_bitCount_0f7a4_33 : decode cJ6_bitCount_0f7a4 33 = .ok (.istore_n 0, 1) := by decide +kernel
theorem dJ6_bitCount_0f7a4_34 : decode cJ6_bitCount_0f7a4 34 = .ok (.iload_n 0, 1) := by decide +kernel
theorem dJ6_bitCount_0f7a4_35 : decode cJ6_bitCount_0f7a4 35 = .ok (.iload_n 0, 1) := by decide +kernel
theorem dJ6_bitCount_0f7a4_36 : decode cJ6_bitCount_0f7a4 36 = .ok (.bipush 8, 2) := by decide +kernel
theorem dJ6_bitCount_0f7a4_38 : decode cJ6_bitCount_0f7a4 38 = .ok (.iushr, 1) := by decide +kernel
theorem dJ6_bitCount_0f7a4_39 : decode cJ6_bitCount_0f7a4 39 = .ok (.iadd, 1) := by decide +kernel
theorem dJ6_bitCount_0f7a4_40 : decode cJ6_bitCount_0f7a4 40 = .ok (.istore_n 0, 1) := by decide +kernel
theorem dJ6_bitCount_0f7a4_41 : decode cJ6_bitCount_0f7a4 41 = .ok (.iload_n 0, 1) := by decide +kernel
theorem dJ6_bitCount_0f7a4_42 : decode cJ6_bitCount_0f7a4 42 = .ok (.iload_n 0, 1) := by decide +kernel
theorem dJ6_bitCount_0f7a4_43 : decode cJ6_bitCount_0f7a4 43 = .ok (.bipush 16, 2) := by decide +kernel
theorem dJ6_bitCount_0f7a4_45 : decode cJ6_bitCount_0f7a4 45 = .ok (.iushr, 1) := by decide +kernel
theorem dJ6_bitCount_0f7a4_46 : decode cJ6_bitCount_0f7a4 46 = .ok (.iadd, 1) := by decide +kernel
theorem dJ6_bitCount_0f7a4_47 : decode cJ6_bitCount_0f7a4 47 = .ok (.istore_n 0, 1) := by decide +kernel
theorem dJ6_bitCount_0f7a4_48 : decode cJ6_bitCount_0f7a4 48 = .ok (.iload_n 0, 1) := by decide +kernel
theorem dJ6_bitCount_0f7a4_49 : decode cJ6_bitCount_0f7a4 49 = .ok (.bipush 63, 2) := by decide +kernel
theorem dJ6_bitCount_0f7a4_51 : decode cJ6_bitCount_0f7a4 51 = .ok (.iand, 1) := by decide +kernel
theorem dJ6_bitCount_0f7a4_52 : decode cJ6_bitCount_0f7a4 52 = .ok (.ireturn, 1) := by decide +kernel
theorem dJ9_abs_0f7a4_0 : decode cJ9_abs_0f7a4 0 = .ok (.iload_n 0, 1) := by decide +kernel
theorem dJ9_abs_0f7a4_1 : decode cJ9_abs_0f7a4 1 = .ok (.ifCond .ge 8, 3) := by decide +kernel
theorem dJ9_abs_0f7a4_4 : decode cJ9_abs_0f7a4 4 = .ok (.iload_n 0, 1) := by decide +kernel
theorem dJ9_abs_0f7a4_5 : decode cJ9_abs_0f7a4 5 = .ok (.ineg, 1) := by decide +kernel
theorem dJ9_abs_0f7a4_6 : decode cJ9_abs_0f7a4 6 = .ok (.goto 4, 3) := by decide +kernel
theorem dJ9_abs_0f7a4_9 : decode cJ9_abs_0f7a4 9 = .ok (.iload_n 0, 1) := by decide +kernel
theorem dJ9_abs_0f7a4_10 : decode cJ9_abs_0f7a4 10 = .ok (.ireturn, 1) := by decide +kernel
theorem dJ9_max_7cf53_0 : decode cJ9_max_7cf53 0 = .ok (.iload_n 0, 1) := by decide +kernel
theorem dJ9_max_7cf53_1 : decode cJ9_max_7cf53 1 = .ok (.iload_n 1, 1) := by decide +kernel
theorem dJ9_max_7cf53_2 : decode cJ9_max_7cf53 2 = .ok (.if_icmp .lt 7, 3) := by decide +kernel
theorem dJ9_max_7cf53_5 : decode cJ9_max_7cf53 5 = .ok (.iload_n 0, 1) := by decide +kernel
theorem dJ9_max_7cf53_6 : decode cJ9_max_7cf53 6 = .ok (.goto 4, 3) := by decide +kernel
theorem dJ9_max_7cf53_9 : decode cJ9_max_7cf53 9 = .ok (.iload_n 1, 1) := by decide +kernel
theorem dJ9_max_7cf53_10 : decode cJ9_max_7cf53 10 = .ok (.ireturn, 1) := by decide +kernel
theorem dJ9_min_7cf53_0 : decode cJ9_min_7cf53 0 = .ok (.iload_n 0, 1) := by decide +kernel
theorem dJ9_min_7cf53_1 : decode cJ9_min_7cf53 1 = .ok (.iload_n 1, 1) := by decide +kernel
theorem dJ9_min_7cf53_2 : decode cJ9_min_7cf53 2 = .ok (.if_icmp .gt 7, 3) := by decide +kernel
theorem dJ9_min_7cf53_5 : decode cJ9_min_7cf53 5 = .ok (.iload_n 0, 1) := by decide +kernel
theorem dJ9_min_7cf53_6 : decode cJ9_min_7cf53 6 = .ok (.goto 4, 3) := by decide +kernel
theorem dJ9_min_7cf53_9 : decode cJ9_min_7cf53 9 = .ok (.iload_n 1, 1) := by decide +kernel
theorem dJ9_min_7cf53_10 : decode cJ9_min_7cf53 10 = .ok (.ireturn, 1) := by decide +kernel
theorem dJ0_length_8abf5_0 : decode cJ0_length_8abf5 0 = .ok (.aload_n 0, 1) := by decide +kernel
theorem dJ0_length_8abf5_1 : decode cJ0_length_8abf5 1 = .ok (.getfield 9, 3) := by decide +kernel
theorem dJ0_length_8abf5_4 : decode cJ0_length_8abf5 4 = .ok (.arraylength, 1) := by decide +kernel
theorem dJ0_length_8abf5_5 : decode cJ0_length_8abf5 5 = .ok (.aload_n 0, 1) := by decide +kernel
theorem dJ0_length_8abf5_6 : decode cJ0_length_8abf5 6 = .ok (.invokevirtual 335, 3) := by decide +kernel
theorem dJ0_length_8abf5_9 : decode cJ0_length_8abf5 9 = .ok (.ishr, 1) := by decide +kernel
theorem dJ0_length_8abf5_10 : decode cJ0_length_8abf5 10 = .ok (.ireturn, 1) := by decide +kernel
theorem dJ0_charAt_5068e_0 : decode cJ0_charAt_5068e 0 = .ok (.aload_n 0, 1) := by decide +kernel
theorem dJ0_charAt_5068e_1 : decode cJ0_charAt_5068e 1 = .ok (.invokevirtual 492, 3) := by decide +kernel
theorem dJ0_charAt_5068e_4 : decode cJ0_charAt_5068e 4 = .ok (.ifCond .eq 12, 3) := by decide +kernel
theorem dJ0_charAt_5068e_7 : decode cJ0_charAt_5068e 7 = .ok (.aload_n 0, 1) := by decide +kernel
theorem dJ0_charAt_5068e_8 : decode cJ0_charAt_5068e 8 = .ok (.getfield 9, 3) := by decide +kernel
theorem dJ0_charAt_5068e_11 : decode cJ0_charAt_5068e 11 = .ok (.iload_n 1, 1) := by decide +kernel
theorem dJ0_charAt_5068e_12 : decode cJ0_charAt_5068e 12 = .ok (.invokestatic 495, 3) := by decide +kernel
theorem dJ0_charAt_5068e_15 : decode cJ0_charAt_5068e 15 = .ok (.ireturn, 1) := by decide +kernel
theorem dJ0_charAt_5068e_16 : decode cJ0_charAt_5068e 16 = .ok (.aload_n 0, 1) := by decide +kernel
theorem dJ0_charAt_5068e_17 : decode cJ0_charAt_5068e 17 = .ok (.getfield 9, 3) := by decide +kernel
theorem dJ0_charAt_5068e_20 : decode cJ0_charAt_5068e 20 = .ok (.iload_n 1, 1) := by decide +kernel
theorem dJ0_charAt_5068e_21 : decode cJ0_charAt_5068e 21 = .ok (.invokestatic 498, 3) := by decide +kernel
theorem dJ0_charAt_5068e_24 : decode cJ0_charAt_5068e 24 = .ok (.ireturn, 1) := by decide +kernel
theorem dJ0_coder_7d493_0 : decode cJ0_coder_7d493 0 = .ok (.getstatic 38, 3) := by decide +kernel
theorem dJ0_coder_7d493_3 : decode cJ0_coder_7d493 3 = .ok (.ifCond .eq 10, 3) := by decide +kernel
theorem dJ0_coder_7d493_6 : decode cJ0_coder_7d493 6 = .ok (.aload_n 0, 1) := by decide +kernel
theorem dJ0_coder_7d493_7 : decode cJ0_coder_7d493 7 = .ok (.getfield 15, 3) := by decide +kernel
theorem dJ0_coder_7d493_10 : decode cJ0_coder_7d493 10 = .ok (.goto 4, 3) := by decide +kernel
theorem dJ0_coder_7d493_13 : decode cJ0_coder_7d493 13 = .ok (.iconst 1, 1) := by decide +kernel
theorem dJ0_coder_7d493_14 : decode cJ0_coder_7d493 14 = .ok (.ireturn, 1) := by decide +kernel
theorem dJ0_isLatin1_aae02_0 : decode cJ0_isLatin1_aae02 0 = .ok (.getstatic 38, 3) := by decide +kernel
theorem dJ0_isLatin1_aae02_3 : decode cJ0_isLatin1_aae02 3 = .ok (.ifCond .eq 14, 3) := by decide +kernel
theorem dJ0_isLatin1_aae02_6 : decode cJ0_isLatin1_aae02 6 = .ok (.aload_n 0, 1) := by decide +kernel
theorem dJ0_isLatin1_aae02_7 : decode cJ0_isLatin1_aae02 7 = .ok (.getfield 15, 3) := by decide +kernel
theorem dJ0_isLatin1_aae02_10 : decode cJ0_isLatin1_aae02 10 = .ok (.ifCond .ne 7, 3) := by decide +kernel
theorem dJ0_isLatin1_aae02_13 : decode cJ0_isLatin1_aae02 13 = .ok (.iconst 1, 1) := by decide +kernel
theorem dJ0_isLatin1_aae02_14 : decode cJ0_isLatin1_aae02 14 = .ok (.goto 4, 3) := by decide +kernel
theorem dJ0_isLatin1_aae02_17 : decode cJ0_isLatin1_aae02 17 = .ok (.iconst 0, 1) := by decide +kernel
theorem dJ0_isLatin1_aae02_18 : decode cJ0_isLatin1_aae02 18 = .ok (.ireturn, 1) := by decide +kernel
theorem dJ0_checkIndex_df160_0 : decode cJ0_checkIndex_df160 0 = .ok (.iload_n 0, 1) := by decide +kernel
theorem dJ0_checkIndex_df160_1 : decode cJ0_checkIndex_df160 1 = .ok (.iload_n 1, 1) := by decide +kernel
theorem dJ0_checkIndex_df160_2 : decode cJ0_checkIndex_df160 2 = .ok (.getstatic 1053, 3) := by decide +kernel
theorem dJ0_checkIndex_df160_5 : decode cJ0_checkIndex_df160 5 = .ok (.invokestatic 1059, 3) := by decide +kernel
theorem dJ0_checkIndex_df160_8 : decode cJ0_checkIndex_df160 8 = .ok (.pop, 1) := by decide +kernel
theorem dJ0_checkIndex_df160_9 : decode cJ0_checkIndex_df160 9 = .ok (.return_, 1) := by decide +kernel
theorem dJ1_charAt_3b067_0 : decode cJ1_charAt_3b067 0 = .ok (.iload_n 1, 1) := by decide +kernel
theorem dJ1_charAt_3b067_1 : decode cJ1_charAt_3b067 1 = .ok (.aload_n 0, 1) := by decide +kernel
theorem dJ1_charAt_3b067_2 : decode cJ1_charAt_3b067 2 = .ok (.arraylength, 1) := by decide +kernel
theorem dJ1_charAt_3b067_3 : decode cJ1_charAt_3b067 3 = .ok (.invokestatic 9, 3) := by decide +kernel
theorem dJ1_charAt_3b067_6 : decode cJ1_charAt_3b067 6 = .ok (.aload_n 0, 1) := by decide +kernel
theorem dJ1_charAt_3b067_7 : decode cJ1_charAt_3b067 7 = .ok (.iload_n 1, 1) := by decide +kernel
theorem dJ1_charAt_3b067_8 : decode cJ1_charAt_3b067 8 = .ok (.baload, 1) := by decide +kernel
theorem dJ1_charAt_3b067_9 : decode cJ1_charAt_3b067 9 = .ok (.sipush 255, 3) := by decide +kernel
theorem dJ1_charAt_3b067_12 : decode cJ1_charAt_3b067 12 = .ok (.iand, 1) := by decide +kernel
theorem dJ1_charAt_3b067_13 : decode cJ1_charAt_3b067 13 = .ok (.i2c, 1) := by decide +kernel
theorem dJ1_charAt_3b067_14 : decode cJ1_charAt_3b067 14 = .ok (.ireturn, 1) := by decide +kernel
theorem dJ2_getChar_3b067_0 : decode cJ2_getChar_3b067 0 = .ok (.getstatic 44, 3) := by decide +kernel
theorem dJ2_getChar_3b067_3 : decode cJ2_getChar_3b067 3 = .ok (.ifCond .ne 25, 3) := by decide +kernel
theorem dJ2_getChar_3b067_6 : decode cJ2_getChar_3b067 6 = .ok (.iload_n 1, 1) := by decide +kernel
theorem dJ2_getChar_3b067_7 : decode cJ2_getChar_3b067 7 = .ok (.ifCond .lt 11, 3) := by decide +kernel
theorem dJ2_getChar_3b067_10 : decode cJ2_getChar_3b067 10 = .ok (.iload_n 1, 1) := by decide +kernel
theorem dJ2_getChar_3b067_11 : decode cJ2_getChar_3b067 11 = .ok (.aload_n 0, 1) := by decide +kernel
theorem dJ2_getChar_3b067_12 : decode cJ2_getChar_3b067 12 = .ok (.invokestatic 48, 3) := by decide +kernel
theorem dJ2_getChar_3b067_15 : decode cJ2_getChar_3b067 15 = .ok (.if_icmp .lt 13, 3) := by decide +kernel
theorem dJ2_getChar_3b067_18 : decode cJ2_getChar_3b067 18 = .ok (.new 52, 3) := by decide +kernel
theorem dJ2_getChar_3b067_21 : decode cJ2_getChar_3b067 21 = .ok (.dup, 1) := by decide +kernel
theorem dJ2_getChar_3b067_22 : decode cJ2_getChar_3b067 22 = .ok (.ldc 54, 2) := by decide +kernel
theorem dJ2_getChar_3b067_24 : decode cJ2_getChar_3b067 24 = .ok (.invokespecial 56, 3) := by decide +kernel
theorem dJ2_getChar_3b067_27 : decode cJ2_getChar_3b067 27 = .ok (.athrow, 1) := by decide +kernel
theorem dJ2_getChar_3b067_28 : decode cJ2_getChar_3b067 28 = .ok (.iload_n 1, 1) := by decide +kernel
theorem dJ2_getChar_3b067_29 : decode cJ2_getChar_3b067 29 = .ok (.iconst 1, 1) := by decide +kernel
theorem dJ2_getChar_3b067_30 : decode cJ2_getChar_3b067 30 = .ok (.ishl, 1) := by decide +kernel
theorem dJ2_getChar_3b067_31 : decode cJ2_getChar_3b067 31 = .ok (.istore_n 1, 1) := by decide +kernel
theorem dJ2_getChar_3b067_32 : decode cJ2_getChar_3b067 32 = .ok (.aload_n 0, 1) := by decide +kernel
theorem dJ2_getChar_3b067_33 : decode cJ2_getChar_3b067 33 = .ok (.iload_n 1, 1) := by decide +kernel
theorem dJ2_getChar_3b067_34 : decode cJ2_getChar_3b067 34 = .ok (.iinc 1 1, 3) := by decide +kernel
theorem dJ2_getChar_3b067_37 : decode cJ2_getChar_3b067 37 = .ok (.baload, 1) := by decide +kernel
theorem dJ2_getChar_3b067_38 : decode cJ2_getChar_3b067 38 = .ok (.sipush 255, 3) := by decide +kernel
theorem dJ2_getChar_3b067_41 : decode cJ2_getChar_3b067 41 = .ok (.iand, 1) := by decide +kernel
theorem dJ2_getChar_3b067_42 : decode cJ2_getChar_3b067 42 = .ok (.getstatic 59, 3) := by decide +kernel
theorem dJ2_getChar_3b067_45 : decode cJ2_getChar_3b067 45 = .ok (.ishl, 1) := by decide +kernel
theorem dJ2_getChar_3b067_46 : decode cJ2_getChar_3b067 46 = .ok (.aload_n 0, 1) := by decide +kernel
theorem dJ2_getChar_3b067_47 : decode cJ2_getChar_3b067 47 = .ok (.iload_n 1, 1) := by decide +kernel
theorem dJ2_getChar_3b067_48 : decode cJ2_getChar_3b067 48 = .ok (.baload, 1) := by decide +kernel
theorem dJ2_getChar_3b067_49 : decode cJ2_getChar_3b067 49 = .ok (.sipush 255, 3) := by decide +kernel
theorem dJ2_getChar_3b067_52 : decode cJ2_getChar_3b067 52 = .ok (.iand, 1) := by decide +kernel
theorem dJ2_getChar_3b067_53 : decode cJ2_getChar_3b067 53 = .ok (.getstatic 63, 3) := by decide +kernel
theorem dJ2_getChar_3b067_56 : decode cJ2_getChar_3b067 56 = .ok (.ishl, 1) := by decide +kernel
theorem dJ2_getChar_3b067_57 : decode cJ2_getChar_3b067 57 = .ok (.ior, 1) := by decide +kernel
theorem dJ2_getChar_3b067_58 : decode cJ2_getChar_3b067 58 = .ok (.i2c, 1) := by decide +kernel
theorem dJ2_getChar_3b067_59 : decode cJ2_getChar_3b067 59 = .ok (.ireturn, 1) := by decide +kernel
theorem dJ2_length_9d52b_0 : decode cJ2_length_9d52b 0 = .ok (.aload_n 0, 1) := by decide +kernel
theorem dJ2_length_9d52b_1 : decode cJ2_length_9d52b 1 = .ok (.arraylength, 1) := by decide +kernel
theorem dJ2_length_9d52b_2 : decode cJ2_length_9d52b 2 = .ok (.iconst 1, 1) := by decide +kernel
theorem dJ2_length_9d52b_3 : decode cJ2_length_9d52b 3 = .ok (.ishr, 1) := by decide +kernel
theorem dJ2_length_9d52b_4 : decode cJ2_length_9d52b 4 = .ok (.ireturn, 1) := by decide +kernel
theorem dJ2_charAt_3b067_0 : decode cJ2_charAt_3b067 0 = .ok (.iload_n 1, 1) := by decide +kernel
theorem dJ2_charAt_3b067_1 : decode cJ2_charAt_3b067 1 = .ok (.aload_n 0, 1) := by decide +kernel
theorem dJ2_charAt_3b067_2 : decode cJ2_charAt_3b067 2 = .ok (.invokestatic 67, 3) := by decide +kernel
theorem dJ2_charAt_3b067_5 : decode cJ2_charAt_3b067 5 = .ok (.aload_n 0, 1) := by decide +kernel
theorem dJ2_charAt_3b067_6 : decode cJ2_charAt_3b067 6 = .ok (.iload_n 1, 1) := by decide +kernel
theorem dJ2_charAt_3b067_7 : decode cJ2_charAt_3b067 7 = .ok (.invokestatic 71, 3) := by decide +kernel
theorem dJ2_charAt_3b067_10 : decode cJ2_charAt_3b067 10 = .ok (.ireturn, 1) := by decide +kernel
theorem dJ2_checkIndex_2214a_0 : decode cJ2_checkIndex_2214a 0 = .ok (.iload_n 0, 1) := by decide +kernel
theorem dJ2_checkIndex_2214a_1 : decode cJ2_checkIndex_2214a 1 = .ok (.aload_n 1, 1) := by decide +kernel
theorem dJ2_checkIndex_2214a_2 : decode cJ2_checkIndex_2214a 2 = .ok (.invokestatic 48, 3) := by decide +kernel
theorem dJ2_checkIndex_2214a_5 : decode cJ2_checkIndex_2214a 5 = .ok (.invokestatic 414, 3) := by decide +kernel
theorem dJ2_checkIndex_2214a_8 : decode cJ2_checkIndex_2214a 8 = .ok (.return_, 1) := by decide +kernel
theorem dJ7_fill_d0a16_0 : decode cJ7_fill_d0a16 0 = .ok (.iconst 0, 1) := by decide +kernel
theorem dJ7_fill_d0a16_1 : decode cJ7_fill_d0a16 1 = .ok (.istore_n 3, 1) := by decide +kernel
theorem dJ7_fill_d0a16_2 : decode cJ7_fill_d0a16 2 = .ok (.aload_n 0, 1) := by decide +kernel
theorem dJ7_fill_d0a16_3 : decode cJ7_fill_d0a16 3 = .ok (.arraylength, 1) := by decide +kernel
theorem dJ7_fill_d0a16_4 : decode cJ7_fill_d0a16 4 = .ok (.istore 4, 2) := by decide +kernel
theorem dJ7_fill_d0a16_6 : decode cJ7_fill_d0a16 6 = .ok (.iload_n 3, 1) := by decide +kernel
theorem dJ7_fill_d0a16_7 : decode cJ7_fill_d0a16 7 = .ok (.iload 4, 2) := by decide +kernel
theorem dJ7_fill_d0a16_9 : decode cJ7_fill_d0a16 9 = .ok (.if_icmp .ge 13, 3) := by decide +kernel
theorem dJ7_fill_d0a16_12 : decode cJ7_fill_d0a16 12 = .ok (.aload_n 0, 1) := by decide +kernel
theorem dJ7_fill_d0a16_13 : decode cJ7_fill_d0a16 13 = .ok (.iload_n 3, 1) := by decide +kernel
theorem dJ7_fill_d0a16_14 : decode cJ7_fill_d0a16 14 = .ok (.lload_n 1, 1) := by decide +kernel
theorem dJ7_fill_d0a16_15 : decode cJ7_fill_d0a16 15 = .ok (.lastore, 1) := by decide +kernel
theorem dJ7_fill_d0a16_16 : decode cJ7_fill_d0a16 16 = .ok (.iinc 3 1, 3) := by decide +kernel
theorem dJ7_fill_d0a16_19 : decode cJ7_fill_d0a16 19 = .ok (.goto (-13), 3) := by decide +kernel
theorem dJ7_fill_d0a16_22 : decode cJ7_fill_d0a16 22 = .ok (.return_, 1) := by decide +kernel
theorem dJ7_fill_53178_0 : decode cJ7_fill_53178 0 = .ok (.iconst 0, 1) := by decide +kernel
theorem dJ7_fill_53178_1 : decode cJ7_fill_53178 1 = .ok (.istore_n 2, 1) := by decide +kernel
theorem dJ7_fill_53178_2 : decode cJ7_fill_53178 2 = .ok (.aload_n 0, 1) := by decide +kernel
theorem dJ7_fill_53178_3 : decode cJ7_fill_53178 3 = .ok (.arraylength, 1) := by decide +kernel
theorem dJ7_fill_53178_4 : decode cJ7_fill_53178 4 = .ok (.istore_n 3, 1) := by decide +kernel
theorem dJ7_fill_53178_5 : decode cJ7_fill_53178 5 = .ok (.iload_n 2, 1) := by decide +kernel
theorem dJ7_fill_53178_6 : decode cJ7_fill_53178 6 = .ok (.iload_n 3, 1) := by decide +kernel
theorem dJ7_fill_53178_7 : decode cJ7_fill_53178 7 = .ok (.if_icmp .ge 13, 3) := by decide +kernel
theorem dJ7_fill_53178_10 : decode cJ7_fill_53178 10 = .ok (.aload_n 0, 1) := by decide +kernel
theorem dJ7_fill_53178_11 : decode cJ7_fill_53178 11 = .ok (.iload_n 2, 1) := by decide +kernel
theorem dJ7_fill_53178_12 : decode cJ7_fill_53178 12 = .ok (.iload_n 1, 1) := by decide +kernel
theorem dJ7_fill_53178_13 : decode cJ7_fill_53178 13 = .ok (.iastore, 1) := by decide +kernel
theorem dJ7_fill_53178_14 : decode cJ7_fill_53178 14 = .ok (.iinc 2 1, 3) := by decide +kernel
theorem dJ7_fill_53178_17 : decode cJ7_fill_53178 17 = .ok (.goto (-12), 3) := by decide +kernel
theorem dJ7_fill_53178_20 : decode cJ7_fill_53178 20 = .ok (.return_, 1) := by decide +kernel
theorem dJ3_checkIndex_8e157_0 : decode cJ3_checkIndex_8e157 0 = .ok (.iload_n 0, 1) := by decide +kernel
theorem dJ3_checkIndex_8e157_1 : decode cJ3_checkIndex_8e157 1 = .ok (.ifCond .lt 8, 3) := by decide +kernel
theorem dJ3_checkIndex_8e157_4 : decode cJ3_checkIndex_8e157 4 = .ok (.iload_n 0, 1) := by decide +kernel
theorem dJ3_checkIndex_8e157_5 : decode cJ3_checkIndex_8e157 5 = .ok (.iload_n 1, 1) := by decide +kernel
theorem dJ3_checkIndex_8e157_6 : decode cJ3_checkIndex_8e157 6 = .ok (.if_icmp .lt 10, 3) := by decide +kernel
theorem dJ3_checkIndex_8e157_9 : decode cJ3_checkIndex_8e157 9 = .ok (.aload_n 2, 1) := by decide +kernel
theorem dJ3_checkIndex_8e157_10 : decode cJ3_checkIndex_8e157 10 = .ok (.iload_n 0, 1) := by decide +kernel
theorem dJ3_checkIndex_8e157_11 : decode cJ3_checkIndex_8e157 11 = .ok (.iload_n 1, 1) := by decide +kernel
theorem dJ3_checkIndex_8e157_12 : decode cJ3_checkIndex_8e157 12 = .ok (.invokestatic 95, 3) := by decide +kernel
theorem dJ3_checkIndex_8e157_15 : decode cJ3_checkIndex_8e157 15 = .ok (.athrow, 1) := by decide +kernel
theorem dJ3_checkIndex_8e157_16 : decode cJ3_checkIndex_8e157 16 = .ok (.iload_n 0, 1) := by decide +kernel
theorem dJ3_checkIndex_8e157_17 : decode cJ3_checkIndex_8e157 17 = .ok (.ireturn, 1) := by decide +kernel
theorem dL_law_0 : decode cL_law 0 = .ok (.new 7, 3) := by decide +kernel
theorem dL_law_3 : decode cL_law 3 = .ok (.dup, 1) := by decide +kernel
theorem dL_law_4 : decode cL_law 4 = .ok (.invokespecial 9, 3) := by decide +kernel
theorem dL_law_7 : decode cL_law 7 = .ok (.astore_n 1, 1) := by decide +kernel
theorem dL_law_8 : decode cL_law 8 = .ok (.new 10, 3) := by decide +kernel
theorem dL_law_11 : decode cL_law 11 = .ok (.dup, 1) := by decide +kernel
theorem dL_law_12 : decode cL_law 12 = .ok (.invokespecial 12, 3) := by decide +kernel
theorem dL_law_15 : decode cL_law 15 = .ok (.astore_n 2, 1) := by decide +kernel
theorem dL_law_16 : decode cL_law 16 = .ok (.iconst 0, 1) := by decide +kernel
theorem dL_law_17 : decode cL_law 17 = .ok (.istore_n 3, 1) := by decide +kernel
theorem dL_law_18 : decode cL_law 18 = .ok (.iload_n 3, 1) := by decide +kernel
theorem dL_law_19 : decode cL_law 19 = .ok (.aload_n 0, 1) := by decide +kernel
theorem dL_law_20 : decode cL_law 20 = .ok (.arraylength, 1) := by decide +kernel
theorem dL_law_21 : decode cL_law 21 = .ok (.bipush 6, 2) := by decide +kernel
theorem dL_law_23 : decode cL_law 23 = .ok (.isub, 1) := by decide +kernel
theorem dL_law_24 : decode cL_law 24 = .ok (.if_icmp .gt 936, 3) := by decide +kernel
theorem dL_law_27 : decode cL_law 27 = .ok (.aload_n 0, 1) := by decide +kernel
theorem dL_law_28 : decode cL_law 28 = .ok (.iload_n 3, 1) := by decide +kernel
theorem dL_law_29 : decode cL_law 29 = .ok (.iaload, 1) := by decide +kernel
theorem dL_law_30 : decode cL_law 30 = .ok (.bipush 31, 2) := by decide +kernel
theorem dL_law_32 : decode cL_law 32 = .ok (.iand, 1) := by decide +kernel
theorem dL_law_33 : decode cL_law 33 = .ok (.tableswitch 921 0 24 #[115, 138, 201, 224, 257, 290, 333, 366, 409, 452, 485, 518, 551, 584, 607, 630, 664, 707, 740, 783, 826, 849, 862, 875, 898], 115) := by decide +kernel
theorem dL_law_148 : decode cL_law 148 = .ok (.aload_n 1, 1) := by decide +kernel
theorem dL_law_149 : decode cL_law 149 = .ok (.aload_n 0, 1) := by decide +kernel
theorem dL_law_150 : decode cL_law 150 = .ok (.iload_n 3, 1) := by decide +kernel
theorem dL_law_151 : decode cL_law 151 = .ok (.iconst 1, 1) := by decide +kernel
theorem dL_law_152 : decode cL_law 152 = .ok (.iadd, 1) := by decide +kernel
theorem dL_law_153 : decode cL_law 153 = .ok (.iaload, 1) := by decide +kernel
theorem dL_law_154 : decode cL_law 154 = .ok (.invokevirtual 13, 3) := by decide +kernel
theorem dL_law_157 : decode cL_law 157 = .ok (.aload_n 2, 1) := by decide +kernel
theorem dL_law_158 : decode cL_law 158 = .ok (.aload_n 0, 1) := by decide +kernel
theorem dL_law_159 : decode cL_law 159 = .ok (.iload_n 3, 1) := by decide +kernel
theorem dL_law_160 : decode cL_law 160 = .ok (.iconst 1, 1) := by decide +kernel
theorem dL_law_161 : decode cL_law 161 = .ok (.iadd, 1) := by decide +kernel
theorem dL_law_162 : decode cL_law 162 = .ok (.iaload, 1) := by decide +kernel
theorem dL_law_163 : decode cL_law 163 = .ok (.invokevirtual 17, 3) := by decide +kernel
theorem dL_law_166 : decode cL_law 166 = .ok (.if_icmp .eq 788, 3) := by decide +kernel
theorem dL_law_169 : decode cL_law 169 = .ok (.iconst 0, 1) := by decide +kernel
theorem dL_law_170 : decode cL_law 170 = .ok (.ireturn, 1) := by decide +kernel
theorem dL_law_171 : decode cL_law 171 = .ok (.aload_n 1, 1) := by decide +kernel
theorem dL_law_172 : decode cL_law 172 = .ok (.aload_n 0, 1) := by decide +kernel
theorem dL_law_173 : decode cL_law 173 = .ok (.iload_n 3, 1) := by decide +kernel
theorem dL_law_174 : decode cL_law 174 = .ok (.iconst 1, 1) := by decide +kernel
theorem dL_law_175 : decode cL_law 175 = .ok (.iadd, 1) := by decide +kernel
theorem dL_law_176 : decode cL_law 176 = .ok (.iaload, 1) := by decide +kernel
theorem dL_law_177 : decode cL_law 177 = .ok (.aload_n 0, 1) := by decide +kernel
theorem dL_law_178 : decode cL_law 178 = .ok (.iload_n 3, 1) := by decide +kernel
theorem dL_law_179 : decode cL_law 179 = .ok (.iconst 2, 1) := by decide +kernel
theorem dL_law_180 : decode cL_law 180 = .ok (.iadd, 1) := by decide +kernel
theorem dL_law_181 : decode cL_law 181 = .ok (.iaload, 1) := by decide +kernel
theorem dL_law_182 : decode cL_law 182 = .ok (.aload_n 0, 1) := by decide +kernel
theorem dL_law_183 : decode cL_law 183 = .ok (.iload_n 3, 1) := by decide +kernel
theorem dL_law_184 : decode cL_law 184 = .ok (.iconst 3, 1) := by decide +kernel
theorem dL_law_185 : decode cL_law 185 = .ok (.iadd, 1) := by decide +kernel
theorem dL_law_186 : decode cL_law 186 = .ok (.iaload, 1) := by decide +kernel
theorem dL_law_187 : decode cL_law 187 = .ok (.aload_n 0, 1) := by decide +kernel
theorem dL_law_188 : decode cL_law 188 = .ok (.iload_n 3, 1) := by decide +kernel
theorem dL_law_189 : decode cL_law 189 = .ok (.iconst 4, 1) := by decide +kernel
theorem dL_law_190 : decode cL_law 190 = .ok (.iadd, 1) := by decide +kernel
theorem dL_law_191 : decode cL_law 191 = .ok (.iaload, 1) := by decide +kernel
theorem dL_law_192 : decode cL_law 192 = .ok (.aload_n 0, 1) := by decide +kernel
theorem dL_law_193 : decode cL_law 193 = .ok (.iload_n 3, 1) := by decide +kernel
theorem dL_law_194 : decode cL_law 194 = .ok (.iconst 5, 1) := by decide +kernel
theorem dL_law_195 : decode cL_law 195 = .ok (.iadd, 1) := by decide +kernel
theorem dL_law_196 : decode cL_law 196 = .ok (.iaload, 1) := by decide +kernel
theorem dL_law_197 : decode cL_law 197 = .ok (.invokevirtual 18, 3) := by decide +kernel
theorem dL_law_200 : decode cL_law 200 = .ok (.aload_n 2, 1) := by decide +kernel
theorem dL_law_201 : decode cL_law 201 = .ok (.aload_n 0, 1) := by decide +kernel
theorem dL_law_202 : decode cL_law 202 = .ok (.iload_n 3, 1) := by decide +kernel
theorem dL_law_203 : decode cL_law 203 = .ok (.iconst 1, 1) := by decide +kernel
theorem dL_law_204 : decode cL_law 204 = .ok (.iadd, 1) := by decide +kernel
theorem dL_law_205 : decode cL_law 205 = .ok (.iaload, 1) := by decide +kernel
theorem dL_law_206 : decode cL_law 206 = .ok (.aload_n 0, 1) := by decide +kernel
theorem dL_law_207 : decode cL_law 207 = .ok (.iload_n 3, 1) := by decide +kernel
theorem dL_law_208 : decode cL_law 208 = .ok (.iconst 2, 1) := by decide +kernel
theorem dL_law_209 : decode cL_law 209 = .ok (.iadd, 1) := by decide +kernel
theorem dL_law_210 : decode cL_law 210 = .ok (.iaload, 1) := by decide +kernel
theorem dL_law_211 : decode cL_law 211 = .ok (.aload_n 0, 1) := by decide +kernel
theorem dL_law_212 : decode cL_law 212 = .ok (.iload_n 3, 1) := by decide +kernel
theorem dL_law_213 : decode cL_law 213 = .ok (.iconst 3, 1) := by decide +kernel
theorem dL_law_214 : decode cL_law 214 = .ok (.iadd, 1) := by decide +kernel
theorem dL_law_215 : decode cL_law 215 = .ok (.iaload, 1) := by decide +kernel
theorem dL_law_216 : decode cL_law 216 = .ok (.aload_n 0, 1) := by decide +kernel
theorem dL_law_217 : decode cL_law 217 = .ok (.iload_n 3, 1) := by decide +kernel
theorem dL_law_218 : decode cL_law 218 = .ok (.iconst 4, 1) := by decide +kernel
theorem dL_law_219 : decode cL_law 219 = .ok (.iadd, 1) := by decide +kernel
theorem dL_law_220 : decode cL_law 220 = .ok (.iaload, 1) := by decide +kernel
theorem dL_law_221 : decode cL_law 221 = .ok (.aload_n 0, 1) := by decide +kernel
theorem dL_law_222 : decode cL_law 222 = .ok (.iload_n 3, 1) := by decide +kernel
theorem dL_law_223 : decode cL_law 223 = .ok (.iconst 5, 1) := by decide +kernel
theorem dL_law_224 : decode cL_law 224 = .ok (.iadd, 1) := by decide +kernel
theorem dL_law_225 : decode cL_law 225 = .ok (.iaload, 1) := by decide +kernel
theorem dL_law_226 : decode cL_law 226 = .ok (.invokevirtual 22, 3) := by decide +kernel
theorem dL_law_229 : decode cL_law 229 = .ok (.if_icmp .eq 725, 3) := by decide +kernel
theorem dL_law_232 : decode cL_law 232 = .ok (.iconst 0, 1) := by decide +kernel
theorem dL_law_233 : decode cL_law 233 = .ok (.ireturn, 1) := by decide +kernel
theorem dL_law_234 : decode cL_law 234 = .ok (.aload_n 1, 1) := by decide +kernel
theorem dL_law_235 : decode cL_law 235 = .ok (.aload_n 0, 1) := by decide +kernel
theorem dL_law_236 : decode cL_law 236 = .ok (.iload_n 3, 1) := by decide +kernel
theorem dL_law_237 : decode cL_law 237 = .ok (.iconst 1, 1) := by decide +kernel
theorem dL_law_238 : decode cL_law 238 = .ok (.iadd, 1) := by decide +kernel
theorem dL_law_239 : decode cL_law 239 = .ok (.iaload, 1) := by decide +kernel
theorem dL_law_240 : decode cL_law 240 = .ok (.invokevirtual 23, 3) := by decide +kernel
theorem dL_law_243 : decode cL_law 243 = .ok (.aload_n 2, 1) := by decide +kernel
theorem dL_law_244 : decode cL_law 244 = .ok (.aload_n 0, 1) := by decide +kernel
theorem dL_law_245 : decode cL_law 245 = .ok (.iload_n 3, 1) := by decide +kernel
theorem dL_law_246 : decode cL_law 246 = .ok (.iconst 1, 1) := by decide +kernel
theorem dL_law_247 : decode cL_law 247 = .ok (.iadd, 1) := by decide +kernel
theorem dL_law_248 : decode cL_law 248 = .ok (.iaload, 1) := by decide +kernel
theorem dL_law_249 : decode cL_law 249 = .ok (.invokevirtual 27, 3) := by decide +kernel
theorem dL_law_252 : decode cL_law 252 = .ok (.if_icmp .eq 702, 3) := by decide +kernel
theorem dL_law_255 : decode cL_law 255 = .ok (.iconst 0, 1) := by decide +kernel
theorem dL_law_256 : decode cL_law 256 = .ok (.ireturn, 1) := by decide +kernel
theorem dL_law_257 : decode cL_law 257 = .ok (.aload_n 1, 1) := by decide +kernel
theorem dL_law_258 : decode cL_law 258 = .ok (.aload_n 0, 1) := by decide +kernel
theorem dL_law_259 : decode cL_law 259 = .ok (.iload_n 3, 1) := by decide +kernel
theorem dL_law_260 : decode cL_law 260 = .ok (.iconst 1, 1) := by decide +kernel
theorem dL_law_261 : decode cL_law 261 = .ok (.iadd, 1) := by decide +kernel
theorem dL_law_262 : decode cL_law 262 = .ok (.iaload, 1) := by decide +kernel
theorem dL_law_263 : decode cL_law 263 = .ok (.aload_n 0, 1) := by decide +kernel
theorem dL_law_264 : decode cL_law 264 = .ok (.iload_n 3, 1) := by decide +kernel
theorem dL_law_265 : decode cL_law 265 = .ok (.iconst 2, 1) := by decide +kernel
theorem dL_law_266 : decode cL_law 266 = .ok (.iadd, 1) := by decide +kernel
theorem dL_law_267 : decode cL_law 267 = .ok (.iaload, 1) := by decide +kernel
theorem dL_law_268 : decode cL_law 268 = .ok (.invokevirtual 28, 3) := by decide +kernel
theorem dL_law_271 : decode cL_law 271 = .ok (.aload_n 2, 1) := by decide +kernel
theorem dL_law_272 : decode cL_law 272 = .ok (.aload_n 0, 1) := by decide +kernel
theorem dL_law_273 : decode cL_law 273 = .ok (.iload_n 3, 1) := by decide +kernel
theorem dL_law_274 : decode cL_law 274 = .ok (.iconst 1, 1) := by decide +kernel
theorem dL_law_275 : decode cL_law 275 = .ok (.iadd, 1) := by decide +kernel
theorem dL_law_276 : decode cL_law 276 = .ok (.iaload, 1) := by decide +kernel
theorem dL_law_277 : decode cL_law 277 = .ok (.aload_n 0, 1) := by decide +kernel
theorem dL_law_278 : decode cL_law 278 = .ok (.iload_n 3, 1) := by decide +kernel
theorem dL_law_279 : decode cL_law 279 = .ok (.iconst 2, 1) := by decide +kernel
theorem dL_law_280 : decode cL_law 280 = .ok (.iadd, 1) := by decide +kernel
theorem dL_law_281 : decode cL_law 281 = .ok (.iaload, 1) := by decide +kernel
theorem dL_law_282 : decode cL_law 282 = .ok (.invokevirtual 32, 3) := by decide +kernel
theorem dL_law_285 : decode cL_law 285 = .ok (.if_icmp .eq 669, 3) := by decide +kernel
theorem dL_law_288 : decode cL_law 288 = .ok (.iconst 0, 1) := by decide +kernel
theorem dL_law_289 : decode cL_law 289 = .ok (.ireturn, 1) := by decide +kernel
theorem dL_law_290 : decode cL_law 290 = .ok (.aload_n 1, 1) := by decide +kernel
theorem dL_law_291 : decode cL_law 291 = .ok (.aload_n 0, 1) := by decide +kernel
theorem dL_law_292 : decode cL_law 292 = .ok (.iload_n 3, 1) := by decide +kernel
theorem dL_law_293 : decode cL_law 293 = .ok (.iconst 1, 1) := by decide +kernel
theorem dL_law_294 : decode cL_law 294 = .ok (.iadd, 1) := by decide +kernel
theorem dL_law_295 : decode cL_law 295 = .ok (.iaload, 1) := by decide +kernel
theorem dL_law_296 : decode cL_law 296 = .ok (.aload_n 0, 1) := by decide +kernel
theorem dL_law_297 : decode cL_law 297 = .ok (.iload_n 3, 1) := by decide +kernel
theorem dL_law_298 : decode cL_law 298 = .ok (.iconst 2, 1) := by decide +kernel
theorem dL_law_299 : decode cL_law 299 = .ok (.iadd, 1) := by decide +kernel
theorem dL_law_300 : decode cL_law 300 = .ok (.iaload, 1) := by decide +kernel
theorem dL_law_301 : decode cL_law 301 = .ok (.invokevirtual 33, 3) := by decide +kernel
theorem dL_law_304 : decode cL_law 304 = .ok (.aload_n 2, 1) := by decide +kernel
theorem dL_law_305 : decode cL_law 305 = .ok (.aload_n 0, 1) := by decide +kernel
theorem dL_law_306 : decode cL_law 306 = .ok (.iload_n 3, 1) := by decide +kernel
theorem dL_law_307 : decode cL_law 307 = .ok (.iconst 1, 1) := by decide +kernel
theorem dL_law_308 : decode cL_law 308 = .ok (.iadd, 1) := by decide +kernel
theorem dL_law_309 : decode cL_law 309 = .ok (.iaload, 1) := by decide +kernel
theorem dL_law_310 : decode cL_law 310 = .ok (.aload_n 0, 1) := by decide +kernel
theorem dL_law_311 : decode cL_law 311 = .ok (.iload_n 3, 1) := by decide +kernel
theorem dL_law_312 : decode cL_law 312 = .ok (.iconst 2, 1) := by decide +kernel
theorem dL_law_313 : decode cL_law 313 = .ok (.iadd, 1) := by decide +kernel
theorem dL_law_314 : decode cL_law 314 = .ok (.iaload, 1) := by decide +kernel
theorem dL_law_315 : decode cL_law 315 = .ok (.invokevirtual 36, 3) := by decide +kernel
theorem dL_law_318 : decode cL_law 318 = .ok (.if_icmp .eq 636, 3) := by decide +kernel
theorem dL_law_321 : decode cL_law 321 = .ok (.iconst 0, 1) := by decide +kernel
theorem dL_law_322 : decode cL_law 322 = .ok (.ireturn, 1) := by decide +kernel
theorem dL_law_323 : decode cL_law 323 = .ok (.aload_n 1, 1) := by decide +kernel
theorem dL_law_324 : decode cL_law 324 = .ok (.aload_n 0, 1) := by decide +kernel
theorem dL_law_325 : decode cL_law 325 = .ok (.iload_n 3, 1) := by decide +kernel
theorem dL_law_326 : decode cL_law 326 = .ok (.iconst 1, 1) := by decide +kernel
theorem dL_law_327 : decode cL_law 327 = .ok (.iadd, 1) := by decide +kernel
theorem dL_law_328 : decode cL_law 328 = .ok (.iaload, 1) := by decide +kernel
theorem dL_law_329 : decode cL_law 329 = .ok (.aload_n 0, 1) := by decide +kernel
theorem dL_law_330 : decode cL_law 330 = .ok (.iload_n 3, 1) := by decide +kernel
theorem dL_law_331 : decode cL_law 331 = .ok (.iconst 2, 1) := by decide +kernel
theorem dL_law_332 : decode cL_law 332 = .ok (.iadd, 1) := by decide +kernel
theorem dL_law_333 : decode cL_law 333 = .ok (.iaload, 1) := by decide +kernel
theorem dL_law_334 : decode cL_law 334 = .ok (.aload_n 0, 1) := by decide +kernel
theorem dL_law_335 : decode cL_law 335 = .ok (.iload_n 3, 1) := by decide +kernel
theorem dL_law_336 : decode cL_law 336 = .ok (.iconst 3, 1) := by decide +kernel
theorem dL_law_337 : decode cL_law 337 = .ok (.iadd, 1) := by decide +kernel
theorem dL_law_338 : decode cL_law 338 = .ok (.iaload, 1) := by decide +kernel
theorem dL_law_339 : decode cL_law 339 = .ok (.invokevirtual 37, 3) := by decide +kernel
theorem dL_law_342 : decode cL_law 342 = .ok (.aload_n 2, 1) := by decide +kernel
theorem dL_law_343 : decode cL_law 343 = .ok (.aload_n 0, 1) := by decide +kernel
theorem dL_law_344 : decode cL_law 344 = .ok (.iload_n 3, 1) := by decide +kernel
theorem dL_law_345 : decode cL_law 345 = .ok (.iconst 1, 1) := by decide +kernel
theorem dL_law_346 : decode cL_law 346 = .ok (.iadd, 1) := by decide +kernel
theorem dL_law_347 : decode cL_law 347 = .ok (.iaload, 1) := by decide +kernel
theorem dL_law_348 : decode cL_law 348 = .ok (.aload_n 0, 1) := by decide +kernel
theorem dL_law_349 : decode cL_law 349 = .ok (.iload_n 3, 1) := by decide +kernel
theorem dL_law_350 : decode cL_law 350 = .ok (.iconst 2, 1) := by decide +kernel
theorem dL_law_351 : decode cL_law 351 = .ok (.iadd, 1) := by decide +kernel
theorem dL_law_352 : decode cL_law 352 = .ok (.iaload, 1) := by decide +kernel
theorem dL_law_353 : decode cL_law 353 = .ok (.aload_n 0, 1) := by decide +kernel
theorem dL_law_354 : decode cL_law 354 = .ok (.iload_n 3, 1) := by decide +kernel
theorem dL_law_355 : decode cL_law 355 = .ok (.iconst 3, 1) := by decide +kernel
theorem dL_law_356 : decode cL_law 356 = .ok (.iadd, 1) := by decide +kernel
theorem dL_law_357 : decode cL_law 357 = .ok (.iaload, 1) := by decide +kernel
theorem dL_law_358 : decode cL_law 358 = .ok (.invokevirtual 41, 3) := by decide +kernel
theorem dL_law_361 : decode cL_law 361 = .ok (.if_icmp .eq 593, 3) := by decide +kernel
theorem dL_law_364 : decode cL_law 364 = .ok (.iconst 0, 1) := by decide +kernel
theorem dL_law_365 : decode cL_law 365 = .ok (.ireturn, 1) := by decide +kernel
theorem dL_law_366 : decode cL_law 366 = .ok (.aload_n 1, 1) := by decide +kernel
theorem dL_law_367 : decode cL_law 367 = .ok (.aload_n 0, 1) := by decide +kernel
theorem dL_law_368 : decode cL_law 368 = .ok (.iload_n 3, 1) := by decide +kernel
theorem dL_law_369 : decode cL_law 369 = .ok (.iconst 1, 1) := by decide +kernel
theorem dL_law_370 : decode cL_law 370 = .ok (.iadd, 1) := by decide +kernel
theorem dL_law_371 : decode cL_law 371 = .ok (.iaload, 1) := by decide +kernel
theorem dL_law_372 : decode cL_law 372 = .ok (.aload_n 0, 1) := by decide +kernel
theorem dL_law_373 : decode cL_law 373 = .ok (.iload_n 3, 1) := by decide +kernel
theorem dL_law_374 : decode cL_law 374 = .ok (.iconst 2, 1) := by decide +kernel
theorem dL_law_375 : decode cL_law 375 = .ok (.iadd, 1) := by decide +kernel
theorem dL_law_376 : decode cL_law 376 = .ok (.iaload, 1) := by decide +kernel
theorem dL_law_377 : decode cL_law 377 = .ok (.invokevirtual 42, 3) := by decide +kernel
theorem dL_law_380 : decode cL_law 380 = .ok (.aload_n 2, 1) := by decide +kernel
theorem dL_law_381 : decode cL_law 381 = .ok (.aload_n 0, 1) := by decide +kernel
theorem dL_law_382 : decode cL_law 382 = .ok (.iload_n 3, 1) := by decide +kernel
theorem dL_law_383 : decode cL_law 383 = .ok (.iconst 1, 1) := by decide +kernel
theorem dL_law_384 : decode cL_law 384 = .ok (.iadd, 1) := by decide +kernel
theorem dL_law_385 : decode cL_law 385 = .ok (.iaload, 1) := by decide +kernel
theorem dL_law_386 : decode cL_law 386 = .ok (.aload_n 0, 1) := by decide +kernel
theorem dL_law_387 : decode cL_law 387 = .ok (.iload_n 3, 1) := by decide +kernel
theorem dL_law_388 : decode cL_law 388 = .ok (.iconst 2, 1) := by decide +kernel
theorem dL_law_389 : decode cL_law 389 = .ok (.iadd, 1) := by decide +kernel
theorem dL_law_390 : decode cL_law 390 = .ok (.iaload, 1) := by decide +kernel
theorem dL_law_391 : decode cL_law 391 = .ok (.invokevirtual 45, 3) := by decide +kernel
theorem dL_law_394 : decode cL_law 394 = .ok (.if_icmp .eq 560, 3) := by decide +kernel
theorem dL_law_397 : decode cL_law 397 = .ok (.iconst 0, 1) := by decide +kernel
theorem dL_law_398 : decode cL_law 398 = .ok (.ireturn, 1) := by decide +kernel
theorem dL_law_399 : decode cL_law 399 = .ok (.aload_n 1, 1) := by decide +kernel
theorem dL_law_400 : decode cL_law 400 = .ok (.aload_n 0, 1) := by decide +kernel
theorem dL_law_401 : decode cL_law 401 = .ok (.iload_n 3, 1) := by decide +kernel
theorem dL_law_402 : decode cL_law 402 = .ok (.iconst 1, 1) := by decide +kernel
theorem dL_law_403 : decode cL_law 403 = .ok (.iadd, 1) := by decide +kernel
theorem dL_law_404 : decode cL_law 404 = .ok (.iaload, 1) := by decide +kernel
theorem dL_law_405 : decode cL_law 405 = .ok (.aload_n 0, 1) := by decide +kernel
theorem dL_law_406 : decode cL_law 406 = .ok (.iload_n 3, 1) := by decide +kernel
theorem dL_law_407 : decode cL_law 407 = .ok (.iconst 2, 1) := by decide +kernel
theorem dL_law_408 : decode cL_law 408 = .ok (.iadd, 1) := by decide +kernel
theorem dL_law_409 : decode cL_law 409 = .ok (.iaload, 1) := by decide +kernel
theorem dL_law_410 : decode cL_law 410 = .ok (.aload_n 0, 1) := by decide +kernel
theorem dL_law_411 : decode cL_law 411 = .ok (.iload_n 3, 1) := by decide +kernel
theorem dL_law_412 : decode cL_law 412 = .ok (.iconst 3, 1) := by decide +kernel
theorem dL_law_413 : decode cL_law 413 = .ok (.iadd, 1) := by decide +kernel
theorem dL_law_414 : decode cL_law 414 = .ok (.iaload, 1) := by decide +kernel
theorem dL_law_415 : decode cL_law 415 = .ok (.invokevirtual 46, 3) := by decide +kernel
theorem dL_law_418 : decode cL_law 418 = .ok (.aload_n 2, 1) := by decide +kernel
theorem dL_law_419 : decode cL_law 419 = .ok (.aload_n 0, 1) := by decide +kernel
theorem dL_law_420 : decode cL_law 420 = .ok (.iload_n 3, 1) := by decide +kernel
theorem dL_law_421 : decode cL_law 421 = .ok (.iconst 1, 1) := by decide +kernel
theorem dL_law_422 : decode cL_law 422 = .ok (.iadd, 1) := by decide +kernel
theorem dL_law_423 : decode cL_law 423 = .ok (.iaload, 1) := by decide +kernel
theorem dL_law_424 : decode cL_law 424 = .ok (.aload_n 0, 1) := by decide +kernel
theorem dL_law_425 : decode cL_law 425 = .ok (.iload_n 3, 1) := by decide +kernel
theorem dL_law_426 : decode cL_law 426 = .ok (.iconst 2, 1) := by decide +kernel
theorem dL_law_427 : decode cL_law 427 = .ok (.iadd, 1) := by decide +kernel
theorem dL_law_428 : decode cL_law 428 = .ok (.iaload, 1) := by decide +kernel
theorem dL_law_429 : decode cL_law 429 = .ok (.aload_n 0, 1) := by decide +kernel
theorem dL_law_430 : decode cL_law 430 = .ok (.iload_n 3, 1) := by decide +kernel
theorem dL_law_431 : decode cL_law 431 = .ok (.iconst 3, 1) := by decide +kernel
theorem dL_law_432 : decode cL_law 432 = .ok (.iadd, 1) := by decide +kernel
theorem dL_law_433 : decode cL_law 433 = .ok (.iaload, 1) := by decide +kernel
theorem dL_law_434 : decode cL_law 434 = .ok (.invokevirtual 49, 3) := by decide +kernel
theorem dL_law_437 : decode cL_law 437 = .ok (.if_icmp .eq 517, 3) := by decide +kernel
theorem dL_law_440 : decode cL_law 440 = .ok (.iconst 0, 1) := by decide +kernel
theorem dL_law_441 : decode cL_law 441 = .ok (.ireturn, 1) := by decide +kernel
theorem dL_law_442 : decode cL_law 442 = .ok (.aload_n 1, 1) := by decide +kernel
theorem dL_law_443 : decode cL_law 443 = .ok (.aload_n 0, 1) := by decide +kernel
theorem dL_law_444 : decode cL_law 444 = .ok (.iload_n 3, 1) := by decide +kernel
theorem dL_law_445 : decode cL_law 445 = .ok (.iconst 1, 1) := by decide +kernel
theorem dL_law_446 : decode cL_law 446 = .ok (.iadd, 1) := by decide +kernel
theorem dL_law_447 : decode cL_law 447 = .ok (.iaload, 1) := by decide +kernel
theorem dL_law_448 : decode cL_law 448 = .ok (.aload_n 0, 1) := by decide +kernel
theorem dL_law_449 : decode cL_law 449 = .ok (.iload_n 3, 1) := by decide +kernel
theorem dL_law_450 : decode cL_law 450 = .ok (.iconst 2, 1) := by decide +kernel
theorem dL_law_451 : decode cL_law 451 = .ok (.iadd, 1) := by decide +kernel
theorem dL_law_452 : decode cL_law 452 = .ok (.iaload, 1) := by decide +kernel
theorem dL_law_453 : decode cL_law 453 = .ok (.aload_n 0, 1) := by decide +kernel
theorem dL_law_454 : decode cL_law 454 = .ok (.iload_n 3, 1) := by decide +kernel
theorem dL_law_455 : decode cL_law 455 = .ok (.iconst 3, 1) := by decide +kernel
theorem dL_law_456 : decode cL_law 456 = .ok (.iadd, 1) := by decide +kernel
theorem dL_law_457 : decode cL_law 457 = .ok (.iaload, 1) := by decide +kernel
theorem dL_law_458 : decode cL_law 458 = .ok (.invokevirtual 50, 3) := by decide +kernel
theorem dL_law_461 : decode cL_law 461 = .ok (.aload_n 2, 1) := by decide +kernel
theorem dL_law_462 : decode cL_law 462 = .ok (.aload_n 0, 1) := by decide +kernel
theorem dL_law_463 : decode cL_law 463 = .ok (.iload_n 3, 1) := by decide +kernel
theorem dL_law_464 : decode cL_law 464 = .ok (.iconst 1, 1) := by decide +kernel
theorem dL_law_465 : decode cL_law 465 = .ok (.iadd, 1) := by decide +kernel
theorem dL_law_466 : decode cL_law 466 = .ok (.iaload, 1) := by decide +kernel
theorem dL_law_467 : decode cL_law 467 = .ok (.aload_n 0, 1) := by decide +kernel
theorem dL_law_468 : decode cL_law 468 = .ok (.iload_n 3, 1) := by decide +kernel
theorem dL_law_469 : decode cL_law 469 = .ok (.iconst 2, 1) := by decide +kernel
theorem dL_law_470 : decode cL_law 470 = .ok (.iadd, 1) := by decide +kernel
theorem dL_law_471 : decode cL_law 471 = .ok (.iaload, 1) := by decide +kernel
theorem dL_law_472 : decode cL_law 472 = .ok (.aload_n 0, 1) := by decide +kernel
theorem dL_law_473 : decode cL_law 473 = .ok (.iload_n 3, 1) := by decide +kernel
theorem dL_law_474 : decode cL_law 474 = .ok (.iconst 3, 1) := by decide +kernel
theorem dL_law_475 : decode cL_law 475 = .ok (.iadd, 1) := by decide +kernel
theorem dL_law_476 : decode cL_law 476 = .ok (.iaload, 1) := by decide +kernel
theorem dL_law_477 : decode cL_law 477 = .ok (.invokevirtual 53, 3) := by decide +kernel
theorem dL_law_480 : decode cL_law 480 = .ok (.if_icmp .eq 474, 3) := by decide +kernel
theorem dL_law_483 : decode cL_law 483 = .ok (.iconst 0, 1) := by decide +kernel
theorem dL_law_484 : decode cL_law 484 = .ok (.ireturn, 1) := by decide +kernel
theorem dL_law_485 : decode cL_law 485 = .ok (.aload_n 1, 1) := by decide +kernel
theorem dL_law_486 : decode cL_law 486 = .ok (.aload_n 0, 1) := by decide +kernel
theorem dL_law_487 : decode cL_law 487 = .ok (.iload_n 3, 1) := by decide +kernel
theorem dL_law_488 : decode cL_law 488 = .ok (.iconst 1, 1) := by decide +kernel
theorem dL_law_489 : decode cL_law 489 = .ok (.iadd, 1) := by decide +kernel
theorem dL_law_490 : decode cL_law 490 = .ok (.iaload, 1) := by decide +kernel
theorem dL_law_491 : decode cL_law 491 = .ok (.aload_n 0, 1) := by decide +kernel
theorem dL_law_492 : decode cL_law 492 = .ok (.iload_n 3, 1) := by decide +kernel
theorem dL_law_493 : decode cL_law 493 = .ok (.iconst 2, 1) := by decide +kernel
theorem dL_law_494 : decode cL_law 494 = .ok (.iadd, 1) := by decide +kernel
theorem dL_law_495 : decode cL_law 495 = .ok (.iaload, 1) := by decide +kernel
theorem dL_law_496 : decode cL_law 496 = .ok (.invokevirtual 54, 3) := by decide +kernel
theorem dL_law_499 : decode cL_law 499 = .ok (.aload_n 2, 1) := by decide +kernel
theorem dL_law_500 : decode cL_law 500 = .ok (.aload_n 0, 1) := by decide +kernel
theorem dL_law_501 : decode cL_law 501 = .ok (.iload_n 3, 1) := by decide +kernel
theorem dL_law_502 : decode cL_law 502 = .ok (.iconst 1, 1) := by decide +kernel
theorem dL_law_503 : decode cL_law 503 = .ok (.iadd, 1) := by decide +kernel
theorem dL_law_504 : decode cL_law 504 = .ok (.iaload, 1) := by decide +kernel
theorem dL_law_505 : decode cL_law 505 = .ok (.aload_n 0, 1) := by decide +kernel
theorem dL_law_506 : decode cL_law 506 = .ok (.iload_n 3, 1) := by decide +kernel
theorem dL_law_507 : decode cL_law 507 = .ok (.iconst 2, 1) := by decide +kernel
theorem dL_law_508 : decode cL_law 508 = .ok (.iadd, 1) := by decide +kernel
theorem dL_law_509 : decode cL_law 509 = .ok (.iaload, 1) := by decide +kernel
theorem dL_law_510 : decode cL_law 510 = .ok (.invokevirtual 57, 3) := by decide +kernel
theorem dL_law_513 : decode cL_law 513 = .ok (.if_icmp .eq 441, 3) := by decide +kernel
theorem dL_law_516 : decode cL_law 516 = .ok (.iconst 0, 1) := by decide +kernel
theorem dL_law_517 : decode cL_law 517 = .ok (.ireturn, 1) := by decide +kernel
theorem dL_law_518 : decode cL_law 518 = .ok (.aload_n 1, 1) := by decide +kernel
theorem dL_law_519 : decode cL_law 519 = .ok (.aload_n 0, 1) := by decide +kernel
theorem dL_law_520 : decode cL_law 520 = .ok (.iload_n 3, 1) := by decide +kernel
theorem dL_law_521 : decode cL_law 521 = .ok (.iconst 1, 1) := by decide +kernel
theorem dL_law_522 : decode cL_law 522 = .ok (.iadd, 1) := by decide +kernel
theorem dL_law_523 : decode cL_law 523 = .ok (.iaload, 1) := by decide +kernel
theorem dL_law_524 : decode cL_law 524 = .ok (.aload_n 0, 1) := by decide +kernel
theorem dL_law_525 : decode cL_law 525 = .ok (.iload_n 3, 1) := by decide +kernel
theorem dL_law_526 : decode cL_law 526 = .ok (.iconst 2, 1) := by decide +kernel
theorem dL_law_527 : decode cL_law 527 = .ok (.iadd, 1) := by decide +kernel
theorem dL_law_528 : decode cL_law 528 = .ok (.iaload, 1) := by decide +kernel
theorem dL_law_529 : decode cL_law 529 = .ok (.invokevirtual 58, 3) := by decide +kernel
theorem dL_law_532 : decode cL_law 532 = .ok (.aload_n 2, 1) := by decide +kernel
theorem dL_law_533 : decode cL_law 533 = .ok (.aload_n 0, 1) := by decide +kernel
theorem dL_law_534 : decode cL_law 534 = .ok (.iload_n 3, 1) := by decide +kernel
theorem dL_law_535 : decode cL_law 535 = .ok (.iconst 1, 1) := by decide +kernel
theorem dL_law_536 : decode cL_law 536 = .ok (.iadd, 1) := by decide +kernel
theorem dL_law_537 : decode cL_law 537 = .ok (.iaload, 1) := by decide +kernel
theorem dL_law_538 : decode cL_law 538 = .ok (.aload_n 0, 1) := by decide +kernel
theorem dL_law_539 : decode cL_law 539 = .ok (.iload_n 3, 1) := by decide +kernel
theorem dL_law_540 : decode cL_law 540 = .ok (.iconst 2, 1) := by decide +kernel
theorem dL_law_541 : decode cL_law 541 = .ok (.iadd, 1) := by decide +kernel
theorem dL_law_542 : decode cL_law 542 = .ok (.iaload, 1) := by decide +kernel
theorem dL_law_543 : decode cL_law 543 = .ok (.invokevirtual 61, 3) := by decide +kernel
theorem dL_law_546 : decode cL_law 546 = .ok (.if_icmp .eq 408, 3) := by decide +kernel
theorem dL_law_549 : decode cL_law 549 = .ok (.iconst 0, 1) := by decide +kernel
theorem dL_law_550 : decode cL_law 550 = .ok (.ireturn, 1) := by decide +kernel
theorem dL_law_551 : decode cL_law 551 = .ok (.aload_n 1, 1) := by decide +kernel
theorem dL_law_552 : decode cL_law 552 = .ok (.aload_n 0, 1) := by decide +kernel
theorem dL_law_553 : decode cL_law 553 = .ok (.iload_n 3, 1) := by decide +kernel
theorem dL_law_554 : decode cL_law 554 = .ok (.iconst 1, 1) := by decide +kernel
theorem dL_law_555 : decode cL_law 555 = .ok (.iadd, 1) := by decide +kernel
theorem dL_law_556 : decode cL_law 556 = .ok (.iaload, 1) := by decide +kernel
theorem dL_law_557 : decode cL_law 557 = .ok (.aload_n 0, 1) := by decide +kernel
theorem dL_law_558 : decode cL_law 558 = .ok (.iload_n 3, 1) := by decide +kernel
theorem dL_law_559 : decode cL_law 559 = .ok (.iconst 2, 1) := by decide +kernel
theorem dL_law_560 : decode cL_law 560 = .ok (.iadd, 1) := by decide +kernel
theorem dL_law_561 : decode cL_law 561 = .ok (.iaload, 1) := by decide +kernel
theorem dL_law_562 : decode cL_law 562 = .ok (.invokevirtual 62, 3) := by decide +kernel
theorem dL_law_565 : decode cL_law 565 = .ok (.aload_n 2, 1) := by decide +kernel
theorem dL_law_566 : decode cL_law 566 = .ok (.aload_n 0, 1) := by decide +kernel
theorem dL_law_567 : decode cL_law 567 = .ok (.iload_n 3, 1) := by decide +kernel
theorem dL_law_568 : decode cL_law 568 = .ok (.iconst 1, 1) := by decide +kernel
theorem dL_law_569 : decode cL_law 569 = .ok (.iadd, 1) := by decide +kernel
theorem dL_law_570 : decode cL_law 570 = .ok (.iaload, 1) := by decide +kernel
theorem dL_law_571 : decode cL_law 571 = .ok (.aload_n 0, 1) := by decide +kernel
theorem dL_law_572 : decode cL_law 572 = .ok (.iload_n 3, 1) := by decide +kernel
theorem dL_law_573 : decode cL_law 573 = .ok (.iconst 2, 1) := by decide +kernel
theorem dL_law_574 : decode cL_law 574 = .ok (.iadd, 1) := by decide +kernel
theorem dL_law_575 : decode cL_law 575 = .ok (.iaload, 1) := by decide +kernel
theorem dL_law_576 : decode cL_law 576 = .ok (.invokevirtual 65, 3) := by decide +kernel
theorem dL_law_579 : decode cL_law 579 = .ok (.if_icmp .eq 375, 3) := by decide +kernel
theorem dL_law_582 : decode cL_law 582 = .ok (.iconst 0, 1) := by decide +kernel
theorem dL_law_583 : decode cL_law 583 = .ok (.ireturn, 1) := by decide +kernel
theorem dL_law_584 : decode cL_law 584 = .ok (.aload_n 1, 1) := by decide +kernel
theorem dL_law_585 : decode cL_law 585 = .ok (.aload_n 0, 1) := by decide +kernel
theorem dL_law_586 : decode cL_law 586 = .ok (.iload_n 3, 1) := by decide +kernel
theorem dL_law_587 : decode cL_law 587 = .ok (.iconst 1, 1) := by decide +kernel
theorem dL_law_588 : decode cL_law 588 = .ok (.iadd, 1) := by decide +kernel
theorem dL_law_589 : decode cL_law 589 = .ok (.iaload, 1) := by decide +kernel
theorem dL_law_590 : decode cL_law 590 = .ok (.aload_n 0, 1) := by decide +kernel
theorem dL_law_591 : decode cL_law 591 = .ok (.iload_n 3, 1) := by decide +kernel
theorem dL_law_592 : decode cL_law 592 = .ok (.iconst 2, 1) := by decide +kernel
theorem dL_law_593 : decode cL_law 593 = .ok (.iadd, 1) := by decide +kernel
theorem dL_law_594 : decode cL_law 594 = .ok (.iaload, 1) := by decide +kernel
theorem dL_law_595 : decode cL_law 595 = .ok (.invokevirtual 66, 3) := by decide +kernel
theorem dL_law_598 : decode cL_law 598 = .ok (.aload_n 2, 1) := by decide +kernel
theorem dL_law_599 : decode cL_law 599 = .ok (.aload_n 0, 1) := by decide +kernel
theorem dL_law_600 : decode cL_law 600 = .ok (.iload_n 3, 1) := by decide +kernel
theorem dL_law_601 : decode cL_law 601 = .ok (.iconst 1, 1) := by decide +kernel
theorem dL_law_602 : decode cL_law 602 = .ok (.iadd, 1) := by decide +kernel
theorem dL_law_603 : decode cL_law 603 = .ok (.iaload, 1) := by decide +kernel
theorem dL_law_604 : decode cL_law 604 = .ok (.aload_n 0, 1) := by decide +kernel
theorem dL_law_605 : decode cL_law 605 = .ok (.iload_n 3, 1) := by decide +kernel
theorem dL_law_606 : decode cL_law 606 = .ok (.iconst 2, 1) := by decide +kernel
theorem dL_law_607 : decode cL_law 607 = .ok (.iadd, 1) := by decide +kernel
theorem dL_law_608 : decode cL_law 608 = .ok (.iaload, 1) := by decide +kernel
theorem dL_law_609 : decode cL_law 609 = .ok (.invokevirtual 69, 3) := by decide +kernel
theorem dL_law_612 : decode cL_law 612 = .ok (.if_icmp .eq 342, 3) := by decide +kernel
theorem dL_law_615 : decode cL_law 615 = .ok (.iconst 0, 1) := by decide +kernel
theorem dL_law_616 : decode cL_law 616 = .ok (.ireturn, 1) := by decide +kernel
theorem dL_law_617 : decode cL_law 617 = .ok (.aload_n 1, 1) := by decide +kernel
theorem dL_law_618 : decode cL_law 618 = .ok (.aload_n 0, 1) := by decide +kernel
theorem dL_law_619 : decode cL_law 619 = .ok (.iload_n 3, 1) := by decide +kernel
theorem dL_law_620 : decode cL_law 620 = .ok (.iconst 1, 1) := by decide +kernel
theorem dL_law_621 : decode cL_law 621 = .ok (.iadd, 1) := by decide +kernel
theorem dL_law_622 : decode cL_law 622 = .ok (.iaload, 1) := by decide +kernel
theorem dL_law_623 : decode cL_law 623 = .ok (.invokevirtual 70, 3) := by decide +kernel
theorem dL_law_626 : decode cL_law 626 = .ok (.aload_n 2, 1) := by decide +kernel
theorem dL_law_627 : decode cL_law 627 = .ok (.aload_n 0, 1) := by decide +kernel
theorem dL_law_628 : decode cL_law 628 = .ok (.iload_n 3, 1) := by decide +kernel
theorem dL_law_629 : decode cL_law 629 = .ok (.iconst 1, 1) := by decide +kernel
theorem dL_law_630 : decode cL_law 630 = .ok (.iadd, 1) := by decide +kernel
theorem dL_law_631 : decode cL_law 631 = .ok (.iaload, 1) := by decide +kernel
theorem dL_law_632 : decode cL_law 632 = .ok (.invokevirtual 73, 3) := by decide +kernel
theorem dL_law_635 : decode cL_law 635 = .ok (.if_icmp .eq 319, 3) := by decide +kernel
theorem dL_law_638 : decode cL_law 638 = .ok (.iconst 0, 1) := by decide +kernel
theorem dL_law_639 : decode cL_law 639 = .ok (.ireturn, 1) := by decide +kernel
theorem dL_law_640 : decode cL_law 640 = .ok (.aload_n 1, 1) := by decide +kernel
theorem dL_law_641 : decode cL_law 641 = .ok (.aload_n 0, 1) := by decide +kernel
theorem dL_law_642 : decode cL_law 642 = .ok (.iload_n 3, 1) := by decide +kernel
theorem dL_law_643 : decode cL_law 643 = .ok (.iconst 1, 1) := by decide +kernel
theorem dL_law_644 : decode cL_law 644 = .ok (.iadd, 1) := by decide +kernel
theorem dL_law_645 : decode cL_law 645 = .ok (.iaload, 1) := by decide +kernel
theorem dL_law_646 : decode cL_law 646 = .ok (.invokevirtual 74, 3) := by decide +kernel
theorem dL_law_649 : decode cL_law 649 = .ok (.aload_n 2, 1) := by decide +kernel
theorem dL_law_650 : decode cL_law 650 = .ok (.aload_n 0, 1) := by decide +kernel
theorem dL_law_651 : decode cL_law 651 = .ok (.iload_n 3, 1) := by decide +kernel
theorem dL_law_652 : decode cL_law 652 = .ok (.iconst 1, 1) := by decide +kernel
theorem dL_law_653 : decode cL_law 653 = .ok (.iadd, 1) := by decide +kernel
theorem dL_law_654 : decode cL_law 654 = .ok (.iaload, 1) := by decide +kernel
theorem dL_law_655 : decode cL_law 655 = .ok (.invokevirtual 77, 3) := by decide +kernel
theorem dL_law_658 : decode cL_law 658 = .ok (.if_icmp .eq 296, 3) := by decide +kernel
theorem dL_law_661 : decode cL_law 661 = .ok (.iconst 0, 1) := by decide +kernel
theorem dL_law_662 : decode cL_law 662 = .ok (.ireturn, 1) := by decide +kernel
theorem dL_law_663 : decode cL_law 663 = .ok (.aload_n 1, 1) := by decide +kernel
theorem dL_law_664 : decode cL_law 664 = .ok (.aload_n 0, 1) := by decide +kernel
theorem dL_law_665 : decode cL_law 665 = .ok (.iload_n 3, 1) := by decide +kernel
theorem dL_law_666 : decode cL_law 666 = .ok (.iconst 1, 1) := by decide +kernel
theorem dL_law_667 : decode cL_law 667 = .ok (.iadd, 1) := by decide +kernel
theorem dL_law_668 : decode cL_law 668 = .ok (.iaload, 1) := by decide +kernel
theorem dL_law_669 : decode cL_law 669 = .ok (.aload_n 0, 1) := by decide +kernel
theorem dL_law_670 : decode cL_law 670 = .ok (.iload_n 3, 1) := by decide +kernel
theorem dL_law_671 : decode cL_law 671 = .ok (.iconst 2, 1) := by decide +kernel
theorem dL_law_672 : decode cL_law 672 = .ok (.iadd, 1) := by decide +kernel
theorem dL_law_673 : decode cL_law 673 = .ok (.iaload, 1) := by decide +kernel
theorem dL_law_674 : decode cL_law 674 = .ok (.invokevirtual 78, 3) := by decide +kernel
theorem dL_law_677 : decode cL_law 677 = .ok (.aload_n 2, 1) := by decide +kernel
theorem dL_law_678 : decode cL_law 678 = .ok (.aload_n 0, 1) := by decide +kernel
theorem dL_law_679 : decode cL_law 679 = .ok (.iload_n 3, 1) := by decide +kernel
theorem dL_law_680 : decode cL_law 680 = .ok (.iconst 1, 1) := by decide +kernel
theorem dL_law_681 : decode cL_law 681 = .ok (.iadd, 1) := by decide +kernel
theorem dL_law_682 : decode cL_law 682 = .ok (.iaload, 1) := by decide +kernel
theorem dL_law_683 : decode cL_law 683 = .ok (.aload_n 0, 1) := by decide +kernel
theorem dL_law_684 : decode cL_law 684 = .ok (.iload_n 3, 1) := by decide +kernel
theorem dL_law_685 : decode cL_law 685 = .ok (.iconst 2, 1) := by decide +kernel
theorem dL_law_686 : decode cL_law 686 = .ok (.iadd, 1) := by decide +kernel
theorem dL_law_687 : decode cL_law 687 = .ok (.iaload, 1) := by decide +kernel
theorem dL_law_688 : decode cL_law 688 = .ok (.invokevirtual 82, 3) := by decide +kernel
theorem dL_law_691 : decode cL_law 691 = .ok (.lcmp, 1) := by decide +kernel
theorem dL_law_692 : decode cL_law 692 = .ok (.ifCond .eq 262, 3) := by decide +kernel
theorem dL_law_695 : decode cL_law 695 = .ok (.iconst 0, 1) := by decide +kernel
theorem dL_law_696 : decode cL_law 696 = .ok (.ireturn, 1) := by decide +kernel
theorem dL_law_697 : decode cL_law 697 = .ok (.aload_n 1, 1) := by decide +kernel
theorem dL_law_698 : decode cL_law 698 = .ok (.aload_n 0, 1) := by decide +kernel
theorem dL_law_699 : decode cL_law 699 = .ok (.iload_n 3, 1) := by decide +kernel
theorem dL_law_700 : decode cL_law 700 = .ok (.iconst 1, 1) := by decide +kernel
theorem dL_law_701 : decode cL_law 701 = .ok (.iadd, 1) := by decide +kernel
theorem dL_law_702 : decode cL_law 702 = .ok (.iaload, 1) := by decide +kernel
theorem dL_law_703 : decode cL_law 703 = .ok (.aload_n 0, 1) := by decide +kernel
theorem dL_law_704 : decode cL_law 704 = .ok (.iload_n 3, 1) := by decide +kernel
theorem dL_law_705 : decode cL_law 705 = .ok (.iconst 2, 1) := by decide +kernel
theorem dL_law_706 : decode cL_law 706 = .ok (.iadd, 1) := by decide +kernel
theorem dL_law_707 : decode cL_law 707 = .ok (.iaload, 1) := by decide +kernel
theorem dL_law_708 : decode cL_law 708 = .ok (.aload_n 0, 1) := by decide +kernel
theorem dL_law_709 : decode cL_law 709 = .ok (.iload_n 3, 1) := by decide +kernel
theorem dL_law_710 : decode cL_law 710 = .ok (.iconst 3, 1) := by decide +kernel
theorem dL_law_711 : decode cL_law 711 = .ok (.iadd, 1) := by decide +kernel
theorem dL_law_712 : decode cL_law 712 = .ok (.iaload, 1) := by decide +kernel
theorem dL_law_713 : decode cL_law 713 = .ok (.invokevirtual 83, 3) := by decide +kernel
theorem dL_law_716 : decode cL_law 716 = .ok (.aload_n 2, 1) := by decide +kernel
theorem dL_law_717 : decode cL_law 717 = .ok (.aload_n 0, 1) := by decide +kernel
theorem dL_law_718 : decode cL_law 718 = .ok (.iload_n 3, 1) := by decide +kernel
theorem dL_law_719 : decode cL_law 719 = .ok (.iconst 1, 1) := by decide +kernel
theorem dL_law_720 : decode cL_law 720 = .ok (.iadd, 1) := by decide +kernel
theorem dL_law_721 : decode cL_law 721 = .ok (.iaload, 1) := by decide +kernel
theorem dL_law_722 : decode cL_law 722 = .ok (.aload_n 0, 1) := by decide +kernel
theorem dL_law_723 : decode cL_law 723 = .ok (.iload_n 3, 1) := by decide +kernel
theorem dL_law_724 : decode cL_law 724 = .ok (.iconst 2, 1) := by decide +kernel
theorem dL_law_725 : decode cL_law 725 = .ok (.iadd, 1) := by decide +kernel
theorem dL_law_726 : decode cL_law 726 = .ok (.iaload, 1) := by decide +kernel
theorem dL_law_727 : decode cL_law 727 = .ok (.aload_n 0, 1) := by decide +kernel
theorem dL_law_728 : decode cL_law 728 = .ok (.iload_n 3, 1) := by decide +kernel
theorem dL_law_729 : decode cL_law 729 = .ok (.iconst 3, 1) := by decide +kernel
theorem dL_law_730 : decode cL_law 730 = .ok (.iadd, 1) := by decide +kernel
theorem dL_law_731 : decode cL_law 731 = .ok (.iaload, 1) := by decide +kernel
theorem dL_law_732 : decode cL_law 732 = .ok (.invokevirtual 86, 3) := by decide +kernel
theorem dL_law_735 : decode cL_law 735 = .ok (.if_icmp .eq 219, 3) := by decide +kernel
theorem dL_law_738 : decode cL_law 738 = .ok (.iconst 0, 1) := by decide +kernel
theorem dL_law_739 : decode cL_law 739 = .ok (.ireturn, 1) := by decide +kernel
theorem dL_law_740 : decode cL_law 740 = .ok (.aload_n 1, 1) := by decide +kernel
theorem dL_law_741 : decode cL_law 741 = .ok (.aload_n 0, 1) := by decide +kernel
theorem dL_law_742 : decode cL_law 742 = .ok (.iload_n 3, 1) := by decide +kernel
theorem dL_law_743 : decode cL_law 743 = .ok (.iconst 1, 1) := by decide +kernel
theorem dL_law_744 : decode cL_law 744 = .ok (.iadd, 1) := by decide +kernel
theorem dL_law_745 : decode cL_law 745 = .ok (.iaload, 1) := by decide +kernel
theorem dL_law_746 : decode cL_law 746 = .ok (.aload_n 0, 1) := by decide +kernel
theorem dL_law_747 : decode cL_law 747 = .ok (.iload_n 3, 1) := by decide +kernel
theorem dL_law_748 : decode cL_law 748 = .ok (.iconst 2, 1) := by decide +kernel
theorem dL_law_749 : decode cL_law 749 = .ok (.iadd, 1) := by decide +kernel
theorem dL_law_750 : decode cL_law 750 = .ok (.iaload, 1) := by decide +kernel
theorem dL_law_751 : decode cL_law 751 = .ok (.invokevirtual 87, 3) := by decide +kernel
theorem dL_law_754 : decode cL_law 754 = .ok (.aload_n 2, 1) := by decide +kernel
theorem dL_law_755 : decode cL_law 755 = .ok (.aload_n 0, 1) := by decide +kernel
theorem dL_law_756 : decode cL_law 756 = .ok (.iload_n 3, 1) := by decide +kernel
theorem dL_law_757 : decode cL_law 757 = .ok (.iconst 1, 1) := by decide +kernel
theorem dL_law_758 : decode cL_law 758 = .ok (.iadd, 1) := by decide +kernel
theorem dL_law_759 : decode cL_law 759 = .ok (.iaload, 1) := by decide +kernel
theorem dL_law_760 : decode cL_law 760 = .ok (.aload_n 0, 1) := by decide +kernel
theorem dL_law_761 : decode cL_law 761 = .ok (.iload_n 3, 1) := by decide +kernel
theorem dL_law_762 : decode cL_law 762 = .ok (.iconst 2, 1) := by decide +kernel
theorem dL_law_763 : decode cL_law 763 = .ok (.iadd, 1) := by decide +kernel
theorem dL_law_764 : decode cL_law 764 = .ok (.iaload, 1) := by decide +kernel
theorem dL_law_765 : decode cL_law 765 = .ok (.invokevirtual 90, 3) := by decide +kernel
theorem dL_law_768 : decode cL_law 768 = .ok (.if_icmp .eq 186, 3) := by decide +kernel
theorem dL_law_771 : decode cL_law 771 = .ok (.iconst 0, 1) := by decide +kernel
theorem dL_law_772 : decode cL_law 772 = .ok (.ireturn, 1) := by decide +kernel
theorem dL_law_773 : decode cL_law 773 = .ok (.aload_n 1, 1) := by decide +kernel
theorem dL_law_774 : decode cL_law 774 = .ok (.aload_n 0, 1) := by decide +kernel
theorem dL_law_775 : decode cL_law 775 = .ok (.iload_n 3, 1) := by decide +kernel
theorem dL_law_776 : decode cL_law 776 = .ok (.iconst 1, 1) := by decide +kernel
theorem dL_law_777 : decode cL_law 777 = .ok (.iadd, 1) := by decide +kernel
theorem dL_law_778 : decode cL_law 778 = .ok (.iaload, 1) := by decide +kernel
theorem dL_law_779 : decode cL_law 779 = .ok (.aload_n 0, 1) := by decide +kernel
theorem dL_law_780 : decode cL_law 780 = .ok (.iload_n 3, 1) := by decide +kernel
theorem dL_law_781 : decode cL_law 781 = .ok (.iconst 2, 1) := by decide +kernel
theorem dL_law_782 : decode cL_law 782 = .ok (.iadd, 1) := by decide +kernel
theorem dL_law_783 : decode cL_law 783 = .ok (.iaload, 1) := by decide +kernel
theorem dL_law_784 : decode cL_law 784 = .ok (.aload_n 0, 1) := by decide +kernel
theorem dL_law_785 : decode cL_law 785 = .ok (.iload_n 3, 1) := by decide +kernel
theorem dL_law_786 : decode cL_law 786 = .ok (.iconst 3, 1) := by decide +kernel
theorem dL_law_787 : decode cL_law 787 = .ok (.iadd, 1) := by decide +kernel
theorem dL_law_788 : decode cL_law 788 = .ok (.iaload, 1) := by decide +kernel
theorem dL_law_789 : decode cL_law 789 = .ok (.invokevirtual 91, 3) := by decide +kernel
theorem dL_law_792 : decode cL_law 792 = .ok (.aload_n 2, 1) := by decide +kernel
theorem dL_law_793 : decode cL_law 793 = .ok (.aload_n 0, 1) := by decide +kernel
theorem dL_law_794 : decode cL_law 794 = .ok (.iload_n 3, 1) := by decide +kernel
theorem dL_law_795 : decode cL_law 795 = .ok (.iconst 1, 1) := by decide +kernel
theorem dL_law_796 : decode cL_law 796 = .ok (.iadd, 1) := by decide +kernel
theorem dL_law_797 : decode cL_law 797 = .ok (.iaload, 1) := by decide +kernel
theorem dL_law_798 : decode cL_law 798 = .ok (.aload_n 0, 1) := by decide +kernel
theorem dL_law_799 : decode cL_law 799 = .ok (.iload_n 3, 1) := by decide +kernel
theorem dL_law_800 : decode cL_law 800 = .ok (.iconst 2, 1) := by decide +kernel
theorem dL_law_801 : decode cL_law 801 = .ok (.iadd, 1) := by decide +kernel
theorem dL_law_802 : decode cL_law 802 = .ok (.iaload, 1) := by decide +kernel
theorem dL_law_803 : decode cL_law 803 = .ok (.aload_n 0, 1) := by decide +kernel
theorem dL_law_804 : decode cL_law 804 = .ok (.iload_n 3, 1) := by decide +kernel
theorem dL_law_805 : decode cL_law 805 = .ok (.iconst 3, 1) := by decide +kernel
theorem dL_law_806 : decode cL_law 806 = .ok (.iadd, 1) := by decide +kernel
theorem dL_law_807 : decode cL_law 807 = .ok (.iaload, 1) := by decide +kernel
theorem dL_law_808 : decode cL_law 808 = .ok (.invokevirtual 94, 3) := by decide +kernel
theorem dL_law_811 : decode cL_law 811 = .ok (.if_icmp .eq 143, 3) := by decide +kernel
theorem dL_law_814 : decode cL_law 814 = .ok (.iconst 0, 1) := by decide +kernel
theorem dL_law_815 : decode cL_law 815 = .ok (.ireturn, 1) := by decide +kernel
theorem dL_law_816 : decode cL_law 816 = .ok (.aload_n 1, 1) := by decide +kernel
theorem dL_law_817 : decode cL_law 817 = .ok (.aload_n 0, 1) := by decide +kernel
theorem dL_law_818 : decode cL_law 818 = .ok (.iload_n 3, 1) := by decide +kernel
theorem dL_law_819 : decode cL_law 819 = .ok (.iconst 1, 1) := by decide +kernel
theorem dL_law_820 : decode cL_law 820 = .ok (.iadd, 1) := by decide +kernel
theorem dL_law_821 : decode cL_law 821 = .ok (.iaload, 1) := by decide +kernel
theorem dL_law_822 : decode cL_law 822 = .ok (.aload_n 0, 1) := by decide +kernel
theorem dL_law_823 : decode cL_law 823 = .ok (.iload_n 3, 1) := by decide +kernel
theorem dL_law_824 : decode cL_law 824 = .ok (.iconst 2, 1) := by decide +kernel
theorem dL_law_825 : decode cL_law 825 = .ok (.iadd, 1) := by decide +kernel
theorem dL_law_826 : decode cL_law 826 = .ok (.iaload, 1) := by decide +kernel
theorem dL_law_827 : decode cL_law 827 = .ok (.aload_n 0, 1) := by decide +kernel
theorem dL_law_828 : decode cL_law 828 = .ok (.iload_n 3, 1) := by decide +kernel
theorem dL_law_829 : decode cL_law 829 = .ok (.iconst 3, 1) := by decide +kernel
theorem dL_law_830 : decode cL_law 830 = .ok (.iadd, 1) := by decide +kernel
theorem dL_law_831 : decode cL_law 831 = .ok (.iaload, 1) := by decide +kernel
theorem dL_law_832 : decode cL_law 832 = .ok (.invokevirtual 95, 3) := by decide +kernel
theorem dL_law_835 : decode cL_law 835 = .ok (.aload_n 2, 1) := by decide +kernel
theorem dL_law_836 : decode cL_law 836 = .ok (.aload_n 0, 1) := by decide +kernel
theorem dL_law_837 : decode cL_law 837 = .ok (.iload_n 3, 1) := by decide +kernel
theorem dL_law_838 : decode cL_law 838 = .ok (.iconst 1, 1) := by decide +kernel
theorem dL_law_839 : decode cL_law 839 = .ok (.iadd, 1) := by decide +kernel
theorem dL_law_840 : decode cL_law 840 = .ok (.iaload, 1) := by decide +kernel
theorem dL_law_841 : decode cL_law 841 = .ok (.aload_n 0, 1) := by decide +kernel
theorem dL_law_842 : decode cL_law 842 = .ok (.iload_n 3, 1) := by decide +kernel
theorem dL_law_843 : decode cL_law 843 = .ok (.iconst 2, 1) := by decide +kernel
theorem dL_law_844 : decode cL_law 844 = .ok (.iadd, 1) := by decide +kernel
theorem dL_law_845 : decode cL_law 845 = .ok (.iaload, 1) := by decide +kernel
theorem dL_law_846 : decode cL_law 846 = .ok (.aload_n 0, 1) := by decide +kernel
theorem dL_law_847 : decode cL_law 847 = .ok (.iload_n 3, 1) := by decide +kernel
theorem dL_law_848 : decode cL_law 848 = .ok (.iconst 3, 1) := by decide +kernel
theorem dL_law_849 : decode cL_law 849 = .ok (.iadd, 1) := by decide +kernel
theorem dL_law_850 : decode cL_law 850 = .ok (.iaload, 1) := by decide +kernel
theorem dL_law_851 : decode cL_law 851 = .ok (.invokevirtual 98, 3) := by decide +kernel
theorem dL_law_854 : decode cL_law 854 = .ok (.if_icmp .eq 100, 3) := by decide +kernel
theorem dL_law_857 : decode cL_law 857 = .ok (.iconst 0, 1) := by decide +kernel
theorem dL_law_858 : decode cL_law 858 = .ok (.ireturn, 1) := by decide +kernel
theorem dL_law_859 : decode cL_law 859 = .ok (.aload_n 1, 1) := by decide +kernel
theorem dL_law_860 : decode cL_law 860 = .ok (.aload_n 0, 1) := by decide +kernel
theorem dL_law_861 : decode cL_law 861 = .ok (.iload_n 3, 1) := by decide +kernel
theorem dL_law_862 : decode cL_law 862 = .ok (.iconst 1, 1) := by decide +kernel
theorem dL_law_863 : decode cL_law 863 = .ok (.iadd, 1) := by decide +kernel
theorem dL_law_864 : decode cL_law 864 = .ok (.iaload, 1) := by decide +kernel
theorem dL_law_865 : decode cL_law 865 = .ok (.invokevirtual 99, 3) := by decide +kernel
theorem dL_law_868 : decode cL_law 868 = .ok (.aload_n 2, 1) := by decide +kernel
theorem dL_law_869 : decode cL_law 869 = .ok (.aload_n 0, 1) := by decide +kernel
theorem dL_law_870 : decode cL_law 870 = .ok (.iload_n 3, 1) := by decide +kernel
theorem dL_law_871 : decode cL_law 871 = .ok (.iconst 1, 1) := by decide +kernel
theorem dL_law_872 : decode cL_law 872 = .ok (.iadd, 1) := by decide +kernel
theorem dL_law_873 : decode cL_law 873 = .ok (.iaload, 1) := by decide +kernel
theorem dL_law_874 : decode cL_law 874 = .ok (.invokevirtual 102, 3) := by decide +kernel
theorem dL_law_877 : decode cL_law 877 = .ok (.if_icmp .eq 77, 3) := by decide +kernel
theorem dL_law_880 : decode cL_law 880 = .ok (.iconst 0, 1) := by decide +kernel
theorem dL_law_881 : decode cL_law 881 = .ok (.ireturn, 1) := by decide +kernel
theorem dL_law_882 : decode cL_law 882 = .ok (.aload_n 1, 1) := by decide +kernel
theorem dL_law_883 : decode cL_law 883 = .ok (.invokevirtual 103, 3) := by decide +kernel
theorem dL_law_886 : decode cL_law 886 = .ok (.aload_n 2, 1) := by decide +kernel
theorem dL_law_887 : decode cL_law 887 = .ok (.invokevirtual 107, 3) := by decide +kernel
theorem dL_law_890 : decode cL_law 890 = .ok (.if_icmp .eq 64, 3) := by decide +kernel
theorem dL_law_893 : decode cL_law 893 = .ok (.iconst 0, 1) := by decide +kernel
theorem dL_law_894 : decode cL_law 894 = .ok (.ireturn, 1) := by decide +kernel
theorem dL_law_895 : decode cL_law 895 = .ok (.aload_n 1, 1) := by decide +kernel
theorem dL_law_896 : decode cL_law 896 = .ok (.invokevirtual 108, 3) := by decide +kernel
theorem dL_law_899 : decode cL_law 899 = .ok (.aload_n 2, 1) := by decide +kernel
theorem dL_law_900 : decode cL_law 900 = .ok (.invokevirtual 112, 3) := by decide +kernel
theorem dL_law_903 : decode cL_law 903 = .ok (.if_icmp .eq 51, 3) := by decide +kernel
theorem dL_law_906 : decode cL_law 906 = .ok (.iconst 0, 1) := by decide +kernel
theorem dL_law_907 : decode cL_law 907 = .ok (.ireturn, 1) := by decide +kernel
theorem dL_law_908 : decode cL_law 908 = .ok (.aload_n 1, 1) := by decide +kernel
theorem dL_law_909 : decode cL_law 909 = .ok (.aload_n 0, 1) := by decide +kernel
theorem dL_law_910 : decode cL_law 910 = .ok (.iload_n 3, 1) := by decide +kernel
theorem dL_law_911 : decode cL_law 911 = .ok (.iconst 1, 1) := by decide +kernel
theorem dL_law_912 : decode cL_law 912 = .ok (.iadd, 1) := by decide +kernel
theorem dL_law_913 : decode cL_law 913 = .ok (.iaload, 1) := by decide +kernel
theorem dL_law_914 : decode cL_law 914 = .ok (.invokevirtual 113, 3) := by decide +kernel
theorem dL_law_917 : decode cL_law 917 = .ok (.aload_n 2, 1) := by decide +kernel
theorem dL_law_918 : decode cL_law 918 = .ok (.aload_n 0, 1) := by decide +kernel
theorem dL_law_919 : decode cL_law 919 = .ok (.iload_n 3, 1) := by decide +kernel
theorem dL_law_920 : decode cL_law 920 = .ok (.iconst 1, 1) := by decide +kernel
theorem dL_law_921 : decode cL_law 921 = .ok (.iadd, 1) := by decide +kernel
theorem dL_law_922 : decode cL_law 922 = .ok (.iaload, 1) := by decide +kernel
theorem dL_law_923 : decode cL_law 923 = .ok (.invokevirtual 116, 3) := by decide +kernel
theorem dL_law_926 : decode cL_law 926 = .ok (.if_icmp .eq 28, 3) := by decide +kernel
theorem dL_law_929 : decode cL_law 929 = .ok (.iconst 0, 1) := by decide +kernel
theorem dL_law_930 : decode cL_law 930 = .ok (.ireturn, 1) := by decide +kernel
theorem dL_law_931 : decode cL_law 931 = .ok (.aload_n 1, 1) := by decide +kernel
theorem dL_law_932 : decode cL_law 932 = .ok (.aload_n 0, 1) := by decide +kernel
theorem dL_law_933 : decode cL_law 933 = .ok (.iload_n 3, 1) := by decide +kernel
theorem dL_law_934 : decode cL_law 934 = .ok (.iconst 1, 1) := by decide +kernel
theorem dL_law_935 : decode cL_law 935 = .ok (.iadd, 1) := by decide +kernel
theorem dL_law_936 : decode cL_law 936 = .ok (.iaload, 1) := by decide +kernel
theorem dL_law_937 : decode cL_law 937 = .ok (.invokevirtual 117, 3) := by decide +kernel
theorem dL_law_940 : decode cL_law 940 = .ok (.aload_n 2, 1) := by decide +kernel
theorem dL_law_941 : decode cL_law 941 = .ok (.aload_n 0, 1) := by decide +kernel
theorem dL_law_942 : decode cL_law 942 = .ok (.iload_n 3, 1) := by decide +kernel
theorem dL_law_943 : decode cL_law 943 = .ok (.iconst 1, 1) := by decide +kernel
theorem dL_law_944 : decode cL_law 944 = .ok (.iadd, 1) := by decide +kernel
theorem dL_law_945 : decode cL_law 945 = .ok (.iaload, 1) := by decide +kernel
theorem dL_law_946 : decode cL_law 946 = .ok (.invokevirtual 120, 3) := by decide +kernel
theorem dL_law_949 : decode cL_law 949 = .ok (.if_icmp .eq 5, 3) := by decide +kernel
theorem dL_law_952 : decode cL_law 952 = .ok (.iconst 0, 1) := by decide +kernel
theorem dL_law_953 : decode cL_law 953 = .ok (.ireturn, 1) := by decide +kernel
theorem dL_law_954 : decode cL_law 954 = .ok (.iinc 3 6, 3) := by decide +kernel
theorem dL_law_957 : decode cL_law 957 = .ok (.goto (-939), 3) := by decide +kernel
theorem dL_law_960 : decode cL_law 960 = .ok (.iconst 1, 1) := by decide +kernel
theorem dL_law_961 : decode cL_law 961 = .ok (.ireturn, 1) := by decide +kernel
