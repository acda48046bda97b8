theorem dX6_init_0 : decode cX6_init 0 = .ok (.aload_n 0, 1) := by decide +kernel
theorem dX6_init_1 : decode cX6_init 1 = .ok (.invokespecial 1, 3) := by decide +kernel
theorem dX6_init_4 : decode cX6_init 4 = .ok (.aload_n 0, 1) := by decide +kernel
theorem dX6_init_5 : decode cX6_init 5 = .ok (.sipush 300, 3) := by decide +kernel
theorem dX6_init_8 : decode cX6_init 8 = .ok (.newarray .int, 2) := by decide +kernel
theorem dX6_init_10 : decode cX6_init 10 = .ok (.putfield 7, 3) := by decide +kernel
theorem dX6_init_13 : decode cX6_init 13 = .ok (.aload_n 0, 1) := by decide +kernel
theorem dX6_init_14 : decode cX6_init 14 = .ok (.bipush 12, 2) := by decide +kernel
theorem dX6_init_16 : decode cX6_init 16 = .ok (.newarray .int, 2) := by decide +kernel
theorem dX6_init_18 : decode cX6_init 18 = .ok (.putfield 13, 3) := by decide +kernel
theorem dX6_init_21 : decode cX6_init 21 = .ok (.aload_n 0, 1) := by decide +kernel
theorem dX6_init_22 : decode cX6_init 22 = .ok (.bipush 12, 2) := by decide +kernel
theorem dX6_init_24 : decode cX6_init 24 = .ok (.newarray .int, 2) := by decide +kernel
theorem dX6_init_26 : decode cX6_init 26 = .ok (.putfield 16, 3) := by decide +kernel
theorem dX6_init_29 : decode cX6_init 29 = .ok (.aload_n 0, 1) := by decide +kernel
theorem dX6_init_30 : decode cX6_init 30 = .ok (.bipush 12, 2) := by decide +kernel
theorem dX6_init_32 : decode cX6_init 32 = .ok (.newarray .int, 2) := by decide +kernel
theorem dX6_init_34 : decode cX6_init 34 = .ok (.putfield 19, 3) := by decide +kernel
theorem dX6_init_37 : decode cX6_init 37 = .ok (.aload_n 0, 1) := by decide +kernel
theorem dX6_init_38 : decode cX6_init 38 = .ok (.bipush 12, 2) := by decide +kernel
theorem dX6_init_40 : decode cX6_init 40 = .ok (.newarray .int, 2) := by decide +kernel
theorem dX6_init_42 : decode cX6_init 42 = .ok (.putfield 22, 3) := by decide +kernel
theorem dX6_init_45 : decode cX6_init 45 = .ok (.aload_n 0, 1) := by decide +kernel
theorem dX6_init_46 : decode cX6_init 46 = .ok (.iconst 4, 1) := by decide +kernel
theorem dX6_init_47 : decode cX6_init 47 = .ok (.newarray .int, 2) := by decide +kernel
theorem dX6_init_49 : decode cX6_init 49 = .ok (.putfield 25, 3) := by decide +kernel
theorem dX6_init_52 : decode cX6_init 52 = .ok (.aload_n 0, 1) := by decide +kernel
theorem dX6_init_53 : decode cX6_init 53 = .ok (.iconst 4, 1) := by decide +kernel
theorem dX6_init_54 : decode cX6_init 54 = .ok (.newarray .int, 2) := by decide +kernel
theorem dX6_init_56 : decode cX6_init 56 = .ok (.putfield 28, 3) := by decide +kernel
theorem dX6_init_59 : decode cX6_init 59 = .ok (.aload_n 0, 1) := by decide +kernel
theorem dX6_init_60 : decode cX6_init 60 = .ok (.bipush 64, 2) := by decide +kernel
theorem dX6_init_62 : decode cX6_init 62 = .ok (.newarray .int, 2) := by decide +kernel
theorem dX6_init_64 : decode cX6_init 64 = .ok (.putfield 31, 3) := by decide +kernel
theorem dX6_init_67 : decode cX6_init 67 = .ok (.aload_n 0, 1) := by decide +kernel
theorem dX6_init_68 : decode cX6_init 68 = .ok (.bipush 64, 2) := by decide +kernel
theorem dX6_init_70 : decode cX6_init 70 = .ok (.newarray .int, 2) := by decide +kernel
theorem dX6_init_72 : decode cX6_init 72 = .ok (.putfield 34, 3) := by decide +kernel
theorem dX6_init_75 : decode cX6_init 75 = .ok (.aload_n 0, 1) := by decide +kernel
theorem dX6_init_76 : decode cX6_init 76 = .ok (.bipush 64, 2) := by decide +kernel
theorem dX6_init_78 : decode cX6_init 78 = .ok (.newarray .int, 2) := by decide +kernel
theorem dX6_init_80 : decode cX6_init 80 = .ok (.putfield 37, 3) := by decide +kernel
theorem dX6_init_83 : decode cX6_init 83 = .ok (.aload_n 0, 1) := by decide +kernel
theorem dX6_init_84 : decode cX6_init 84 = .ok (.bipush 9, 2) := by decide +kernel
theorem dX6_init_86 : decode cX6_init 86 = .ok (.newarray .int, 2) := by decide +kernel
theorem dX6_init_88 : decode cX6_init 88 = .ok (.putfield 40, 3) := by decide +kernel
theorem dX6_init_91 : decode cX6_init 91 = .ok (.aload_n 0, 1) := by decide +kernel
theorem dX6_init_92 : decode cX6_init 92 = .ok (.bipush 32, 2) := by decide +kernel
theorem dX6_init_94 : decode cX6_init 94 = .ok (.newarray .long, 2) := by decide +kernel
theorem dX6_init_96 : decode cX6_init 96 = .ok (.putfield 43, 3) := by decide +kernel
theorem dX6_init_99 : decode cX6_init 99 = .ok (.aload_n 0, 1) := by decide +kernel
theorem dX6_init_100 : decode cX6_init 100 = .ok (.bipush 25, 2) := by decide +kernel
theorem dX6_init_102 : decode cX6_init 102 = .ok (.newarray .long, 2) := by decide +kernel
theorem dX6_init_104 : decode cX6_init 104 = .ok (.putfield 47, 3) := by decide +kernel
theorem dX6_init_107 : decode cX6_init 107 = .ok (.aload_n 0, 1) := by decide +kernel
theorem dX6_init_108 : decode cX6_init 108 = .ok (.sipush 544, 3) := by decide +kernel
theorem dX6_init_111 : decode cX6_init 111 = .ok (.newarray .int, 2) := by decide +kernel
theorem dX6_init_113 : decode cX6_init 113 = .ok (.putfield 50, 3) := by decide +kernel
theorem dX6_init_116 : decode cX6_init 116 = .ok (.aload_n 0, 1) := by decide +kernel
theorem dX6_init_117 : decode cX6_init 117 = .ok (.sipush 544, 3) := by decide +kernel
theorem dX6_init_120 : decode cX6_init 120 = .ok (.newarray .long, 2) := by decide +kernel
theorem dX6_init_122 : decode cX6_init 122 = .ok (.putfield 53, 3) := by decide +kernel
theorem dX6_init_125 : decode cX6_init 125 = .ok (.aload_n 0, 1) := by decide +kernel
theorem dX6_init_126 : decode cX6_init 126 = .ok (.bipush 16, 2) := by decide +kernel
theorem dX6_init_128 : decode cX6_init 128 = .ok (.newarray .int, 2) := by decide +kernel
theorem dX6_init_130 : decode cX6_init 130 = .ok (.putfield 56, 3) := by decide +kernel
theorem dX6_init_133 : decode cX6_init 133 = .ok (.aload_n 0, 1) := by decide +kernel
theorem dX6_init_134 : decode cX6_init 134 = .ok (.bipush 16, 2) := by decide +kernel
theorem dX6_init_136 : decode cX6_init 136 = .ok (.newarray .int, 2) := by decide +kernel
theorem dX6_init_138 : decode cX6_init 138 = .ok (.putfield 59, 3) := by decide +kernel
theorem dX6_init_141 : decode cX6_init 141 = .ok (.aload_n 0, 1) := by decide +kernel
theorem dX6_init_142 : decode cX6_init 142 = .ok (.bipush 9, 2) := by decide +kernel
theorem dX6_init_144 : decode cX6_init 144 = .ok (.newarray .long, 2) := by decide +kernel
theorem dX6_init_146 : decode cX6_init 146 = .ok (.putfield 62, 3) := by decide +kernel
theorem dX6_init_149 : decode cX6_init 149 = .ok (.aload_n 0, 1) := by decide +kernel
theorem dX6_init_150 : decode cX6_init 150 = .ok (.bipush 9, 2) := by decide +kernel
theorem dX6_init_152 : decode cX6_init 152 = .ok (.newarray .long, 2) := by decide +kernel
theorem dX6_init_154 : decode cX6_init 154 = .ok (.putfield 65, 3) := by decide +kernel
theorem dX6_init_157 : decode cX6_init 157 = .ok (.aload_n 0, 1) := by decide +kernel
theorem dX6_init_158 : decode cX6_init 158 = .ok (.bipush 12, 2) := by decide +kernel
theorem dX6_init_160 : decode cX6_init 160 = .ok (.newarray .long, 2) := by decide +kernel
theorem dX6_init_162 : decode cX6_init 162 = .ok (.putfield 68, 3) := by decide +kernel
theorem dX6_init_165 : decode cX6_init 165 = .ok (.aload_n 0, 1) := by decide +kernel
theorem dX6_init_166 : decode cX6_init 166 = .ok (.bipush 12, 2) := by decide +kernel
theorem dX6_init_168 : decode cX6_init 168 = .ok (.newarray .long, 2) := by decide +kernel
theorem dX6_init_170 : decode cX6_init 170 = .ok (.putfield 71, 3) := by decide +kernel
theorem dX6_init_173 : decode cX6_init 173 = .ok (.aload_n 0, 1) := by decide +kernel
theorem dX6_init_174 : decode cX6_init 174 = .ok (.bipush 12, 2) := by decide +kernel
theorem dX6_init_176 : decode cX6_init 176 = .ok (.newarray .int, 2) := by decide +kernel
theorem dX6_init_178 : decode cX6_init 178 = .ok (.putfield 74, 3) := by decide +kernel
theorem dX6_init_181 : decode cX6_init 181 = .ok (.aload_n 0, 1) := by decide +kernel
theorem dX6_init_182 : decode cX6_init 182 = .ok (.bipush 12, 2) := by decide +kernel
theorem dX6_init_184 : decode cX6_init 184 = .ok (.newarray .int, 2) := by decide +kernel
theorem dX6_init_186 : decode cX6_init 186 = .ok (.putfield 77, 3) := by decide +kernel
theorem dX6_init_189 : decode cX6_init 189 = .ok (.return_, 1) := by decide +kernel
theorem dX6_isIn_0 : decode cX6_isIn 0 = .ok (.lload_n 0, 1) := by decide +kernel
theorem dX6_isIn_1 : decode cX6_isIn 1 = .ok (.lload_n 2, 1) := by decide +kernel
theorem dX6_isIn_2 : decode cX6_isIn 2 = .ok (.lcmp, 1) := by decide +kernel
theorem dX6_isIn_3 : decode cX6_isIn 3 = .ok (.ifCond .lt 14, 3) := by decide +kernel
theorem dX6_isIn_6 : decode cX6_isIn 6 = .ok (.lload_n 0, 1) := by decide +kernel
theorem dX6_isIn_7 : decode cX6_isIn 7 = .ok (.lload 4, 2) := by decide +kernel
theorem dX6_isIn_9 : decode cX6_isIn 9 = .ok (.lcmp, 1) := by decide +kernel
theorem dX6_isIn_10 : decode cX6_isIn 10 = .ok (.ifCond .gt 7, 3) := by decide +kernel
theorem dX6_isIn_13 : decode cX6_isIn 13 = .ok (.iconst 1, 1) := by decide +kernel
theorem dX6_isIn_14 : decode cX6_isIn 14 = .ok (.goto 4, 3) := by decide +kernel
theorem dX6_isIn_17 : decode cX6_isIn 17 = .ok (.iconst 0, 1) := by decide +kernel
theorem dX6_isIn_18 : decode cX6_isIn 18 = .ok (.ireturn, 1) := by decide +kernel
theorem dX6_no_0 : decode cX6_no 0 = .ok (.aload_n 0, 1) := by decide +kernel
theorem dX6_no_1 : decode cX6_no 1 = .ok (.getfield 40, 3) := by decide +kernel
theorem dX6_no_4 : decode cX6_no 4 = .ok (.iload_n 1, 1) := by decide +kernel
theorem dX6_no_5 : decode cX6_no 5 = .ok (.ineg, 1) := by decide +kernel
theorem dX6_no_6 : decode cX6_no 6 = .ok (.dup2, 1) := by decide +kernel
theorem dX6_no_7 : decode cX6_no 7 = .ok (.iaload, 1) := by decide +kernel
theorem dX6_no_8 : decode cX6_no 8 = .ok (.iconst 1, 1) := by decide +kernel
theorem dX6_no_9 : decode cX6_no 9 = .ok (.iadd, 1) := by decide +kernel
theorem dX6_no_10 : decode cX6_no 10 = .ok (.iastore, 1) := by decide +kernel
theorem dX6_no_11 : decode cX6_no 11 = .ok (.iload_n 1, 1) := by decide +kernel
theorem dX6_no_12 : decode cX6_no 12 = .ok (.ireturn, 1) := by decide +kernel
theorem dX6_none_0 : decode cX6_none 0 = .ok (.aload_n 0, 1) := by decide +kernel
theorem dX6_none_1 : decode cX6_none 1 = .ok (.iload_n 1, 1) := by decide +kernel
theorem dX6_none_2 : decode cX6_none 2 = .ok (.invokevirtual 80, 3) := by decide +kernel
theorem dX6_none_5 : decode cX6_none 5 = .ok (.istore_n 2, 1) := by decide +kernel
theorem dX6_none_6 : decode cX6_none 6 = .ok (.iconst 0, 1) := by decide +kernel
theorem dX6_none_7 : decode cX6_none 7 = .ok (.ireturn, 1) := by decide +kernel
theorem dX6_isTable_0 : decode cX6_isTable 0 = .ok (.iload_n 1, 1) := by decide +kernel
theorem dX6_isTable_1 : decode cX6_isTable 1 = .ok (.ifCond .lt 15, 3) := by decide +kernel
theorem dX6_isTable_4 : decode cX6_isTable 4 = .ok (.iload_n 1, 1) := by decide +kernel
theorem dX6_isTable_5 : decode cX6_isTable 5 = .ok (.aload_n 0, 1) := by decide +kernel
theorem dX6_isTable_6 : decode cX6_isTable 6 = .ok (.getfield 84, 3) := by decide +kernel
theorem dX6_isTable_9 : decode cX6_isTable 9 = .ok (.if_icmp .ge 7, 3) := by decide +kernel
theorem dX6_isTable_12 : decode cX6_isTable 12 = .ok (.iconst 1, 1) := by decide +kernel
theorem dX6_isTable_13 : decode cX6_isTable 13 = .ok (.goto 4, 3) := by decide +kernel
theorem dX6_isTable_16 : decode cX6_isTable 16 = .ok (.iconst 0, 1) := by decide +kernel
theorem dX6_isTable_17 : decode cX6_isTable 17 = .ok (.ireturn, 1) := by decide +kernel
theorem dX6_bits_0 : decode cX6_bits 0 = .ok (.iconst 0, 1) := by decide +kernel
theorem dX6_bits_1 : decode cX6_bits 1 = .ok (.istore_n 1, 1) := by decide +kernel
theorem dX6_bits_2 : decode cX6_bits 2 = .ok (.iconst 0, 1) := by decide +kernel
theorem dX6_bits_3 : decode cX6_bits 3 = .ok (.istore_n 2, 1) := by decide +kernel
theorem dX6_bits_4 : decode cX6_bits 4 = .ok (.iload_n 2, 1) := by decide +kernel
theorem dX6_bits_5 : decode cX6_bits 5 = .ok (.iconst 5, 1) := by decide +kernel
theorem dX6_bits_6 : decode cX6_bits 6 = .ok (.if_icmp .ge 17, 3) := by decide +kernel
theorem dX6_bits_9 : decode cX6_bits 9 = .ok (.iload_n 1, 1) := by decide +kernel
theorem dX6_bits_10 : decode cX6_bits 10 = .ok (.iload_n 0, 1) := by decide +kernel
theorem dX6_bits_11 : decode cX6_bits 11 = .ok (.iload_n 2, 1) := by decide +kernel
theorem dX6_bits_12 : decode cX6_bits 12 = .ok (.ishr, 1) := by decide +kernel
theorem dX6_bits_13 : decode cX6_bits 13 = .ok (.iconst 1, 1) := by decide +kernel
theorem dX6_bits_14 : decode cX6_bits 14 = .ok (.iand, 1) := by decide +kernel
theorem dX6_bits_15 : decode cX6_bits 15 = .ok (.iadd, 1) := by decide +kernel
theorem dX6_bits_16 : decode cX6_bits 16 = .ok (.istore_n 1, 1) := by decide +kernel
theorem dX6_bits_17 : decode cX6_bits 17 = .ok (.iinc 2 1, 3) := by decide +kernel
theorem dX6_bits_20 : decode cX6_bits 20 = .ok (.goto (-16), 3) := by decide +kernel
theorem dX6_bits_23 : decode cX6_bits 23 = .ok (.iload_n 1, 1) := by decide +kernel
theorem dX6_bits_24 : decode cX6_bits 24 = .ok (.ireturn, 1) := by decide +kernel
theorem dX6_place_0 : decode cX6_place 0 = .ok (.bipush 25, 2) := by decide +kernel
theorem dX6_place_2 : decode cX6_place 2 = .ok (.iload_n 0, 1) := by decide +kernel
theorem dX6_place_3 : decode cX6_place 3 = .ok (.imul, 1) := by decide +kernel
theorem dX6_place_4 : decode cX6_place 4 = .ok (.iconst 5, 1) := by decide +kernel
theorem dX6_place_5 : decode cX6_place 5 = .ok (.iload_n 1, 1) := by decide +kernel
theorem dX6_place_6 : decode cX6_place 6 = .ok (.imul, 1) := by decide +kernel
theorem dX6_place_7 : decode cX6_place 7 = .ok (.iadd, 1) := by decide +kernel
theorem dX6_place_8 : decode cX6_place 8 = .ok (.iload_n 2, 1) := by decide +kernel
theorem dX6_place_9 : decode cX6_place 9 = .ok (.iadd, 1) := by decide +kernel
theorem dX6_place_10 : decode cX6_place 10 = .ok (.ireturn, 1) := by decide +kernel
theorem dX6_begins_0 : decode cX6_begins 0 = .ok (.aload_n 0, 1) := by decide +kernel
theorem dX6_begins_1 : decode cX6_begins 1 = .ok (.getfield 84, 3) := by decide +kernel
theorem dX6_begins_4 : decode cX6_begins 4 = .ok (.bipush 12, 2) := by decide +kernel
theorem dX6_begins_6 : decode cX6_begins 6 = .ok (.if_icmp .ne 10, 3) := by decide +kernel
theorem dX6_begins_9 : decode cX6_begins 9 = .ok (.aload_n 0, 1) := by decide +kernel
theorem dX6_begins_10 : decode cX6_begins 10 = .ok (.bipush (-8), 2) := by decide +kernel
theorem dX6_begins_12 : decode cX6_begins 12 = .ok (.invokevirtual 80, 3) := by decide +kernel
theorem dX6_begins_15 : decode cX6_begins 15 = .ok (.ireturn, 1) := by decide +kernel
theorem dX6_begins_16 : decode cX6_begins 16 = .ok (.aload_n 0, 1) := by decide +kernel
theorem dX6_begins_17 : decode cX6_begins 17 = .ok (.getfield 13, 3) := by decide +kernel
theorem dX6_begins_20 : decode cX6_begins 20 = .ok (.aload_n 0, 1) := by decide +kernel
theorem dX6_begins_21 : decode cX6_begins 21 = .ok (.getfield 84, 3) := by decide +kernel
theorem dX6_begins_24 : decode cX6_begins 24 = .ok (.iload_n 1, 1) := by decide +kernel
theorem dX6_begins_25 : decode cX6_begins 25 = .ok (.iastore, 1) := by decide +kernel
theorem dX6_begins_26 : decode cX6_begins 26 = .ok (.aload_n 0, 1) := by decide +kernel
theorem dX6_begins_27 : decode cX6_begins 27 = .ok (.getfield 16, 3) := by decide +kernel
theorem dX6_begins_30 : decode cX6_begins 30 = .ok (.aload_n 0, 1) := by decide +kernel
theorem dX6_begins_31 : decode cX6_begins 31 = .ok (.getfield 84, 3) := by decide +kernel
theorem dX6_begins_34 : decode cX6_begins 34 = .ok (.iload_n 2, 1) := by decide +kernel
theorem dX6_begins_35 : decode cX6_begins 35 = .ok (.iastore, 1) := by decide +kernel
theorem dX6_begins_36 : decode cX6_begins 36 = .ok (.aload_n 0, 1) := by decide +kernel
theorem dX6_begins_37 : decode cX6_begins 37 = .ok (.getfield 19, 3) := by decide +kernel
theorem dX6_begins_40 : decode cX6_begins 40 = .ok (.aload_n 0, 1) := by decide +kernel
theorem dX6_begins_41 : decode cX6_begins 41 = .ok (.getfield 84, 3) := by decide +kernel
theorem dX6_begins_44 : decode cX6_begins 44 = .ok (.iload_n 3, 1) := by decide +kernel
theorem dX6_begins_45 : decode cX6_begins 45 = .ok (.iastore, 1) := by decide +kernel
theorem dX6_begins_46 : decode cX6_begins 46 = .ok (.iconst 0, 1) := by decide +kernel
theorem dX6_begins_47 : decode cX6_begins 47 = .ok (.istore 4, 2) := by decide +kernel
theorem dX6_begins_49 : decode cX6_begins 49 = .ok (.iload 4, 2) := by decide +kernel
theorem dX6_begins_51 : decode cX6_begins 51 = .ok (.bipush 25, 2) := by decide +kernel
theorem dX6_begins_53 : decode cX6_begins 53 = .ok (.if_icmp .ge 25, 3) := by decide +kernel
theorem dX6_begins_56 : decode cX6_begins 56 = .ok (.aload_n 0, 1) := by decide +kernel
theorem dX6_begins_57 : decode cX6_begins 57 = .ok (.getfield 7, 3) := by decide +kernel
theorem dX6_begins_60 : decode cX6_begins 60 = .ok (.bipush 25, 2) := by decide +kernel
theorem dX6_begins_62 : decode cX6_begins 62 = .ok (.aload_n 0, 1) := by decide +kernel
theorem dX6_begins_63 : decode cX6_begins 63 = .ok (.getfield 84, 3) := by decide +kernel
theorem dX6_begins_66 : decode cX6_begins 66 = .ok (.imul, 1) := by decide +kernel
theorem dX6_begins_67 : decode cX6_begins 67 = .ok (.iload 4, 2) := by decide +kernel
theorem dX6_begins_69 : decode cX6_begins 69 = .ok (.iadd, 1) := by decide +kernel
theorem dX6_begins_70 : decode cX6_begins 70 = .ok (.iconst 0, 1) := by decide +kernel
theorem dX6_begins_71 : decode cX6_begins 71 = .ok (.iastore, 1) := by decide +kernel
theorem dX6_begins_72 : decode cX6_begins 72 = .ok (.iinc 4 1, 3) := by decide +kernel
theorem dX6_begins_75 : decode cX6_begins 75 = .ok (.goto (-26), 3) := by decide +kernel
theorem dX6_begins_78 : decode cX6_begins 78 = .ok (.aload_n 0, 1) := by decide +kernel
theorem dX6_begins_79 : decode cX6_begins 79 = .ok (.dup, 1) := by decide +kernel
theorem dX6_begins_80 : decode cX6_begins 80 = .ok (.getfield 84, 3) := by decide +kernel
theorem dX6_begins_83 : decode cX6_begins 83 = .ok (.iconst 1, 1) := by decide +kernel
theorem dX6_begins_84 : decode cX6_begins 84 = .ok (.iadd, 1) := by decide +kernel
theorem dX6_begins_85 : decode cX6_begins 85 = .ok (.putfield 84, 3) := by decide +kernel
theorem dX6_begins_88 : decode cX6_begins 88 = .ok (.aload_n 0, 1) := by decide +kernel
theorem dX6_begins_89 : decode cX6_begins 89 = .ok (.getfield 84, 3) := by decide +kernel
theorem dX6_begins_92 : decode cX6_begins 92 = .ok (.iconst 1, 1) := by decide +kernel
theorem dX6_begins_93 : decode cX6_begins 93 = .ok (.isub, 1) := by decide +kernel
theorem dX6_begins_94 : decode cX6_begins 94 = .ok (.ireturn, 1) := by decide +kernel
theorem dX6_table_0 : decode cX6_table 0 = .ok (.iload_n 1, 1) := by decide +kernel
theorem dX6_table_1 : decode cX6_table 1 = .ok (.i2l, 1) := by decide +kernel
theorem dX6_table_2 : decode cX6_table 2 = .ok (.lconst 1, 1) := by decide +kernel
theorem dX6_table_3 : decode cX6_table 3 = .ok (.ldc2_w 88, 3) := by decide +kernel
theorem dX6_table_6 : decode cX6_table 6 = .ok (.invokestatic 90, 3) := by decide +kernel
theorem dX6_table_9 : decode cX6_table 9 = .ok (.ifCond .eq 25, 3) := by decide +kernel
theorem dX6_table_12 : decode cX6_table 12 = .ok (.iload_n 2, 1) := by decide +kernel
theorem dX6_table_13 : decode cX6_table 13 = .ok (.i2l, 1) := by decide +kernel
theorem dX6_table_14 : decode cX6_table 14 = .ok (.lconst 1, 1) := by decide +kernel
theorem dX6_table_15 : decode cX6_table 15 = .ok (.ldc2_w 88, 3) := by decide +kernel
theorem dX6_table_18 : decode cX6_table 18 = .ok (.invokestatic 90, 3) := by decide +kernel
theorem dX6_table_21 : decode cX6_table 21 = .ok (.ifCond .eq 13, 3) := by decide +kernel
theorem dX6_table_24 : decode cX6_table 24 = .ok (.aload_n 0, 1) := by decide +kernel
theorem dX6_table_25 : decode cX6_table 25 = .ok (.iload_n 1, 1) := by decide +kernel
theorem dX6_table_26 : decode cX6_table 26 = .ok (.iload_n 2, 1) := by decide +kernel
theorem dX6_table_27 : decode cX6_table 27 = .ok (.iconst 0, 1) := by decide +kernel
theorem dX6_table_28 : decode cX6_table 28 = .ok (.invokevirtual 94, 3) := by decide +kernel
theorem dX6_table_31 : decode cX6_table 31 = .ok (.goto 9, 3) := by decide +kernel
theorem dX6_table_34 : decode cX6_table 34 = .ok (.aload_n 0, 1) := by decide +kernel
theorem dX6_table_35 : decode cX6_table 35 = .ok (.bipush (-7), 2) := by decide +kernel
theorem dX6_table_37 : decode cX6_table 37 = .ok (.invokevirtual 80, 3) := by decide +kernel
theorem dX6_table_40 : decode cX6_table 40 = .ok (.ireturn, 1) := by decide +kernel
theorem dX6_isPlace_0 : decode cX6_isPlace 0 = .ok (.aload_n 0, 1) := by decide +kernel
theorem dX6_isPlace_1 : decode cX6_isPlace 1 = .ok (.iload_n 1, 1) := by decide +kernel
theorem dX6_isPlace_2 : decode cX6_isPlace 2 = .ok (.invokevirtual 98, 3) := by decide +kernel
theorem dX6_isPlace_5 : decode cX6_isPlace 5 = .ok (.ifCond .eq 43, 3) := by decide +kernel
theorem dX6_isPlace_8 : decode cX6_isPlace 8 = .ok (.iload_n 2, 1) := by decide +kernel
theorem dX6_isPlace_9 : decode cX6_isPlace 9 = .ok (.i2l, 1) := by decide +kernel
theorem dX6_isPlace_10 : decode cX6_isPlace 10 = .ok (.lconst 0, 1) := by decide +kernel
theorem dX6_isPlace_11 : decode cX6_isPlace 11 = .ok (.aload_n 0, 1) := by decide +kernel
theorem dX6_isPlace_12 : decode cX6_isPlace 12 = .ok (.getfield 13, 3) := by decide +kernel
theorem dX6_isPlace_15 : decode cX6_isPlace 15 = .ok (.iload_n 1, 1) := by decide +kernel
theorem dX6_isPlace_16 : decode cX6_isPlace 16 = .ok (.iaload, 1) := by decide +kernel
theorem dX6_isPlace_17 : decode cX6_isPlace 17 = .ok (.iconst 1, 1) := by decide +kernel
theorem dX6_isPlace_18 : decode cX6_isPlace 18 = .ok (.isub, 1) := by decide +kernel
theorem dX6_isPlace_19 : decode cX6_isPlace 19 = .ok (.i2l, 1) := by decide +kernel
theorem dX6_isPlace_20 : decode cX6_isPlace 20 = .ok (.invokestatic 90, 3) := by decide +kernel
theorem dX6_isPlace_23 : decode cX6_isPlace 23 = .ok (.ifCond .eq 25, 3) := by decide +kernel
theorem dX6_isPlace_26 : decode cX6_isPlace 26 = .ok (.iload_n 3, 1) := by decide +kernel
theorem dX6_isPlace_27 : decode cX6_isPlace 27 = .ok (.i2l, 1) := by decide +kernel
theorem dX6_isPlace_28 : decode cX6_isPlace 28 = .ok (.lconst 0, 1) := by decide +kernel
theorem dX6_isPlace_29 : decode cX6_isPlace 29 = .ok (.aload_n 0, 1) := by decide +kernel
theorem dX6_isPlace_30 : decode cX6_isPlace 30 = .ok (.getfield 16, 3) := by decide +kernel
theorem dX6_isPlace_33 : decode cX6_isPlace 33 = .ok (.iload_n 1, 1) := by decide +kernel
theorem dX6_isPlace_34 : decode cX6_isPlace 34 = .ok (.iaload, 1) := by decide +kernel
theorem dX6_isPlace_35 : decode cX6_isPlace 35 = .ok (.iconst 1, 1) := by decide +kernel
theorem dX6_isPlace_36 : decode cX6_isPlace 36 = .ok (.isub, 1) := by decide +kernel
theorem dX6_isPlace_37 : decode cX6_isPlace 37 = .ok (.i2l, 1) := by decide +kernel
theorem dX6_isPlace_38 : decode cX6_isPlace 38 = .ok (.invokestatic 90, 3) := by decide +kernel
theorem dX6_isPlace_41 : decode cX6_isPlace 41 = .ok (.ifCond .eq 7, 3) := by decide +kernel
theorem dX6_isPlace_44 : decode cX6_isPlace 44 = .ok (.iconst 1, 1) := by decide +kernel
theorem dX6_isPlace_45 : decode cX6_isPlace 45 = .ok (.goto 4, 3) := by decide +kernel
theorem dX6_isPlace_48 : decode cX6_isPlace 48 = .ok (.iconst 0, 1) := by decide +kernel
theorem dX6_isPlace_49 : decode cX6_isPlace 49 = .ok (.ireturn, 1) := by decide +kernel
theorem dX6_set_0 : decode cX6_set 0 = .ok (.aload_n 0, 1) := by decide +kernel
theorem dX6_set_1 : decode cX6_set 1 = .ok (.iload_n 1, 1) := by decide +kernel
theorem dX6_set_2 : decode cX6_set 2 = .ok (.iload_n 2, 1) := by decide +kernel
theorem dX6_set_3 : decode cX6_set 3 = .ok (.iload_n 3, 1) := by decide +kernel
theorem dX6_set_4 : decode cX6_set 4 = .ok (.invokevirtual 102, 3) := by decide +kernel
theorem dX6_set_7 : decode cX6_set 7 = .ok (.ifCond .ne 10, 3) := by decide +kernel
theorem dX6_set_10 : decode cX6_set 10 = .ok (.aload_n 0, 1) := by decide +kernel
theorem dX6_set_11 : decode cX6_set 11 = .ok (.bipush (-3), 2) := by decide +kernel
theorem dX6_set_13 : decode cX6_set 13 = .ok (.invokevirtual 106, 3) := by decide +kernel
theorem dX6_set_16 : decode cX6_set 16 = .ok (.ireturn, 1) := by decide +kernel
theorem dX6_set_17 : decode cX6_set 17 = .ok (.aload_n 0, 1) := by decide +kernel
theorem dX6_set_18 : decode cX6_set 18 = .ok (.getfield 19, 3) := by decide +kernel
theorem dX6_set_21 : decode cX6_set 21 = .ok (.iload_n 1, 1) := by decide +kernel
theorem dX6_set_22 : decode cX6_set 22 = .ok (.iaload, 1) := by decide +kernel
theorem dX6_set_23 : decode cX6_set 23 = .ok (.ifCond .eq 10, 3) := by decide +kernel
theorem dX6_set_26 : decode cX6_set 26 = .ok (.aload_n 0, 1) := by decide +kernel
theorem dX6_set_27 : decode cX6_set 27 = .ok (.bipush (-5), 2) := by decide +kernel
theorem dX6_set_29 : decode cX6_set 29 = .ok (.invokevirtual 106, 3) := by decide +kernel
theorem dX6_set_32 : decode cX6_set 32 = .ok (.ireturn, 1) := by decide +kernel
theorem dX6_set_33 : decode cX6_set 33 = .ok (.iload 4, 2) := by decide +kernel
theorem dX6_set_35 : decode cX6_set 35 = .ok (.i2l, 1) := by decide +kernel
theorem dX6_set_36 : decode cX6_set 36 = .ok (.ldc2_w 109, 3) := by decide +kernel
theorem dX6_set_39 : decode cX6_set 39 = .ok (.ldc2_w 111, 3) := by decide +kernel
theorem dX6_set_42 : decode cX6_set 42 = .ok (.invokestatic 90, 3) := by decide +kernel
theorem dX6_set_45 : decode cX6_set 45 = .ok (.ifCond .ne 10, 3) := by decide +kernel
theorem dX6_set_48 : decode cX6_set 48 = .ok (.aload_n 0, 1) := by decide +kernel
theorem dX6_set_49 : decode cX6_set 49 = .ok (.bipush (-7), 2) := by decide +kernel
theorem dX6_set_51 : decode cX6_set 51 = .ok (.invokevirtual 106, 3) := by decide +kernel
theorem dX6_set_54 : decode cX6_set 54 = .ok (.ireturn, 1) := by decide +kernel
theorem dX6_set_55 : decode cX6_set 55 = .ok (.aload_n 0, 1) := by decide +kernel
theorem dX6_set_56 : decode cX6_set 56 = .ok (.getfield 7, 3) := by decide +kernel
theorem dX6_set_59 : decode cX6_set 59 = .ok (.iload_n 1, 1) := by decide +kernel
theorem dX6_set_60 : decode cX6_set 60 = .ok (.iload_n 2, 1) := by decide +kernel
theorem dX6_set_61 : decode cX6_set 61 = .ok (.iload_n 3, 1) := by decide +kernel
theorem dX6_set_62 : decode cX6_set 62 = .ok (.invokestatic 113, 3) := by decide +kernel
theorem dX6_set_65 : decode cX6_set 65 = .ok (.iaload, 1) := by decide +kernel
theorem dX6_set_66 : decode cX6_set 66 = .ok (.istore 5, 2) := by decide +kernel
theorem dX6_set_68 : decode cX6_set 68 = .ok (.aload_n 0, 1) := by decide +kernel
theorem dX6_set_69 : decode cX6_set 69 = .ok (.getfield 7, 3) := by decide +kernel
theorem dX6_set_72 : decode cX6_set 72 = .ok (.iload_n 1, 1) := by decide +kernel
theorem dX6_set_73 : decode cX6_set 73 = .ok (.iload_n 2, 1) := by decide +kernel
theorem dX6_set_74 : decode cX6_set 74 = .ok (.iload_n 3, 1) := by decide +kernel
theorem dX6_set_75 : decode cX6_set 75 = .ok (.invokestatic 113, 3) := by decide +kernel
theorem dX6_set_78 : decode cX6_set 78 = .ok (.iload 4, 2) := by decide +kernel
theorem dX6_set_80 : decode cX6_set 80 = .ok (.iastore, 1) := by decide +kernel
theorem dX6_set_81 : decode cX6_set 81 = .ok (.iload 5, 2) := by decide +kernel
theorem dX6_set_83 : decode cX6_set 83 = .ok (.ireturn, 1) := by decide +kernel
theorem dX6_at_0 : decode cX6_at 0 = .ok (.aload_n 0, 1) := by decide +kernel
theorem dX6_at_1 : decode cX6_at 1 = .ok (.iload_n 1, 1) := by decide +kernel
theorem dX6_at_2 : decode cX6_at 2 = .ok (.iload_n 2, 1) := by decide +kernel
theorem dX6_at_3 : decode cX6_at 3 = .ok (.iload_n 3, 1) := by decide +kernel
theorem dX6_at_4 : decode cX6_at 4 = .ok (.invokevirtual 102, 3) := by decide +kernel
theorem dX6_at_7 : decode cX6_at 7 = .ok (.ifCond .eq 17, 3) := by decide +kernel
theorem dX6_at_10 : decode cX6_at 10 = .ok (.aload_n 0, 1) := by decide +kernel
theorem dX6_at_11 : decode cX6_at 11 = .ok (.getfield 7, 3) := by decide +kernel
theorem dX6_at_14 : decode cX6_at 14 = .ok (.iload_n 1, 1) := by decide +kernel
theorem dX6_at_15 : decode cX6_at 15 = .ok (.iload_n 2, 1) := by decide +kernel
theorem dX6_at_16 : decode cX6_at 16 = .ok (.iload_n 3, 1) := by decide +kernel
theorem dX6_at_17 : decode cX6_at 17 = .ok (.invokestatic 113, 3) := by decide +kernel
theorem dX6_at_20 : decode cX6_at 20 = .ok (.iaload, 1) := by decide +kernel
theorem dX6_at_21 : decode cX6_at 21 = .ok (.goto 9, 3) := by decide +kernel
theorem dX6_at_24 : decode cX6_at 24 = .ok (.aload_n 0, 1) := by decide +kernel
theorem dX6_at_25 : decode cX6_at 25 = .ok (.bipush (-3), 2) := by decide +kernel
theorem dX6_at_27 : decode cX6_at 27 = .ok (.invokevirtual 106, 3) := by decide +kernel
theorem dX6_at_30 : decode cX6_at 30 = .ok (.ireturn, 1) := by decide +kernel
theorem dX6_worthOf_0 : decode cX6_worthOf 0 = .ok (.iconst 0, 1) := by decide +kernel
theorem dX6_worthOf_1 : decode cX6_worthOf 1 = .ok (.istore 4, 2) := by decide +kernel
theorem dX6_worthOf_3 : decode cX6_worthOf 3 = .ok (.iload 4, 2) := by decide +kernel
theorem dX6_worthOf_5 : decode cX6_worthOf 5 = .ok (.bipush 32, 2) := by decide +kernel
theorem dX6_worthOf_7 : decode cX6_worthOf 7 = .ok (.if_icmp .ge 26, 3) := by decide +kernel
theorem dX6_worthOf_10 : decode cX6_worthOf 10 = .ok (.aload_n 0, 1) := by decide +kernel
theorem dX6_worthOf_11 : decode cX6_worthOf 11 = .ok (.getfield 43, 3) := by decide +kernel
theorem dX6_worthOf_14 : decode cX6_worthOf 14 = .ok (.iload 4, 2) := by decide +kernel
theorem dX6_worthOf_16 : decode cX6_worthOf 16 = .ok (.iload 4, 2) := by decide +kernel
theorem dX6_worthOf_18 : decode cX6_worthOf 18 = .ok (.ifCond .ne 7, 3) := by decide +kernel
theorem dX6_worthOf_21 : decode cX6_worthOf 21 = .ok (.lconst 1, 1) := by decide +kernel
theorem dX6_worthOf_22 : decode cX6_worthOf 22 = .ok (.goto 4, 3) := by decide +kernel
theorem dX6_worthOf_25 : decode cX6_worthOf 25 = .ok (.lconst 0, 1) := by decide +kernel
theorem dX6_worthOf_26 : decode cX6_worthOf 26 = .ok (.lastore, 1) := by decide +kernel
theorem dX6_worthOf_27 : decode cX6_worthOf 27 = .ok (.iinc 4 1, 3) := by decide +kernel
theorem dX6_worthOf_30 : decode cX6_worthOf 30 = .ok (.goto (-27), 3) := by decide +kernel
theorem dX6_worthOf_33 : decode cX6_worthOf 33 = .ok (.iconst 0, 1) := by decide +kernel
theorem dX6_worthOf_34 : decode cX6_worthOf 34 = .ok (.istore 4, 2) := by decide +kernel
theorem dX6_worthOf_36 : decode cX6_worthOf 36 = .ok (.iconst 0, 1) := by decide +kernel
theorem dX6_worthOf_37 : decode cX6_worthOf 37 = .ok (.istore 5, 2) := by decide +kernel
theorem dX6_worthOf_39 : decode cX6_worthOf 39 = .ok (.iload 5, 2) := by decide +kernel
theorem dX6_worthOf_41 : decode cX6_worthOf 41 = .ok (.iconst 5, 1) := by decide +kernel
theorem dX6_worthOf_42 : decode cX6_worthOf 42 = .ok (.if_icmp .ge 186, 3) := by decide +kernel
theorem dX6_worthOf_45 : decode cX6_worthOf 45 = .ok (.iload_n 2, 1) := by decide +kernel
theorem dX6_worthOf_46 : decode cX6_worthOf 46 = .ok (.iload 5, 2) := by decide +kernel
theorem dX6_worthOf_48 : decode cX6_worthOf 48 = .ok (.ishr, 1) := by decide +kernel
theorem dX6_worthOf_49 : decode cX6_worthOf 49 = .ok (.iconst 1, 1) := by decide +kernel
theorem dX6_worthOf_50 : decode cX6_worthOf 50 = .ok (.iand, 1) := by decide +kernel
theorem dX6_worthOf_51 : decode cX6_worthOf 51 = .ok (.ifCond .ne 6, 3) := by decide +kernel
theorem dX6_worthOf_54 : decode cX6_worthOf 54 = .ok (.goto 168, 3) := by decide +kernel
theorem dX6_worthOf_57 : decode cX6_worthOf 57 = .ok (.bipush 31, 2) := by decide +kernel
theorem dX6_worthOf_59 : decode cX6_worthOf 59 = .ok (.istore 6, 2) := by decide +kernel
theorem dX6_worthOf_61 : decode cX6_worthOf 61 = .ok (.iload 6, 2) := by decide +kernel
theorem dX6_worthOf_63 : decode cX6_worthOf 63 = .ok (.ifCond .lt 156, 3) := by decide +kernel
theorem dX6_worthOf_66 : decode cX6_worthOf 66 = .ok (.iload 6, 2) := by decide +kernel
theorem dX6_worthOf_68 : decode cX6_worthOf 68 = .ok (.invokestatic 116, 3) := by decide +kernel
theorem dX6_worthOf_71 : decode cX6_worthOf 71 = .ok (.iload 4, 2) := by decide +kernel
theorem dX6_worthOf_73 : decode cX6_worthOf 73 = .ok (.if_icmp .ne 140, 3) := by decide +kernel
theorem dX6_worthOf_76 : decode cX6_worthOf 76 = .ok (.aload_n 0, 1) := by decide +kernel
theorem dX6_worthOf_77 : decode cX6_worthOf 77 = .ok (.getfield 43, 3) := by decide +kernel
theorem dX6_worthOf_80 : decode cX6_worthOf 80 = .ok (.iload 6, 2) := by decide +kernel
theorem dX6_worthOf_82 : decode cX6_worthOf 82 = .ok (.laload, 1) := by decide +kernel
theorem dX6_worthOf_83 : decode cX6_worthOf 83 = .ok (.lconst 0, 1) := by decide +kernel
theorem dX6_worthOf_84 : decode cX6_worthOf 84 = .ok (.lcmp, 1) := by decide +kernel
theorem dX6_worthOf_85 : decode cX6_worthOf 85 = .ok (.ifCond .eq 128, 3) := by decide +kernel
theorem dX6_worthOf_88 : decode cX6_worthOf 88 = .ok (.iload 6, 2) := by decide +kernel
theorem dX6_worthOf_90 : decode cX6_worthOf 90 = .ok (.iload_n 3, 1) := by decide +kernel
theorem dX6_worthOf_91 : decode cX6_worthOf 91 = .ok (.iconst (-1), 1) := by decide +kernel
theorem dX6_worthOf_92 : decode cX6_worthOf 92 = .ok (.ixor, 1) := by decide +kernel
theorem dX6_worthOf_93 : decode cX6_worthOf 93 = .ok (.iand, 1) := by decide +kernel
theorem dX6_worthOf_94 : decode cX6_worthOf 94 = .ok (.ifCond .eq 6, 3) := by decide +kernel
theorem dX6_worthOf_97 : decode cX6_worthOf 97 = .ok (.goto 116, 3) := by decide +kernel
theorem dX6_worthOf_100 : decode cX6_worthOf 100 = .ok (.iconst 0, 1) := by decide +kernel
theorem dX6_worthOf_101 : decode cX6_worthOf 101 = .ok (.istore 7, 2) := by decide +kernel
theorem dX6_worthOf_103 : decode cX6_worthOf 103 = .ok (.iload 7, 2) := by decide +kernel
theorem dX6_worthOf_105 : decode cX6_worthOf 105 = .ok (.iconst 5, 1) := by decide +kernel
theorem dX6_worthOf_106 : decode cX6_worthOf 106 = .ok (.if_icmp .ge 107, 3) := by decide +kernel
theorem dX6_worthOf_109 : decode cX6_worthOf 109 = .ok (.iload_n 3, 1) := by decide +kernel
theorem dX6_worthOf_110 : decode cX6_worthOf 110 = .ok (.iload 7, 2) := by decide +kernel
theorem dX6_worthOf_112 : decode cX6_worthOf 112 = .ok (.ishr, 1) := by decide +kernel
theorem dX6_worthOf_113 : decode cX6_worthOf 113 = .ok (.iconst 1, 1) := by decide +kernel
theorem dX6_worthOf_114 : decode cX6_worthOf 114 = .ok (.iand, 1) := by decide +kernel
theorem dX6_worthOf_115 : decode cX6_worthOf 115 = .ok (.ifCond .eq 92, 3) := by decide +kernel
theorem dX6_worthOf_118 : decode cX6_worthOf 118 = .ok (.iload 6, 2) := by decide +kernel
theorem dX6_worthOf_120 : decode cX6_worthOf 120 = .ok (.iload 7, 2) := by decide +kernel
theorem dX6_worthOf_122 : decode cX6_worthOf 122 = .ok (.ishr, 1) := by decide +kernel
theorem dX6_worthOf_123 : decode cX6_worthOf 123 = .ok (.iconst 1, 1) := by decide +kernel
theorem dX6_worthOf_124 : decode cX6_worthOf 124 = .ok (.iand, 1) := by decide +kernel
theorem dX6_worthOf_125 : decode cX6_worthOf 125 = .ok (.iconst 1, 1) := by decide +kernel
theorem dX6_worthOf_126 : decode cX6_worthOf 126 = .ok (.if_icmp .ne 6, 3) := by decide +kernel
theorem dX6_worthOf_129 : decode cX6_worthOf 129 = .ok (.goto 78, 3) := by decide +kernel
theorem dX6_worthOf_132 : decode cX6_worthOf 132 = .ok (.iload 6, 2) := by decide +kernel
theorem dX6_worthOf_134 : decode cX6_worthOf 134 = .ok (.iload 7, 2) := by decide +kernel
theorem dX6_worthOf_136 : decode cX6_worthOf 136 = .ok (.iconst 1, 1) := by decide +kernel
theorem dX6_worthOf_137 : decode cX6_worthOf 137 = .ok (.iadd, 1) := by decide +kernel
theorem dX6_worthOf_138 : decode cX6_worthOf 138 = .ok (.ishr, 1) := by decide +kernel
theorem dX6_worthOf_139 : decode cX6_worthOf 139 = .ok (.invokestatic 116, 3) := by decide +kernel
theorem dX6_worthOf_142 : decode cX6_worthOf 142 = .ok (.iconst 2, 1) := by decide +kernel
theorem dX6_worthOf_143 : decode cX6_worthOf 143 = .ok (.irem, 1) := by decide +kernel
theorem dX6_worthOf_144 : decode cX6_worthOf 144 = .ok (.iconst 1, 1) := by decide +kernel
theorem dX6_worthOf_145 : decode cX6_worthOf 145 = .ok (.if_icmp .ne 7, 3) := by decide +kernel
theorem dX6_worthOf_148 : decode cX6_worthOf 148 = .ok (.iconst 1, 1) := by decide +kernel
theorem dX6_worthOf_149 : decode cX6_worthOf 149 = .ok (.goto 4, 3) := by decide +kernel
theorem dX6_worthOf_152 : decode cX6_worthOf 152 = .ok (.iconst 0, 1) := by decide +kernel
theorem dX6_worthOf_153 : decode cX6_worthOf 153 = .ok (.istore 8, 2) := by decide +kernel
theorem dX6_worthOf_155 : decode cX6_worthOf 155 = .ok (.aload_n 0, 1) := by decide +kernel
theorem dX6_worthOf_156 : decode cX6_worthOf 156 = .ok (.getfield 43, 3) := by decide +kernel
theorem dX6_worthOf_159 : decode cX6_worthOf 159 = .ok (.iload 6, 2) := by decide +kernel
theorem dX6_worthOf_161 : decode cX6_worthOf 161 = .ok (.laload, 1) := by decide +kernel
theorem dX6_worthOf_162 : decode cX6_worthOf 162 = .ok (.aload_n 0, 1) := by decide +kernel
theorem dX6_worthOf_163 : decode cX6_worthOf 163 = .ok (.getfield 7, 3) := by decide +kernel
theorem dX6_worthOf_166 : decode cX6_worthOf 166 = .ok (.iload_n 1, 1) := by decide +kernel
theorem dX6_worthOf_167 : decode cX6_worthOf 167 = .ok (.iload 5, 2) := by decide +kernel
theorem dX6_worthOf_169 : decode cX6_worthOf 169 = .ok (.iload 7, 2) := by decide +kernel
theorem dX6_worthOf_171 : decode cX6_worthOf 171 = .ok (.invokestatic 113, 3) := by decide +kernel
theorem dX6_worthOf_174 : decode cX6_worthOf 174 = .ok (.iaload, 1) := by decide +kernel
theorem dX6_worthOf_175 : decode cX6_worthOf 175 = .ok (.i2l, 1) := by decide +kernel
theorem dX6_worthOf_176 : decode cX6_worthOf 176 = .ok (.lmul, 1) := by decide +kernel
theorem dX6_worthOf_177 : decode cX6_worthOf 177 = .ok (.lstore 9, 2) := by decide +kernel
theorem dX6_worthOf_179 : decode cX6_worthOf 179 = .ok (.aload_n 0, 1) := by decide +kernel
theorem dX6_worthOf_180 : decode cX6_worthOf 180 = .ok (.getfield 43, 3) := by decide +kernel
theorem dX6_worthOf_183 : decode cX6_worthOf 183 = .ok (.iload 6, 2) := by decide +kernel
theorem dX6_worthOf_185 : decode cX6_worthOf 185 = .ok (.iconst 1, 1) := by decide +kernel
theorem dX6_worthOf_186 : decode cX6_worthOf 186 = .ok (.iload 7, 2) := by decide +kernel
theorem dX6_worthOf_188 : decode cX6_worthOf 188 = .ok (.ishl, 1) := by decide +kernel
theorem dX6_worthOf_189 : decode cX6_worthOf 189 = .ok (.ior, 1) := by decide +kernel
theorem dX6_worthOf_190 : decode cX6_worthOf 190 = .ok (.dup2, 1) := by decide +kernel
theorem dX6_worthOf_191 : decode cX6_worthOf 191 = .ok (.laload, 1) := by decide +kernel
theorem dX6_worthOf_192 : decode cX6_worthOf 192 = .ok (.iload 8, 2) := by decide +kernel
theorem dX6_worthOf_194 : decode cX6_worthOf 194 = .ok (.ifCond .eq 9, 3) := by decide +kernel
theorem dX6_worthOf_197 : decode cX6_worthOf 197 = .ok (.lload 9, 2) := by decide +kernel
theorem dX6_worthOf_199 : decode cX6_worthOf 199 = .ok (.lneg, 1) := by decide +kernel
theorem dX6_worthOf_200 : decode cX6_worthOf 200 = .ok (.goto 5, 3) := by decide +kernel
theorem dX6_worthOf_203 : decode cX6_worthOf 203 = .ok (.lload 9, 2) := by decide +kernel
theorem dX6_worthOf_205 : decode cX6_worthOf 205 = .ok (.ladd, 1) := by decide +kernel
theorem dX6_worthOf_206 : decode cX6_worthOf 206 = .ok (.lastore, 1) := by decide +kernel
theorem dX6_worthOf_207 : decode cX6_worthOf 207 = .ok (.iinc 7 1, 3) := by decide +kernel
theorem dX6_worthOf_210 : decode cX6_worthOf 210 = .ok (.goto (-107), 3) := by decide +kernel
theorem dX6_worthOf_213 : decode cX6_worthOf 213 = .ok (.iinc 6 (-1), 3) := by decide +kernel
theorem dX6_worthOf_216 : decode cX6_worthOf 216 = .ok (.goto (-155), 3) := by decide +kernel
theorem dX6_worthOf_219 : decode cX6_worthOf 219 = .ok (.iinc 4 1, 3) := by decide +kernel
theorem dX6_worthOf_222 : decode cX6_worthOf 222 = .ok (.iinc 5 1, 3) := by decide +kernel
theorem dX6_worthOf_225 : decode cX6_worthOf 225 = .ok (.goto (-186), 3) := by decide +kernel
theorem dX6_worthOf_228 : decode cX6_worthOf 228 = .ok (.aload_n 0, 1) := by decide +kernel
theorem dX6_worthOf_229 : decode cX6_worthOf 229 = .ok (.getfield 43, 3) := by decide +kernel
theorem dX6_worthOf_232 : decode cX6_worthOf 232 = .ok (.iload_n 3, 1) := by decide +kernel
theorem dX6_worthOf_233 : decode cX6_worthOf 233 = .ok (.laload, 1) := by decide +kernel
theorem dX6_worthOf_234 : decode cX6_worthOf 234 = .ok (.lreturn, 1) := by decide +kernel
theorem dX6_isSome_0 : decode cX6_isSome 0 = .ok (.iload_n 0, 1) := by decide +kernel
theorem dX6_isSome_1 : decode cX6_isSome 1 = .ok (.ifCond .le 14, 3) := by decide +kernel
theorem dX6_isSome_4 : decode cX6_isSome 4 = .ok (.iload_n 0, 1) := by decide +kernel
theorem dX6_isSome_5 : decode cX6_isSome 5 = .ok (.iconst 1, 1) := by decide +kernel
theorem dX6_isSome_6 : decode cX6_isSome 6 = .ok (.iload_n 1, 1) := by decide +kernel
theorem dX6_isSome_7 : decode cX6_isSome 7 = .ok (.ishl, 1) := by decide +kernel
theorem dX6_isSome_8 : decode cX6_isSome 8 = .ok (.if_icmp .ge 7, 3) := by decide +kernel
theorem dX6_isSome_11 : decode cX6_isSome 11 = .ok (.iconst 1, 1) := by decide +kernel
theorem dX6_isSome_12 : decode cX6_isSome 12 = .ok (.goto 4, 3) := by decide +kernel
theorem dX6_isSome_15 : decode cX6_isSome 15 = .ok (.iconst 0, 1) := by decide +kernel
theorem dX6_isSome_16 : decode cX6_isSome 16 = .ok (.ireturn, 1) := by decide +kernel
theorem dX6_worth_0 : decode cX6_worth 0 = .ok (.aload_n 0, 1) := by decide +kernel
theorem dX6_worth_1 : decode cX6_worth 1 = .ok (.iload_n 1, 1) := by decide +kernel
theorem dX6_worth_2 : decode cX6_worth 2 = .ok (.invokevirtual 98, 3) := by decide +kernel
theorem dX6_worth_5 : decode cX6_worth 5 = .ok (.ifCond .eq 29, 3) := by decide +kernel
theorem dX6_worth_8 : decode cX6_worth 8 = .ok (.iload_n 2, 1) := by decide +kernel
theorem dX6_worth_9 : decode cX6_worth 9 = .ok (.aload_n 0, 1) := by decide +kernel
theorem dX6_worth_10 : decode cX6_worth 10 = .ok (.getfield 13, 3) := by decide +kernel
theorem dX6_worth_13 : decode cX6_worth 13 = .ok (.iload_n 1, 1) := by decide +kernel
theorem dX6_worth_14 : decode cX6_worth 14 = .ok (.iaload, 1) := by decide +kernel
theorem dX6_worth_15 : decode cX6_worth 15 = .ok (.invokestatic 119, 3) := by decide +kernel
theorem dX6_worth_18 : decode cX6_worth 18 = .ok (.ifCond .eq 16, 3) := by decide +kernel
theorem dX6_worth_21 : decode cX6_worth 21 = .ok (.iload_n 3, 1) := by decide +kernel
theorem dX6_worth_22 : decode cX6_worth 22 = .ok (.aload_n 0, 1) := by decide +kernel
theorem dX6_worth_23 : decode cX6_worth 23 = .ok (.getfield 16, 3) := by decide +kernel
theorem dX6_worth_26 : decode cX6_worth 26 = .ok (.iload_n 1, 1) := by decide +kernel
theorem dX6_worth_27 : decode cX6_worth 27 = .ok (.iaload, 1) := by decide +kernel
theorem dX6_worth_28 : decode cX6_worth 28 = .ok (.invokestatic 119, 3) := by decide +kernel
theorem dX6_worth_31 : decode cX6_worth 31 = .ok (.ifCond .ne 11, 3) := by decide +kernel
theorem dX6_worth_34 : decode cX6_worth 34 = .ok (.aload_n 0, 1) := by decide +kernel
theorem dX6_worth_35 : decode cX6_worth 35 = .ok (.bipush (-3), 2) := by decide +kernel
theorem dX6_worth_37 : decode cX6_worth 37 = .ok (.invokevirtual 106, 3) := by decide +kernel
theorem dX6_worth_40 : decode cX6_worth 40 = .ok (.i2l, 1) := by decide +kernel
theorem dX6_worth_41 : decode cX6_worth 41 = .ok (.lreturn, 1) := by decide +kernel
theorem dX6_worth_42 : decode cX6_worth 42 = .ok (.iload_n 2, 1) := by decide +kernel
theorem dX6_worth_43 : decode cX6_worth 43 = .ok (.invokestatic 116, 3) := by decide +kernel
theorem dX6_worth_46 : decode cX6_worth 46 = .ok (.iload_n 3, 1) := by decide +kernel
theorem dX6_worth_47 : decode cX6_worth 47 = .ok (.invokestatic 116, 3) := by decide +kernel
theorem dX6_worth_50 : decode cX6_worth 50 = .ok (.if_icmp .ne 13, 3) := by decide +kernel
theorem dX6_worth_53 : decode cX6_worth 53 = .ok (.aload_n 0, 1) := by decide +kernel
theorem dX6_worth_54 : decode cX6_worth 54 = .ok (.iload_n 1, 1) := by decide +kernel
theorem dX6_worth_55 : decode cX6_worth 55 = .ok (.iload_n 2, 1) := by decide +kernel
theorem dX6_worth_56 : decode cX6_worth 56 = .ok (.iload_n 3, 1) := by decide +kernel
theorem dX6_worth_57 : decode cX6_worth 57 = .ok (.invokevirtual 123, 3) := by decide +kernel
theorem dX6_worth_60 : decode cX6_worth 60 = .ok (.goto 10, 3) := by decide +kernel
theorem dX6_worth_63 : decode cX6_worth 63 = .ok (.aload_n 0, 1) := by decide +kernel
theorem dX6_worth_64 : decode cX6_worth 64 = .ok (.bipush (-7), 2) := by decide +kernel
theorem dX6_worth_66 : decode cX6_worth 66 = .ok (.invokevirtual 106, 3) := by decide +kernel
theorem dX6_worth_69 : decode cX6_worth 69 = .ok (.i2l, 1) := by decide +kernel
theorem dX6_worth_70 : decode cX6_worth 70 = .ok (.lreturn, 1) := by decide +kernel
theorem dX6_goesThrough_0 : decode cX6_goesThrough 0 = .ok (.aload_n 0, 1) := by decide +kernel
theorem dX6_goesThrough_1 : decode cX6_goesThrough 1 = .ok (.iconst 0, 1) := by decide +kernel
theorem dX6_goesThrough_2 : decode cX6_goesThrough 2 = .ok (.putfield 127, 3) := by decide +kernel
theorem dX6_goesThrough_5 : decode cX6_goesThrough 5 = .ok (.aload_n 0, 1) := by decide +kernel
theorem dX6_goesThrough_6 : decode cX6_goesThrough 6 = .ok (.iconst 0, 1) := by decide +kernel
theorem dX6_goesThrough_7 : decode cX6_goesThrough 7 = .ok (.putfield 130, 3) := by decide +kernel
theorem dX6_goesThrough_10 : decode cX6_goesThrough 10 = .ok (.aload_n 0, 1) := by decide +kernel
theorem dX6_goesThrough_11 : decode cX6_goesThrough 11 = .ok (.iconst 0, 1) := by decide +kernel
theorem dX6_goesThrough_12 : decode cX6_goesThrough 12 = .ok (.putfield 133, 3) := by decide +kernel
theorem dX6_goesThrough_15 : decode cX6_goesThrough 15 = .ok (.aload_n 0, 1) := by decide +kernel
theorem dX6_goesThrough_16 : decode cX6_goesThrough 16 = .ok (.iconst (-1), 1) := by decide +kernel
theorem dX6_goesThrough_17 : decode cX6_goesThrough 17 = .ok (.putfield 136, 3) := by decide +kernel
theorem dX6_goesThrough_20 : decode cX6_goesThrough 20 = .ok (.aload_n 0, 1) := by decide +kernel
theorem dX6_goesThrough_21 : decode cX6_goesThrough 21 = .ok (.iconst (-1), 1) := by decide +kernel
theorem dX6_goesThrough_22 : decode cX6_goesThrough 22 = .ok (.putfield 139, 3) := by decide +kernel
theorem dX6_goesThrough_25 : decode cX6_goesThrough 25 = .ok (.iconst 1, 1) := by decide +kernel
theorem dX6_goesThrough_26 : decode cX6_goesThrough 26 = .ok (.istore_n 2, 1) := by decide +kernel
theorem dX6_goesThrough_27 : decode cX6_goesThrough 27 = .ok (.iload_n 2, 1) := by decide +kernel
theorem dX6_goesThrough_28 : decode cX6_goesThrough 28 = .ok (.iconst 5, 1) := by decide +kernel
theorem dX6_goesThrough_29 : decode cX6_goesThrough 29 = .ok (.if_icmp .gt 83, 3) := by decide +kernel
theorem dX6_goesThrough_32 : decode cX6_goesThrough 32 = .ok (.iconst 1, 1) := by decide +kernel
theorem dX6_goesThrough_33 : decode cX6_goesThrough 33 = .ok (.istore_n 3, 1) := by decide +kernel
theorem dX6_goesThrough_34 : decode cX6_goesThrough 34 = .ok (.iload_n 3, 1) := by decide +kernel
theorem dX6_goesThrough_35 : decode cX6_goesThrough 35 = .ok (.iconst 1, 1) := by decide +kernel
theorem dX6_goesThrough_36 : decode cX6_goesThrough 36 = .ok (.aload_n 0, 1) := by decide +kernel
theorem dX6_goesThrough_37 : decode cX6_goesThrough 37 = .ok (.getfield 13, 3) := by decide +kernel
theorem dX6_goesThrough_40 : decode cX6_goesThrough 40 = .ok (.iload_n 1, 1) := by decide +kernel
theorem dX6_goesThrough_41 : decode cX6_goesThrough 41 = .ok (.iaload, 1) := by decide +kernel
theorem dX6_goesThrough_42 : decode cX6_goesThrough 42 = .ok (.ishl, 1) := by decide +kernel
theorem dX6_goesThrough_43 : decode cX6_goesThrough 43 = .ok (.if_icmp .ge 63, 3) := by decide +kernel
theorem dX6_goesThrough_46 : decode cX6_goesThrough 46 = .ok (.iconst 1, 1) := by decide +kernel
theorem dX6_goesThrough_47 : decode cX6_goesThrough 47 = .ok (.istore 4, 2) := by decide +kernel
theorem dX6_goesThrough_49 : decode cX6_goesThrough 49 = .ok (.iload 4, 2) := by decide +kernel
theorem dX6_goesThrough_51 : decode cX6_goesThrough 51 = .ok (.iconst 1, 1) := by decide +kernel
theorem dX6_goesThrough_52 : decode cX6_goesThrough 52 = .ok (.aload_n 0, 1) := by decide +kernel
theorem dX6_goesThrough_53 : decode cX6_goesThrough 53 = .ok (.getfield 16, 3) := by decide +kernel
theorem dX6_goesThrough_56 : decode cX6_goesThrough 56 = .ok (.iload_n 1, 1) := by decide +kernel
theorem dX6_goesThrough_57 : decode cX6_goesThrough 57 = .ok (.iaload, 1) := by decide +kernel
theorem dX6_goesThrough_58 : decode cX6_goesThrough 58 = .ok (.ishl, 1) := by decide +kernel
theorem dX6_goesThrough_59 : decode cX6_goesThrough 59 = .ok (.if_icmp .ge 41, 3) := by decide +kernel
theorem dX6_goesThrough_62 : decode cX6_goesThrough 62 = .ok (.iload_n 3, 1) := by decide +kernel
theorem dX6_goesThrough_63 : decode cX6_goesThrough 63 = .ok (.invokestatic 116, 3) := by decide +kernel
theorem dX6_goesThrough_66 : decode cX6_goesThrough 66 = .ok (.iload_n 2, 1) := by decide +kernel
theorem dX6_goesThrough_67 : decode cX6_goesThrough 67 = .ok (.if_icmp .ne 27, 3) := by decide +kernel
theorem dX6_goesThrough_70 : decode cX6_goesThrough 70 = .ok (.iload 4, 2) := by decide +kernel
theorem dX6_goesThrough_72 : decode cX6_goesThrough 72 = .ok (.invokestatic 116, 3) := by decide +kernel
theorem dX6_goesThrough_75 : decode cX6_goesThrough 75 = .ok (.iload_n 2, 1) := by decide +kernel
theorem dX6_goesThrough_76 : decode cX6_goesThrough 76 = .ok (.if_icmp .ne 18, 3) := by decide +kernel
theorem dX6_goesThrough_79 : decode cX6_goesThrough 79 = .ok (.aload_n 0, 1) := by decide +kernel
theorem dX6_goesThrough_80 : decode cX6_goesThrough 80 = .ok (.iload_n 3, 1) := by decide +kernel
theorem dX6_goesThrough_81 : decode cX6_goesThrough 81 = .ok (.iload 4, 2) := by decide +kernel
theorem dX6_goesThrough_83 : decode cX6_goesThrough 83 = .ok (.aload_n 0, 1) := by decide +kernel
theorem dX6_goesThrough_84 : decode cX6_goesThrough 84 = .ok (.iload_n 1, 1) := by decide +kernel
theorem dX6_goesThrough_85 : decode cX6_goesThrough 85 = .ok (.iload_n 3, 1) := by decide +kernel
theorem dX6_goesThrough_86 : decode cX6_goesThrough 86 = .ok (.iload 4, 2) := by decide +kernel
theorem dX6_goesThrough_88 : decode cX6_goesThrough 88 = .ok (.invokevirtual 123, 3) := by decide +kernel
theorem dX6_goesThrough_91 : decode cX6_goesThrough 91 = .ok (.invokevirtual 142, 3) := by decide +kernel
theorem dX6_goesThrough_94 : decode cX6_goesThrough 94 = .ok (.iinc 4 1, 3) := by decide +kernel
theorem dX6_goesThrough_97 : decode cX6_goesThrough 97 = .ok (.goto (-48), 3) := by decide +kernel
theorem dX6_goesThrough_100 : decode cX6_goesThrough 100 = .ok (.iinc 3 1, 3) := by decide +kernel
theorem dX6_goesThrough_103 : decode cX6_goesThrough 103 = .ok (.goto (-69), 3) := by decide +kernel
theorem dX6_goesThrough_106 : decode cX6_goesThrough 106 = .ok (.iinc 2 1, 3) := by decide +kernel
theorem dX6_goesThrough_109 : decode cX6_goesThrough 109 = .ok (.goto (-82), 3) := by decide +kernel
theorem dX6_goesThrough_112 : decode cX6_goesThrough 112 = .ok (.return_, 1) := by decide +kernel
theorem dX6_counts_0 : decode cX6_counts 0 = .ok (.lload_n 3, 1) := by decide +kernel
theorem dX6_counts_1 : decode cX6_counts 1 = .ok (.lconst 0, 1) := by decide +kernel
theorem dX6_counts_2 : decode cX6_counts 2 = .ok (.lcmp, 1) := by decide +kernel
theorem dX6_counts_3 : decode cX6_counts 3 = .ok (.ifCond .le 14, 3) := by decide +kernel
theorem dX6_counts_6 : decode cX6_counts 6 = .ok (.aload_n 0, 1) := by decide +kernel
theorem dX6_counts_7 : decode cX6_counts 7 = .ok (.dup, 1) := by decide +kernel
theorem dX6_counts_8 : decode cX6_counts 8 = .ok (.getfield 133, 3) := by decide +kernel
theorem dX6_counts_11 : decode cX6_counts 11 = .ok (.iconst 1, 1) := by decide +kernel
theorem dX6_counts_12 : decode cX6_counts 12 = .ok (.iadd, 1) := by decide +kernel
theorem dX6_counts_13 : decode cX6_counts 13 = .ok (.putfield 133, 3) := by decide +kernel
theorem dX6_counts_16 : decode cX6_counts 16 = .ok (.return_, 1) := by decide +kernel
theorem dX6_counts_17 : decode cX6_counts 17 = .ok (.aload_n 0, 1) := by decide +kernel
theorem dX6_counts_18 : decode cX6_counts 18 = .ok (.getfield 139, 3) := by decide +kernel
theorem dX6_counts_21 : decode cX6_counts 21 = .ok (.ifCond .ge 13, 3) := by decide +kernel
theorem dX6_counts_24 : decode cX6_counts 24 = .ok (.aload_n 0, 1) := by decide +kernel
theorem dX6_counts_25 : decode cX6_counts 25 = .ok (.bipush 32, 2) := by decide +kernel
theorem dX6_counts_27 : decode cX6_counts 27 = .ok (.iload_n 1, 1) := by decide +kernel
theorem dX6_counts_28 : decode cX6_counts 28 = .ok (.imul, 1) := by decide +kernel
theorem dX6_counts_29 : decode cX6_counts 29 = .ok (.iload_n 2, 1) := by decide +kernel
theorem dX6_counts_30 : decode cX6_counts 30 = .ok (.iadd, 1) := by decide +kernel
theorem dX6_counts_31 : decode cX6_counts 31 = .ok (.putfield 139, 3) := by decide +kernel
theorem dX6_counts_34 : decode cX6_counts 34 = .ok (.lload_n 3, 1) := by decide +kernel
theorem dX6_counts_35 : decode cX6_counts 35 = .ok (.lconst 0, 1) := by decide +kernel
theorem dX6_counts_36 : decode cX6_counts 36 = .ok (.lcmp, 1) := by decide +kernel
theorem dX6_counts_37 : decode cX6_counts 37 = .ok (.ifCond .ne 14, 3) := by decide +kernel
theorem dX6_counts_40 : decode cX6_counts 40 = .ok (.aload_n 0, 1) := by decide +kernel
theorem dX6_counts_41 : decode cX6_counts 41 = .ok (.dup, 1) := by decide +kernel
theorem dX6_counts_42 : decode cX6_counts 42 = .ok (.getfield 130, 3) := by decide +kernel
theorem dX6_counts_45 : decode cX6_counts 45 = .ok (.iconst 1, 1) := by decide +kernel
theorem dX6_counts_46 : decode cX6_counts 46 = .ok (.iadd, 1) := by decide +kernel
theorem dX6_counts_47 : decode cX6_counts 47 = .ok (.putfield 130, 3) := by decide +kernel
theorem dX6_counts_50 : decode cX6_counts 50 = .ok (.return_, 1) := by decide +kernel
theorem dX6_counts_51 : decode cX6_counts 51 = .ok (.aload_n 0, 1) := by decide +kernel
theorem dX6_counts_52 : decode cX6_counts 52 = .ok (.getfield 136, 3) := by decide +kernel
theorem dX6_counts_55 : decode cX6_counts 55 = .ok (.ifCond .ge 13, 3) := by decide +kernel
theorem dX6_counts_58 : decode cX6_counts 58 = .ok (.aload_n 0, 1) := by decide +kernel
theorem dX6_counts_59 : decode cX6_counts 59 = .ok (.bipush 32, 2) := by decide +kernel
theorem dX6_counts_61 : decode cX6_counts 61 = .ok (.iload_n 1, 1) := by decide +kernel
theorem dX6_counts_62 : decode cX6_counts 62 = .ok (.imul, 1) := by decide +kernel
theorem dX6_counts_63 : decode cX6_counts 63 = .ok (.iload_n 2, 1) := by decide +kernel
theorem dX6_counts_64 : decode cX6_counts 64 = .ok (.iadd, 1) := by decide +kernel
theorem dX6_counts_65 : decode cX6_counts 65 = .ok (.putfield 136, 3) := by decide +kernel
theorem dX6_counts_68 : decode cX6_counts 68 = .ok (.aload_n 0, 1) := by decide +kernel
theorem dX6_counts_69 : decode cX6_counts 69 = .ok (.dup, 1) := by decide +kernel
theorem dX6_counts_70 : decode cX6_counts 70 = .ok (.getfield 127, 3) := by decide +kernel
theorem dX6_counts_73 : decode cX6_counts 73 = .ok (.iconst 1, 1) := by decide +kernel
theorem dX6_counts_74 : decode cX6_counts 74 = .ok (.iadd, 1) := by decide +kernel
theorem dX6_counts_75 : decode cX6_counts 75 = .ok (.putfield 127, 3) := by decide +kernel
theorem dX6_counts_78 : decode cX6_counts 78 = .ok (.return_, 1) := by decide +kernel
theorem dX6_span_0 : decode cX6_span 0 = .ok (.iconst 1, 1) := by decide +kernel
theorem dX6_span_1 : decode cX6_span 1 = .ok (.iload_n 1, 1) := by decide +kernel
theorem dX6_span_2 : decode cX6_span 2 = .ok (.ishl, 1) := by decide +kernel
theorem dX6_span_3 : decode cX6_span 3 = .ok (.iconst 1, 1) := by decide +kernel
theorem dX6_span_4 : decode cX6_span 4 = .ok (.isub, 1) := by decide +kernel
theorem dX6_span_5 : decode cX6_span 5 = .ok (.iload_n 0, 1) := by decide +kernel
theorem dX6_span_6 : decode cX6_span 6 = .ok (.ishl, 1) := by decide +kernel
theorem dX6_span_7 : decode cX6_span 7 = .ok (.ireturn, 1) := by decide +kernel
theorem dX6_looks_0 : decode cX6_looks 0 = .ok (.iconst 0, 1) := by decide +kernel
theorem dX6_looks_1 : decode cX6_looks 1 = .ok (.istore_n 3, 1) := by decide +kernel
theorem dX6_looks_2 : decode cX6_looks 2 = .ok (.iconst 1, 1) := by decide +kernel
theorem dX6_looks_3 : decode cX6_looks 3 = .ok (.istore 4, 2) := by decide +kernel
theorem dX6_looks_5 : decode cX6_looks 5 = .ok (.iload 4, 2) := by decide +kernel
theorem dX6_looks_7 : decode cX6_looks 7 = .ok (.aload_n 0, 1) := by decide +kernel
theorem dX6_looks_8 : decode cX6_looks 8 = .ok (.getfield 13, 3) := by decide +kernel
theorem dX6_looks_11 : decode cX6_looks 11 = .ok (.iload_n 1, 1) := by decide +kernel
theorem dX6_looks_12 : decode cX6_looks 12 = .ok (.iaload, 1) := by decide +kernel
theorem dX6_looks_13 : decode cX6_looks 13 = .ok (.if_icmp .gt 115, 3) := by decide +kernel
theorem dX6_looks_16 : decode cX6_looks 16 = .ok (.iload 4, 2) := by decide +kernel
theorem dX6_looks_18 : decode cX6_looks 18 = .ok (.aload_n 0, 1) := by decide +kernel
theorem dX6_looks_19 : decode cX6_looks 19 = .ok (.getfield 16, 3) := by decide +kernel
theorem dX6_looks_22 : decode cX6_looks 22 = .ok (.iload_n 1, 1) := by decide +kernel
theorem dX6_looks_23 : decode cX6_looks 23 = .ok (.iaload, 1) := by decide +kernel
theorem dX6_looks_24 : decode cX6_looks 24 = .ok (.if_icmp .gt 104, 3) := by decide +kernel
theorem dX6_looks_27 : decode cX6_looks 27 = .ok (.iconst 0, 1) := by decide +kernel
theorem dX6_looks_28 : decode cX6_looks 28 = .ok (.istore 5, 2) := by decide +kernel
theorem dX6_looks_30 : decode cX6_looks 30 = .ok (.iload 5, 2) := by decide +kernel
theorem dX6_looks_32 : decode cX6_looks 32 = .ok (.iload 4, 2) := by decide +kernel
theorem dX6_looks_34 : decode cX6_looks 34 = .ok (.iadd, 1) := by decide +kernel
theorem dX6_looks_35 : decode cX6_looks 35 = .ok (.aload_n 0, 1) := by decide +kernel
theorem dX6_looks_36 : decode cX6_looks 36 = .ok (.getfield 13, 3) := by decide +kernel
theorem dX6_looks_39 : decode cX6_looks 39 = .ok (.iload_n 1, 1) := by decide +kernel
theorem dX6_looks_40 : decode cX6_looks 40 = .ok (.iaload, 1) := by decide +kernel
theorem dX6_looks_41 : decode cX6_looks 41 = .ok (.if_icmp .gt 81, 3) := by decide +kernel
theorem dX6_looks_44 : decode cX6_looks 44 = .ok (.iconst 0, 1) := by decide +kernel
theorem dX6_looks_45 : decode cX6_looks 45 = .ok (.istore 6, 2) := by decide +kernel
theorem dX6_looks_47 : decode cX6_looks 47 = .ok (.iload 6, 2) := by decide +kernel
theorem dX6_looks_49 : decode cX6_looks 49 = .ok (.iload 4, 2) := by decide +kernel
theorem dX6_looks_51 : decode cX6_looks 51 = .ok (.iadd, 1) := by decide +kernel
theorem dX6_looks_52 : decode cX6_looks 52 = .ok (.aload_n 0, 1) := by decide +kernel
theorem dX6_looks_53 : decode cX6_looks 53 = .ok (.getfield 16, 3) := by decide +kernel
theorem dX6_looks_56 : decode cX6_looks 56 = .ok (.iload_n 1, 1) := by decide +kernel
theorem dX6_looks_57 : decode cX6_looks 57 = .ok (.iaload, 1) := by decide +kernel
theorem dX6_looks_58 : decode cX6_looks 58 = .ok (.if_icmp .gt 58, 3) := by decide +kernel
theorem dX6_looks_61 : decode cX6_looks 61 = .ok (.iload 5, 2) := by decide +kernel
theorem dX6_looks_63 : decode cX6_looks 63 = .ok (.ifCond .le 11, 3) := by decide +kernel
theorem dX6_looks_66 : decode cX6_looks 66 = .ok (.iload 6, 2) := by decide +kernel
theorem dX6_looks_68 : decode cX6_looks 68 = .ok (.ifCond .le 6, 3) := by decide +kernel
theorem dX6_looks_71 : decode cX6_looks 71 = .ok (.goto 39, 3) := by decide +kernel
theorem dX6_looks_74 : decode cX6_looks 74 = .ok (.iload_n 3, 1) := by decide +kernel
theorem dX6_looks_75 : decode cX6_looks 75 = .ok (.iload_n 2, 1) := by decide +kernel
theorem dX6_looks_76 : decode cX6_looks 76 = .ok (.ifCond .eq 27, 3) := by decide +kernel
theorem dX6_looks_79 : decode cX6_looks 79 = .ok (.aload_n 0, 1) := by decide +kernel
theorem dX6_looks_80 : decode cX6_looks 80 = .ok (.iload_n 1, 1) := by decide +kernel
theorem dX6_looks_81 : decode cX6_looks 81 = .ok (.iload 5, 2) := by decide +kernel
theorem dX6_looks_83 : decode cX6_looks 83 = .ok (.iload 4, 2) := by decide +kernel
theorem dX6_looks_85 : decode cX6_looks 85 = .ok (.invokestatic 146, 3) := by decide +kernel
theorem dX6_looks_88 : decode cX6_looks 88 = .ok (.iload 6, 2) := by decide +kernel
theorem dX6_looks_90 : decode cX6_looks 90 = .ok (.iload 4, 2) := by decide +kernel
theorem dX6_looks_92 : decode cX6_looks 92 = .ok (.invokestatic 146, 3) := by decide +kernel
theorem dX6_looks_95 : decode cX6_looks 95 = .ok (.invokevirtual 123, 3) := by decide +kernel
theorem dX6_looks_98 : decode cX6_looks 98 = .ok (.lconst 0, 1) := by decide +kernel
theorem dX6_looks_99 : decode cX6_looks 99 = .ok (.lcmp, 1) := by decide +kernel
theorem dX6_looks_100 : decode cX6_looks 100 = .ok (.ifCond .le 7, 3) := by decide +kernel
theorem dX6_looks_103 : decode cX6_looks 103 = .ok (.iconst 1, 1) := by decide +kernel
theorem dX6_looks_104 : decode cX6_looks 104 = .ok (.goto 4, 3) := by decide +kernel
theorem dX6_looks_107 : decode cX6_looks 107 = .ok (.iconst 0, 1) := by decide +kernel
theorem dX6_looks_108 : decode cX6_looks 108 = .ok (.iadd, 1) := by decide +kernel
theorem dX6_looks_109 : decode cX6_looks 109 = .ok (.istore_n 3, 1) := by decide +kernel
theorem dX6_looks_110 : decode cX6_looks 110 = .ok (.iinc 6 1, 3) := by decide +kernel
theorem dX6_looks_113 : decode cX6_looks 113 = .ok (.goto (-66), 3) := by decide +kernel
theorem dX6_looks_116 : decode cX6_looks 116 = .ok (.iinc 5 1, 3) := by decide +kernel
theorem dX6_looks_119 : decode cX6_looks 119 = .ok (.goto (-89), 3) := by decide +kernel
theorem dX6_looks_122 : decode cX6_looks 122 = .ok (.iinc 4 1, 3) := by decide +kernel
theorem dX6_looks_125 : decode cX6_looks 125 = .ok (.goto (-120), 3) := by decide +kernel
theorem dX6_looks_128 : decode cX6_looks 128 = .ok (.iload_n 3, 1) := by decide +kernel
theorem dX6_looks_129 : decode cX6_looks 129 = .ok (.ireturn, 1) := by decide +kernel
theorem dX6_look_0 : decode cX6_look 0 = .ok (.aload_n 0, 1) := by decide +kernel
theorem dX6_look_1 : decode cX6_look 1 = .ok (.iload_n 1, 1) := by decide +kernel
theorem dX6_look_2 : decode cX6_look 2 = .ok (.invokevirtual 98, 3) := by decide +kernel
theorem dX6_look_5 : decode cX6_look 5 = .ok (.ifCond .ne 10, 3) := by decide +kernel
theorem dX6_look_8 : decode cX6_look 8 = .ok (.aload_n 0, 1) := by decide +kernel
theorem dX6_look_9 : decode cX6_look 9 = .ok (.bipush (-3), 2) := by decide +kernel
theorem dX6_look_11 : decode cX6_look 11 = .ok (.invokevirtual 80, 3) := by decide +kernel
theorem dX6_look_14 : decode cX6_look 14 = .ok (.ireturn, 1) := by decide +kernel
theorem dX6_look_15 : decode cX6_look 15 = .ok (.iload_n 2, 1) := by decide +kernel
theorem dX6_look_16 : decode cX6_look 16 = .ok (.bipush 7, 2) := by decide +kernel
theorem dX6_look_18 : decode cX6_look 18 = .ok (.if_icmp .ne 20, 3) := by decide +kernel
theorem dX6_look_21 : decode cX6_look 21 = .ok (.aload_n 0, 1) := by decide +kernel
theorem dX6_look_22 : decode cX6_look 22 = .ok (.getfield 19, 3) := by decide +kernel
theorem dX6_look_25 : decode cX6_look 25 = .ok (.iload_n 1, 1) := by decide +kernel
theorem dX6_look_26 : decode cX6_look 26 = .ok (.iaload, 1) := by decide +kernel
theorem dX6_look_27 : decode cX6_look 27 = .ok (.iconst 1, 1) := by decide +kernel
theorem dX6_look_28 : decode cX6_look 28 = .ok (.if_icmp .eq 10, 3) := by decide +kernel
theorem dX6_look_31 : decode cX6_look 31 = .ok (.aload_n 0, 1) := by decide +kernel
theorem dX6_look_32 : decode cX6_look 32 = .ok (.bipush (-5), 2) := by decide +kernel
theorem dX6_look_34 : decode cX6_look 34 = .ok (.invokevirtual 80, 3) := by decide +kernel
theorem dX6_look_37 : decode cX6_look 37 = .ok (.ireturn, 1) := by decide +kernel
theorem dX6_look_38 : decode cX6_look 38 = .ok (.iload_n 2, 1) := by decide +kernel
theorem dX6_look_39 : decode cX6_look 39 = .ok (.tableswitch 131 0 7 #[45, 52, 59, 66, 84, 107, 107, 124], 45) := by decide +kernel
theorem dX6_look_84 : decode cX6_look 84 = .ok (.aload_n 0, 1) := by decide +kernel
theorem dX6_look_85 : decode cX6_look 85 = .ok (.getfield 19, 3) := by decide +kernel
theorem dX6_look_88 : decode cX6_look 88 = .ok (.iload_n 1, 1) := by decide +kernel
theorem dX6_look_89 : decode cX6_look 89 = .ok (.iaload, 1) := by decide +kernel
theorem dX6_look_90 : decode cX6_look 90 = .ok (.ireturn, 1) := by decide +kernel
theorem dX6_look_91 : decode cX6_look 91 = .ok (.aload_n 0, 1) := by decide +kernel
theorem dX6_look_92 : decode cX6_look 92 = .ok (.getfield 13, 3) := by decide +kernel
theorem dX6_look_95 : decode cX6_look 95 = .ok (.iload_n 1, 1) := by decide +kernel
theorem dX6_look_96 : decode cX6_look 96 = .ok (.iaload, 1) := by decide +kernel
theorem dX6_look_97 : decode cX6_look 97 = .ok (.ireturn, 1) := by decide +kernel
theorem dX6_look_98 : decode cX6_look 98 = .ok (.aload_n 0, 1) := by decide +kernel
theorem dX6_look_99 : decode cX6_look 99 = .ok (.getfield 16, 3) := by decide +kernel
theorem dX6_look_102 : decode cX6_look 102 = .ok (.iload_n 1, 1) := by decide +kernel
theorem dX6_look_103 : decode cX6_look 103 = .ok (.iaload, 1) := by decide +kernel
theorem dX6_look_104 : decode cX6_look 104 = .ok (.ireturn, 1) := by decide +kernel
theorem dX6_look_105 : decode cX6_look 105 = .ok (.aload_n 0, 1) := by decide +kernel
theorem dX6_look_106 : decode cX6_look 106 = .ok (.iload_n 1, 1) := by decide +kernel
theorem dX6_look_107 : decode cX6_look 107 = .ok (.invokevirtual 150, 3) := by decide +kernel
theorem dX6_look_110 : decode cX6_look 110 = .ok (.aload_n 0, 1) := by decide +kernel
theorem dX6_look_111 : decode cX6_look 111 = .ok (.getfield 127, 3) := by decide +kernel
theorem dX6_look_114 : decode cX6_look 114 = .ok (.ifCond .ne 7, 3) := by decide +kernel
theorem dX6_look_117 : decode cX6_look 117 = .ok (.iconst 1, 1) := by decide +kernel
theorem dX6_look_118 : decode cX6_look 118 = .ok (.goto 4, 3) := by decide +kernel
theorem dX6_look_121 : decode cX6_look 121 = .ok (.iconst 0, 1) := by decide +kernel
theorem dX6_look_122 : decode cX6_look 122 = .ok (.ireturn, 1) := by decide +kernel
theorem dX6_look_123 : decode cX6_look 123 = .ok (.aload_n 0, 1) := by decide +kernel
theorem dX6_look_124 : decode cX6_look 124 = .ok (.iload_n 1, 1) := by decide +kernel
theorem dX6_look_125 : decode cX6_look 125 = .ok (.invokevirtual 150, 3) := by decide +kernel
theorem dX6_look_128 : decode cX6_look 128 = .ok (.aload_n 0, 1) := by decide +kernel
theorem dX6_look_129 : decode cX6_look 129 = .ok (.getfield 127, 3) := by decide +kernel
theorem dX6_look_132 : decode cX6_look 132 = .ok (.aload_n 0, 1) := by decide +kernel
theorem dX6_look_133 : decode cX6_look 133 = .ok (.getfield 130, 3) := by decide +kernel
theorem dX6_look_136 : decode cX6_look 136 = .ok (.iadd, 1) := by decide +kernel
theorem dX6_look_137 : decode cX6_look 137 = .ok (.ifCond .ne 7, 3) := by decide +kernel
theorem dX6_look_140 : decode cX6_look 140 = .ok (.iconst 1, 1) := by decide +kernel
theorem dX6_look_141 : decode cX6_look 141 = .ok (.goto 4, 3) := by decide +kernel
theorem dX6_look_144 : decode cX6_look 144 = .ok (.iconst 0, 1) := by decide +kernel
theorem dX6_look_145 : decode cX6_look 145 = .ok (.ireturn, 1) := by decide +kernel
theorem dX6_look_146 : decode cX6_look 146 = .ok (.aload_n 0, 1) := by decide +kernel
theorem dX6_look_147 : decode cX6_look 147 = .ok (.iload_n 1, 1) := by decide +kernel
theorem dX6_look_148 : decode cX6_look 148 = .ok (.iload_n 2, 1) := by decide +kernel
theorem dX6_look_149 : decode cX6_look 149 = .ok (.bipush 6, 2) := by decide +kernel
theorem dX6_look_151 : decode cX6_look 151 = .ok (.if_icmp .ne 7, 3) := by decide +kernel
theorem dX6_look_154 : decode cX6_look 154 = .ok (.iconst 1, 1) := by decide +kernel
theorem dX6_look_155 : decode cX6_look 155 = .ok (.goto 4, 3) := by decide +kernel
theorem dX6_look_158 : decode cX6_look 158 = .ok (.iconst 0, 1) := by decide +kernel
theorem dX6_look_159 : decode cX6_look 159 = .ok (.invokevirtual 154, 3) := by decide +kernel
theorem dX6_look_162 : decode cX6_look 162 = .ok (.ireturn, 1) := by decide +kernel
theorem dX6_look_163 : decode cX6_look 163 = .ok (.aload_n 0, 1) := by decide +kernel
theorem dX6_look_164 : decode cX6_look 164 = .ok (.getfield 22, 3) := by decide +kernel
theorem dX6_look_167 : decode cX6_look 167 = .ok (.iload_n 1, 1) := by decide +kernel
theorem dX6_look_168 : decode cX6_look 168 = .ok (.iaload, 1) := by decide +kernel
theorem dX6_look_169 : decode cX6_look 169 = .ok (.ireturn, 1) := by decide +kernel
theorem dX6_look_170 : decode cX6_look 170 = .ok (.aload_n 0, 1) := by decide +kernel
theorem dX6_look_171 : decode cX6_look 171 = .ok (.bipush (-7), 2) := by decide +kernel
theorem dX6_look_173 : decode cX6_look 173 = .ok (.invokevirtual 80, 3) := by decide +kernel
theorem dX6_look_176 : decode cX6_look 176 = .ok (.ireturn, 1) := by decide +kernel
theorem dX6_drop_0 : decode cX6_drop 0 = .ok (.aload_n 0, 1) := by decide +kernel
theorem dX6_drop_1 : decode cX6_drop 1 = .ok (.getfield 84, 3) := by decide +kernel
theorem dX6_drop_4 : decode cX6_drop 4 = .ok (.ifCond .ne 10, 3) := by decide +kernel
theorem dX6_drop_7 : decode cX6_drop 7 = .ok (.aload_n 0, 1) := by decide +kernel
theorem dX6_drop_8 : decode cX6_drop 8 = .ok (.bipush (-2), 2) := by decide +kernel
theorem dX6_drop_10 : decode cX6_drop 10 = .ok (.invokevirtual 80, 3) := by decide +kernel
theorem dX6_drop_13 : decode cX6_drop 13 = .ok (.ireturn, 1) := by decide +kernel
theorem dX6_drop_14 : decode cX6_drop 14 = .ok (.aload_n 0, 1) := by decide +kernel
theorem dX6_drop_15 : decode cX6_drop 15 = .ok (.dup, 1) := by decide +kernel
theorem dX6_drop_16 : decode cX6_drop 16 = .ok (.getfield 84, 3) := by decide +kernel
theorem dX6_drop_19 : decode cX6_drop 19 = .ok (.iconst 1, 1) := by decide +kernel
theorem dX6_drop_20 : decode cX6_drop 20 = .ok (.isub, 1) := by decide +kernel
theorem dX6_drop_21 : decode cX6_drop 21 = .ok (.putfield 84, 3) := by decide +kernel
theorem dX6_drop_24 : decode cX6_drop 24 = .ok (.aload_n 0, 1) := by decide +kernel
theorem dX6_drop_25 : decode cX6_drop 25 = .ok (.getfield 84, 3) := by decide +kernel
theorem dX6_drop_28 : decode cX6_drop 28 = .ok (.ireturn, 1) := by decide +kernel
theorem dX6_low_0 : decode cX6_low 0 = .ok (.aload_n 0, 1) := by decide +kernel
theorem dX6_low_1 : decode cX6_low 1 = .ok (.iload_n 1, 1) := by decide +kernel
theorem dX6_low_2 : decode cX6_low 2 = .ok (.invokevirtual 98, 3) := by decide +kernel
theorem dX6_low_5 : decode cX6_low 5 = .ok (.ifCond .ne 10, 3) := by decide +kernel
theorem dX6_low_8 : decode cX6_low 8 = .ok (.aload_n 0, 1) := by decide +kernel
theorem dX6_low_9 : decode cX6_low 9 = .ok (.bipush (-3), 2) := by decide +kernel
theorem dX6_low_11 : decode cX6_low 11 = .ok (.invokevirtual 80, 3) := by decide +kernel
theorem dX6_low_14 : decode cX6_low 14 = .ok (.ireturn, 1) := by decide +kernel
theorem dX6_low_15 : decode cX6_low 15 = .ok (.aload_n 0, 1) := by decide +kernel
theorem dX6_low_16 : decode cX6_low 16 = .ok (.iload_n 1, 1) := by decide +kernel
theorem dX6_low_17 : decode cX6_low 17 = .ok (.invokevirtual 150, 3) := by decide +kernel
theorem dX6_low_20 : decode cX6_low 20 = .ok (.iload_n 2, 1) := by decide +kernel
theorem dX6_low_21 : decode cX6_low 21 = .ok (.ifCond .eq 10, 3) := by decide +kernel
theorem dX6_low_24 : decode cX6_low 24 = .ok (.aload_n 0, 1) := by decide +kernel
theorem dX6_low_25 : decode cX6_low 25 = .ok (.getfield 139, 3) := by decide +kernel
theorem dX6_low_28 : decode cX6_low 28 = .ok (.goto 7, 3) := by decide +kernel
theorem dX6_low_31 : decode cX6_low 31 = .ok (.aload_n 0, 1) := by decide +kernel
theorem dX6_low_32 : decode cX6_low 32 = .ok (.getfield 136, 3) := by decide +kernel
theorem dX6_low_35 : decode cX6_low 35 = .ok (.ireturn, 1) := by decide +kernel
theorem dX6_count_0 : decode cX6_count 0 = .ok (.aload_n 0, 1) := by decide +kernel
theorem dX6_count_1 : decode cX6_count 1 = .ok (.iload_n 1, 1) := by decide +kernel
theorem dX6_count_2 : decode cX6_count 2 = .ok (.invokevirtual 98, 3) := by decide +kernel
theorem dX6_count_5 : decode cX6_count 5 = .ok (.ifCond .ne 10, 3) := by decide +kernel
theorem dX6_count_8 : decode cX6_count 8 = .ok (.aload_n 0, 1) := by decide +kernel
theorem dX6_count_9 : decode cX6_count 9 = .ok (.bipush (-3), 2) := by decide +kernel
theorem dX6_count_11 : decode cX6_count 11 = .ok (.invokevirtual 80, 3) := by decide +kernel
theorem dX6_count_14 : decode cX6_count 14 = .ok (.ireturn, 1) := by decide +kernel
theorem dX6_count_15 : decode cX6_count 15 = .ok (.iload_n 2, 1) := by decide +kernel
theorem dX6_count_16 : decode cX6_count 16 = .ok (.i2l, 1) := by decide +kernel
theorem dX6_count_17 : decode cX6_count 17 = .ok (.ldc2_w 158, 3) := by decide +kernel
theorem dX6_count_20 : decode cX6_count 20 = .ok (.lconst 1, 1) := by decide +kernel
theorem dX6_count_21 : decode cX6_count 21 = .ok (.invokestatic 90, 3) := by decide +kernel
theorem dX6_count_24 : decode cX6_count 24 = .ok (.ifCond .ne 10, 3) := by decide +kernel
theorem dX6_count_27 : decode cX6_count 27 = .ok (.aload_n 0, 1) := by decide +kernel
theorem dX6_count_28 : decode cX6_count 28 = .ok (.bipush (-7), 2) := by decide +kernel
theorem dX6_count_30 : decode cX6_count 30 = .ok (.invokevirtual 80, 3) := by decide +kernel
theorem dX6_count_33 : decode cX6_count 33 = .ok (.ireturn, 1) := by decide +kernel
theorem dX6_count_34 : decode cX6_count 34 = .ok (.aload_n 0, 1) := by decide +kernel
theorem dX6_count_35 : decode cX6_count 35 = .ok (.iload_n 1, 1) := by decide +kernel
theorem dX6_count_36 : decode cX6_count 36 = .ok (.invokevirtual 150, 3) := by decide +kernel
theorem dX6_count_39 : decode cX6_count 39 = .ok (.iload_n 2, 1) := by decide +kernel
theorem dX6_count_40 : decode cX6_count 40 = .ok (.ifCond .ge 10, 3) := by decide +kernel
theorem dX6_count_43 : decode cX6_count 43 = .ok (.aload_n 0, 1) := by decide +kernel
theorem dX6_count_44 : decode cX6_count 44 = .ok (.getfield 127, 3) := by decide +kernel
theorem dX6_count_47 : decode cX6_count 47 = .ok (.goto 18, 3) := by decide +kernel
theorem dX6_count_50 : decode cX6_count 50 = .ok (.iload_n 2, 1) := by decide +kernel
theorem dX6_count_51 : decode cX6_count 51 = .ok (.ifCond .ne 10, 3) := by decide +kernel
theorem dX6_count_54 : decode cX6_count 54 = .ok (.aload_n 0, 1) := by decide +kernel
theorem dX6_count_55 : decode cX6_count 55 = .ok (.getfield 130, 3) := by decide +kernel
theorem dX6_count_58 : decode cX6_count 58 = .ok (.goto 7, 3) := by decide +kernel
theorem dX6_count_61 : decode cX6_count 61 = .ok (.aload_n 0, 1) := by decide +kernel
theorem dX6_count_62 : decode cX6_count 62 = .ok (.getfield 133, 3) := by decide +kernel
theorem dX6_count_65 : decode cX6_count 65 = .ok (.ireturn, 1) := by decide +kernel
theorem dX6_comes_0 : decode cX6_comes 0 = .ok (.iconst 0, 1) := by decide +kernel
theorem dX6_comes_1 : decode cX6_comes 1 = .ok (.istore 4, 2) := by decide +kernel
theorem dX6_comes_3 : decode cX6_comes 3 = .ok (.iload 4, 2) := by decide +kernel
theorem dX6_comes_5 : decode cX6_comes 5 = .ok (.iload_n 1, 1) := by decide +kernel
theorem dX6_comes_6 : decode cX6_comes 6 = .ok (.if_icmp .ge 55, 3) := by decide +kernel
theorem dX6_comes_9 : decode cX6_comes 9 = .ok (.iconst 0, 1) := by decide +kernel
theorem dX6_comes_10 : decode cX6_comes 10 = .ok (.istore 5, 2) := by decide +kernel
theorem dX6_comes_12 : decode cX6_comes 12 = .ok (.iload 5, 2) := by decide +kernel
theorem dX6_comes_14 : decode cX6_comes 14 = .ok (.iload_n 2, 1) := by decide +kernel
theorem dX6_comes_15 : decode cX6_comes 15 = .ok (.if_icmp .ge 40, 3) := by decide +kernel
theorem dX6_comes_18 : decode cX6_comes 18 = .ok (.aload_n 0, 1) := by decide +kernel
theorem dX6_comes_19 : decode cX6_comes 19 = .ok (.getfield 47, 3) := by decide +kernel
theorem dX6_comes_22 : decode cX6_comes 22 = .ok (.iconst 5, 1) := by decide +kernel
theorem dX6_comes_23 : decode cX6_comes 23 = .ok (.iload 4, 2) := by decide +kernel
theorem dX6_comes_25 : decode cX6_comes 25 = .ok (.imul, 1) := by decide +kernel
theorem dX6_comes_26 : decode cX6_comes 26 = .ok (.iload 5, 2) := by decide +kernel
theorem dX6_comes_28 : decode cX6_comes 28 = .ok (.iadd, 1) := by decide +kernel
theorem dX6_comes_29 : decode cX6_comes 29 = .ok (.laload, 1) := by decide +kernel
theorem dX6_comes_30 : decode cX6_comes 30 = .ok (.ldc2_w 109, 3) := by decide +kernel
theorem dX6_comes_33 : decode cX6_comes 33 = .ok (.ldc2_w 111, 3) := by decide +kernel
theorem dX6_comes_36 : decode cX6_comes 36 = .ok (.invokestatic 90, 3) := by decide +kernel
theorem dX6_comes_39 : decode cX6_comes 39 = .ok (.ifCond .ne 10, 3) := by decide +kernel
theorem dX6_comes_42 : decode cX6_comes 42 = .ok (.aload_n 0, 1) := by decide +kernel
theorem dX6_comes_43 : decode cX6_comes 43 = .ok (.bipush (-8), 2) := by decide +kernel
theorem dX6_comes_45 : decode cX6_comes 45 = .ok (.invokevirtual 80, 3) := by decide +kernel
theorem dX6_comes_48 : decode cX6_comes 48 = .ok (.ireturn, 1) := by decide +kernel
theorem dX6_comes_49 : decode cX6_comes 49 = .ok (.iinc 5 1, 3) := by decide +kernel
theorem dX6_comes_52 : decode cX6_comes 52 = .ok (.goto (-40), 3) := by decide +kernel
theorem dX6_comes_55 : decode cX6_comes 55 = .ok (.iinc 4 1, 3) := by decide +kernel
theorem dX6_comes_58 : decode cX6_comes 58 = .ok (.goto (-55), 3) := by decide +kernel
theorem dX6_comes_61 : decode cX6_comes 61 = .ok (.aload_n 0, 1) := by decide +kernel
theorem dX6_comes_62 : decode cX6_comes 62 = .ok (.iload_n 1, 1) := by decide +kernel
theorem dX6_comes_63 : decode cX6_comes 63 = .ok (.iload_n 2, 1) := by decide +kernel
theorem dX6_comes_64 : decode cX6_comes 64 = .ok (.iload_n 3, 1) := by decide +kernel
theorem dX6_comes_65 : decode cX6_comes 65 = .ok (.invokevirtual 94, 3) := by decide +kernel
theorem dX6_comes_68 : decode cX6_comes 68 = .ok (.istore 4, 2) := by decide +kernel
theorem dX6_comes_70 : decode cX6_comes 70 = .ok (.iconst 0, 1) := by decide +kernel
theorem dX6_comes_71 : decode cX6_comes 71 = .ok (.istore 5, 2) := by decide +kernel
theorem dX6_comes_73 : decode cX6_comes 73 = .ok (.iload 5, 2) := by decide +kernel
theorem dX6_comes_75 : decode cX6_comes 75 = .ok (.iload_n 1, 1) := by decide +kernel
theorem dX6_comes_76 : decode cX6_comes 76 = .ok (.if_icmp .ge 56, 3) := by decide +kernel
theorem dX6_comes_79 : decode cX6_comes 79 = .ok (.iload 4, 2) := by decide +kernel
theorem dX6_comes_81 : decode cX6_comes 81 = .ok (.ifCond .lt 51, 3) := by decide +kernel
theorem dX6_comes_84 : decode cX6_comes 84 = .ok (.iconst 0, 1) := by decide +kernel
theorem dX6_comes_85 : decode cX6_comes 85 = .ok (.istore 6, 2) := by decide +kernel
theorem dX6_comes_87 : decode cX6_comes 87 = .ok (.iload 6, 2) := by decide +kernel
theorem dX6_comes_89 : decode cX6_comes 89 = .ok (.iload_n 2, 1) := by decide +kernel
theorem dX6_comes_90 : decode cX6_comes 90 = .ok (.if_icmp .ge 36, 3) := by decide +kernel
theorem dX6_comes_93 : decode cX6_comes 93 = .ok (.aload_n 0, 1) := by decide +kernel
theorem dX6_comes_94 : decode cX6_comes 94 = .ok (.getfield 7, 3) := by decide +kernel
theorem dX6_comes_97 : decode cX6_comes 97 = .ok (.iload 4, 2) := by decide +kernel
theorem dX6_comes_99 : decode cX6_comes 99 = .ok (.iload 5, 2) := by decide +kernel
theorem dX6_comes_101 : decode cX6_comes 101 = .ok (.iload 6, 2) := by decide +kernel
theorem dX6_comes_103 : decode cX6_comes 103 = .ok (.invokestatic 113, 3) := by decide +kernel
theorem dX6_comes_106 : decode cX6_comes 106 = .ok (.aload_n 0, 1) := by decide +kernel
theorem dX6_comes_107 : decode cX6_comes 107 = .ok (.getfield 47, 3) := by decide +kernel
theorem dX6_comes_110 : decode cX6_comes 110 = .ok (.iconst 5, 1) := by decide +kernel
theorem dX6_comes_111 : decode cX6_comes 111 = .ok (.iload 5, 2) := by decide +kernel
theorem dX6_comes_113 : decode cX6_comes 113 = .ok (.imul, 1) := by decide +kernel
theorem dX6_comes_114 : decode cX6_comes 114 = .ok (.iload 6, 2) := by decide +kernel
theorem dX6_comes_116 : decode cX6_comes 116 = .ok (.iadd, 1) := by decide +kernel
theorem dX6_comes_117 : decode cX6_comes 117 = .ok (.laload, 1) := by decide +kernel
theorem dX6_comes_118 : decode cX6_comes 118 = .ok (.l2i, 1) := by decide +kernel
theorem dX6_comes_119 : decode cX6_comes 119 = .ok (.iastore, 1) := by decide +kernel
theorem dX6_comes_120 : decode cX6_comes 120 = .ok (.iinc 6 1, 3) := by decide +kernel
theorem dX6_comes_123 : decode cX6_comes 123 = .ok (.goto (-36), 3) := by decide +kernel
theorem dX6_comes_126 : decode cX6_comes 126 = .ok (.iinc 5 1, 3) := by decide +kernel
theorem dX6_comes_129 : decode cX6_comes 129 = .ok (.goto (-56), 3) := by decide +kernel
theorem dX6_comes_132 : decode cX6_comes 132 = .ok (.iload 4, 2) := by decide +kernel
theorem dX6_comes_134 : decode cX6_comes 134 = .ok (.ireturn, 1) := by decide +kernel
theorem dX6_product_0 : decode cX6_product 0 = .ok (.aload_n 0, 1) := by decide +kernel
theorem dX6_product_1 : decode cX6_product 1 = .ok (.iload_n 1, 1) := by decide +kernel
theorem dX6_product_2 : decode cX6_product 2 = .ok (.invokevirtual 98, 3) := by decide +kernel
theorem dX6_product_5 : decode cX6_product 5 = .ok (.ifCond .eq 11, 3) := by decide +kernel
theorem dX6_product_8 : decode cX6_product 8 = .ok (.aload_n 0, 1) := by decide +kernel
theorem dX6_product_9 : decode cX6_product 9 = .ok (.iload_n 2, 1) := by decide +kernel
theorem dX6_product_10 : decode cX6_product 10 = .ok (.invokevirtual 98, 3) := by decide +kernel
theorem dX6_product_13 : decode cX6_product 13 = .ok (.ifCond .ne 10, 3) := by decide +kernel
theorem dX6_product_16 : decode cX6_product 16 = .ok (.aload_n 0, 1) := by decide +kernel
theorem dX6_product_17 : decode cX6_product 17 = .ok (.bipush (-3), 2) := by decide +kernel
theorem dX6_product_19 : decode cX6_product 19 = .ok (.invokevirtual 80, 3) := by decide +kernel
theorem dX6_product_22 : decode cX6_product 22 = .ok (.ireturn, 1) := by decide +kernel
theorem dX6_product_23 : decode cX6_product 23 = .ok (.aload_n 0, 1) := by decide +kernel
theorem dX6_product_24 : decode cX6_product 24 = .ok (.getfield 16, 3) := by decide +kernel
theorem dX6_product_27 : decode cX6_product 27 = .ok (.iload_n 1, 1) := by decide +kernel
theorem dX6_product_28 : decode cX6_product 28 = .ok (.iaload, 1) := by decide +kernel
theorem dX6_product_29 : decode cX6_product 29 = .ok (.aload_n 0, 1) := by decide +kernel
theorem dX6_product_30 : decode cX6_product 30 = .ok (.getfield 13, 3) := by decide +kernel
theorem dX6_product_33 : decode cX6_product 33 = .ok (.iload_n 2, 1) := by decide +kernel
theorem dX6_product_34 : decode cX6_product 34 = .ok (.iaload, 1) := by decide +kernel
theorem dX6_product_35 : decode cX6_product 35 = .ok (.if_icmp .eq 10, 3) := by decide +kernel
theorem dX6_product_38 : decode cX6_product 38 = .ok (.aload_n 0, 1) := by decide +kernel
theorem dX6_product_39 : decode cX6_product 39 = .ok (.bipush (-7), 2) := by decide +kernel
theorem dX6_product_41 : decode cX6_product 41 = .ok (.invokevirtual 80, 3) := by decide +kernel
theorem dX6_product_44 : decode cX6_product 44 = .ok (.ireturn, 1) := by decide +kernel
theorem dX6_product_45 : decode cX6_product 45 = .ok (.iconst 0, 1) := by decide +kernel
theorem dX6_product_46 : decode cX6_product 46 = .ok (.istore_n 3, 1) := by decide +kernel
theorem dX6_product_47 : decode cX6_product 47 = .ok (.iload_n 3, 1) := by decide +kernel
theorem dX6_product_48 : decode cX6_product 48 = .ok (.aload_n 0, 1) := by decide +kernel
theorem dX6_product_49 : decode cX6_product 49 = .ok (.getfield 13, 3) := by decide +kernel
theorem dX6_product_52 : decode cX6_product 52 = .ok (.iload_n 1, 1) := by decide +kernel
theorem dX6_product_53 : decode cX6_product 53 = .ok (.iaload, 1) := by decide +kernel
theorem dX6_product_54 : decode cX6_product 54 = .ok (.if_icmp .ge 98, 3) := by decide +kernel
theorem dX6_product_57 : decode cX6_product 57 = .ok (.iconst 0, 1) := by decide +kernel
theorem dX6_product_58 : decode cX6_product 58 = .ok (.istore 4, 2) := by decide +kernel
theorem dX6_product_60 : decode cX6_product 60 = .ok (.iload 4, 2) := by decide +kernel
theorem dX6_product_62 : decode cX6_product 62 = .ok (.aload_n 0, 1) := by decide +kernel
theorem dX6_product_63 : decode cX6_product 63 = .ok (.getfield 16, 3) := by decide +kernel
theorem dX6_product_66 : decode cX6_product 66 = .ok (.iload_n 2, 1) := by decide +kernel
theorem dX6_product_67 : decode cX6_product 67 = .ok (.iaload, 1) := by decide +kernel
theorem dX6_product_68 : decode cX6_product 68 = .ok (.if_icmp .ge 78, 3) := by decide +kernel
theorem dX6_product_71 : decode cX6_product 71 = .ok (.lconst 0, 1) := by decide +kernel
theorem dX6_product_72 : decode cX6_product 72 = .ok (.lstore 5, 2) := by decide +kernel
theorem dX6_product_74 : decode cX6_product 74 = .ok (.iconst 0, 1) := by decide +kernel
theorem dX6_product_75 : decode cX6_product 75 = .ok (.istore 7, 2) := by decide +kernel
theorem dX6_product_77 : decode cX6_product 77 = .ok (.iload 7, 2) := by decide +kernel
theorem dX6_product_79 : decode cX6_product 79 = .ok (.aload_n 0, 1) := by decide +kernel
theorem dX6_product_80 : decode cX6_product 80 = .ok (.getfield 13, 3) := by decide +kernel
theorem dX6_product_83 : decode cX6_product 83 = .ok (.iload_n 2, 1) := by decide +kernel
theorem dX6_product_84 : decode cX6_product 84 = .ok (.iaload, 1) := by decide +kernel
theorem dX6_product_85 : decode cX6_product 85 = .ok (.if_icmp .ge 42, 3) := by decide +kernel
theorem dX6_product_88 : decode cX6_product 88 = .ok (.lload 5, 2) := by decide +kernel
theorem dX6_product_90 : decode cX6_product 90 = .ok (.aload_n 0, 1) := by decide +kernel
theorem dX6_product_91 : decode cX6_product 91 = .ok (.getfield 7, 3) := by decide +kernel
theorem dX6_product_94 : decode cX6_product 94 = .ok (.iload_n 1, 1) := by decide +kernel
theorem dX6_product_95 : decode cX6_product 95 = .ok (.iload_n 3, 1) := by decide +kernel
theorem dX6_product_96 : decode cX6_product 96 = .ok (.iload 7, 2) := by decide +kernel
theorem dX6_product_98 : decode cX6_product 98 = .ok (.invokestatic 113, 3) := by decide +kernel
theorem dX6_product_101 : decode cX6_product 101 = .ok (.iaload, 1) := by decide +kernel
theorem dX6_product_102 : decode cX6_product 102 = .ok (.i2l, 1) := by decide +kernel
theorem dX6_product_103 : decode cX6_product 103 = .ok (.aload_n 0, 1) := by decide +kernel
theorem dX6_product_104 : decode cX6_product 104 = .ok (.getfield 7, 3) := by decide +kernel
theorem dX6_product_107 : decode cX6_product 107 = .ok (.iload_n 2, 1) := by decide +kernel
theorem dX6_product_108 : decode cX6_product 108 = .ok (.iload 7, 2) := by decide +kernel
theorem dX6_product_110 : decode cX6_product 110 = .ok (.iload 4, 2) := by decide +kernel
theorem dX6_product_112 : decode cX6_product 112 = .ok (.invokestatic 113, 3) := by decide +kernel
theorem dX6_product_115 : decode cX6_product 115 = .ok (.iaload, 1) := by decide +kernel
theorem dX6_product_116 : decode cX6_product 116 = .ok (.i2l, 1) := by decide +kernel
theorem dX6_product_117 : decode cX6_product 117 = .ok (.lmul, 1) := by decide +kernel
theorem dX6_product_118 : decode cX6_product 118 = .ok (.ladd, 1) := by decide +kernel
theorem dX6_product_119 : decode cX6_product 119 = .ok (.lstore 5, 2) := by decide +kernel
theorem dX6_product_121 : decode cX6_product 121 = .ok (.iinc 7 1, 3) := by decide +kernel
theorem dX6_product_124 : decode cX6_product 124 = .ok (.goto (-47), 3) := by decide +kernel
theorem dX6_product_127 : decode cX6_product 127 = .ok (.aload_n 0, 1) := by decide +kernel
theorem dX6_product_128 : decode cX6_product 128 = .ok (.getfield 47, 3) := by decide +kernel
theorem dX6_product_131 : decode cX6_product 131 = .ok (.iconst 5, 1) := by decide +kernel
theorem dX6_product_132 : decode cX6_product 132 = .ok (.iload_n 3, 1) := by decide +kernel
theorem dX6_product_133 : decode cX6_product 133 = .ok (.imul, 1) := by decide +kernel
theorem dX6_product_134 : decode cX6_product 134 = .ok (.iload 4, 2) := by decide +kernel
theorem dX6_product_136 : decode cX6_product 136 = .ok (.iadd, 1) := by decide +kernel
theorem dX6_product_137 : decode cX6_product 137 = .ok (.lload 5, 2) := by decide +kernel
theorem dX6_product_139 : decode cX6_product 139 = .ok (.lastore, 1) := by decide +kernel
theorem dX6_product_140 : decode cX6_product 140 = .ok (.iinc 4 1, 3) := by decide +kernel
theorem dX6_product_143 : decode cX6_product 143 = .ok (.goto (-83), 3) := by decide +kernel
theorem dX6_product_146 : decode cX6_product 146 = .ok (.iinc 3 1, 3) := by decide +kernel
theorem dX6_product_149 : decode cX6_product 149 = .ok (.goto (-102), 3) := by decide +kernel
theorem dX6_product_152 : decode cX6_product 152 = .ok (.aload_n 0, 1) := by decide +kernel
theorem dX6_product_153 : decode cX6_product 153 = .ok (.aload_n 0, 1) := by decide +kernel
theorem dX6_product_154 : decode cX6_product 154 = .ok (.getfield 13, 3) := by decide +kernel
theorem dX6_product_157 : decode cX6_product 157 = .ok (.iload_n 1, 1) := by decide +kernel
theorem dX6_product_158 : decode cX6_product 158 = .ok (.iaload, 1) := by decide +kernel
theorem dX6_product_159 : decode cX6_product 159 = .ok (.aload_n 0, 1) := by decide +kernel
theorem dX6_product_160 : decode cX6_product 160 = .ok (.getfield 16, 3) := by decide +kernel
theorem dX6_product_163 : decode cX6_product 163 = .ok (.iload_n 2, 1) := by decide +kernel
theorem dX6_product_164 : decode cX6_product 164 = .ok (.iaload, 1) := by decide +kernel
theorem dX6_product_165 : decode cX6_product 165 = .ok (.iconst 3, 1) := by decide +kernel
theorem dX6_product_166 : decode cX6_product 166 = .ok (.invokevirtual 160, 3) := by decide +kernel
theorem dX6_product_169 : decode cX6_product 169 = .ok (.ireturn, 1) := by decide +kernel
theorem dX6_areAlike_0 : decode cX6_areAlike 0 = .ok (.aload_n 0, 1) := by decide +kernel
theorem dX6_areAlike_1 : decode cX6_areAlike 1 = .ok (.getfield 13, 3) := by decide +kernel
theorem dX6_areAlike_4 : decode cX6_areAlike 4 = .ok (.iload_n 1, 1) := by decide +kernel
theorem dX6_areAlike_5 : decode cX6_areAlike 5 = .ok (.iaload, 1) := by decide +kernel
theorem dX6_areAlike_6 : decode cX6_areAlike 6 = .ok (.aload_n 0, 1) := by decide +kernel
theorem dX6_areAlike_7 : decode cX6_areAlike 7 = .ok (.getfield 13, 3) := by decide +kernel
theorem dX6_areAlike_10 : decode cX6_areAlike 10 = .ok (.iload_n 2, 1) := by decide +kernel
theorem dX6_areAlike_11 : decode cX6_areAlike 11 = .ok (.iaload, 1) := by decide +kernel
theorem dX6_areAlike_12 : decode cX6_areAlike 12 = .ok (.if_icmp .ne 22, 3) := by decide +kernel
theorem dX6_areAlike_15 : decode cX6_areAlike 15 = .ok (.aload_n 0, 1) := by decide +kernel
theorem dX6_areAlike_16 : decode cX6_areAlike 16 = .ok (.getfield 16, 3) := by decide +kernel
theorem dX6_areAlike_19 : decode cX6_areAlike 19 = .ok (.iload_n 1, 1) := by decide +kernel
theorem dX6_areAlike_20 : decode cX6_areAlike 20 = .ok (.iaload, 1) := by decide +kernel
theorem dX6_areAlike_21 : decode cX6_areAlike 21 = .ok (.aload_n 0, 1) := by decide +kernel
theorem dX6_areAlike_22 : decode cX6_areAlike 22 = .ok (.getfield 16, 3) := by decide +kernel
theorem dX6_areAlike_25 : decode cX6_areAlike 25 = .ok (.iload_n 2, 1) := by decide +kernel
theorem dX6_areAlike_26 : decode cX6_areAlike 26 = .ok (.iaload, 1) := by decide +kernel
theorem dX6_areAlike_27 : decode cX6_areAlike 27 = .ok (.if_icmp .ne 7, 3) := by decide +kernel
theorem dX6_areAlike_30 : decode cX6_areAlike 30 = .ok (.iconst 1, 1) := by decide +kernel
theorem dX6_areAlike_31 : decode cX6_areAlike 31 = .ok (.goto 4, 3) := by decide +kernel
theorem dX6_areAlike_34 : decode cX6_areAlike 34 = .ok (.iconst 0, 1) := by decide +kernel
theorem dX6_areAlike_35 : decode cX6_areAlike 35 = .ok (.ireturn, 1) := by decide +kernel
theorem dX6_sum_0 : decode cX6_sum 0 = .ok (.aload_n 0, 1) := by decide +kernel
theorem dX6_sum_1 : decode cX6_sum 1 = .ok (.iload_n 1, 1) := by decide +kernel
theorem dX6_sum_2 : decode cX6_sum 2 = .ok (.invokevirtual 98, 3) := by decide +kernel
theorem dX6_sum_5 : decode cX6_sum 5 = .ok (.ifCond .eq 11, 3) := by decide +kernel
theorem dX6_sum_8 : decode cX6_sum 8 = .ok (.aload_n 0, 1) := by decide +kernel
theorem dX6_sum_9 : decode cX6_sum 9 = .ok (.iload_n 2, 1) := by decide +kernel
theorem dX6_sum_10 : decode cX6_sum 10 = .ok (.invokevirtual 98, 3) := by decide +kernel
theorem dX6_sum_13 : decode cX6_sum 13 = .ok (.ifCond .ne 10, 3) := by decide +kernel
theorem dX6_sum_16 : decode cX6_sum 16 = .ok (.aload_n 0, 1) := by decide +kernel
theorem dX6_sum_17 : decode cX6_sum 17 = .ok (.bipush (-3), 2) := by decide +kernel
theorem dX6_sum_19 : decode cX6_sum 19 = .ok (.invokevirtual 80, 3) := by decide +kernel
theorem dX6_sum_22 : decode cX6_sum 22 = .ok (.ireturn, 1) := by decide +kernel
theorem dX6_sum_23 : decode cX6_sum 23 = .ok (.aload_n 0, 1) := by decide +kernel
theorem dX6_sum_24 : decode cX6_sum 24 = .ok (.iload_n 1, 1) := by decide +kernel
theorem dX6_sum_25 : decode cX6_sum 25 = .ok (.iload_n 2, 1) := by decide +kernel
theorem dX6_sum_26 : decode cX6_sum 26 = .ok (.invokevirtual 163, 3) := by decide +kernel
theorem dX6_sum_29 : decode cX6_sum 29 = .ok (.ifCond .ne 10, 3) := by decide +kernel
theorem dX6_sum_32 : decode cX6_sum 32 = .ok (.aload_n 0, 1) := by decide +kernel
theorem dX6_sum_33 : decode cX6_sum 33 = .ok (.bipush (-7), 2) := by decide +kernel
theorem dX6_sum_35 : decode cX6_sum 35 = .ok (.invokevirtual 80, 3) := by decide +kernel
theorem dX6_sum_38 : decode cX6_sum 38 = .ok (.ireturn, 1) := by decide +kernel
theorem dX6_sum_39 : decode cX6_sum 39 = .ok (.iconst 0, 1) := by decide +kernel
theorem dX6_sum_40 : decode cX6_sum 40 = .ok (.istore_n 3, 1) := by decide +kernel
theorem dX6_sum_41 : decode cX6_sum 41 = .ok (.iload_n 3, 1) := by decide +kernel
theorem dX6_sum_42 : decode cX6_sum 42 = .ok (.bipush 25, 2) := by decide +kernel
theorem dX6_sum_44 : decode cX6_sum 44 = .ok (.if_icmp .ge 39, 3) := by decide +kernel
theorem dX6_sum_47 : decode cX6_sum 47 = .ok (.aload_n 0, 1) := by decide +kernel
theorem dX6_sum_48 : decode cX6_sum 48 = .ok (.getfield 47, 3) := by decide +kernel
theorem dX6_sum_51 : decode cX6_sum 51 = .ok (.iload_n 3, 1) := by decide +kernel
theorem dX6_sum_52 : decode cX6_sum 52 = .ok (.aload_n 0, 1) := by decide +kernel
theorem dX6_sum_53 : decode cX6_sum 53 = .ok (.getfield 7, 3) := by decide +kernel
theorem dX6_sum_56 : decode cX6_sum 56 = .ok (.bipush 25, 2) := by decide +kernel
theorem dX6_sum_58 : decode cX6_sum 58 = .ok (.iload_n 1, 1) := by decide +kernel
theorem dX6_sum_59 : decode cX6_sum 59 = .ok (.imul, 1) := by decide +kernel
theorem dX6_sum_60 : decode cX6_sum 60 = .ok (.iload_n 3, 1) := by decide +kernel
theorem dX6_sum_61 : decode cX6_sum 61 = .ok (.iadd, 1) := by decide +kernel
theorem dX6_sum_62 : decode cX6_sum 62 = .ok (.iaload, 1) := by decide +kernel
theorem dX6_sum_63 : decode cX6_sum 63 = .ok (.aload_n 0, 1) := by decide +kernel
theorem dX6_sum_64 : decode cX6_sum 64 = .ok (.getfield 7, 3) := by decide +kernel
theorem dX6_sum_67 : decode cX6_sum 67 = .ok (.bipush 25, 2) := by decide +kernel
theorem dX6_sum_69 : decode cX6_sum 69 = .ok (.iload_n 2, 1) := by decide +kernel
theorem dX6_sum_70 : decode cX6_sum 70 = .ok (.imul, 1) := by decide +kernel
theorem dX6_sum_71 : decode cX6_sum 71 = .ok (.iload_n 3, 1) := by decide +kernel
theorem dX6_sum_72 : decode cX6_sum 72 = .ok (.iadd, 1) := by decide +kernel
theorem dX6_sum_73 : decode cX6_sum 73 = .ok (.iaload, 1) := by decide +kernel
theorem dX6_sum_74 : decode cX6_sum 74 = .ok (.iadd, 1) := by decide +kernel
theorem dX6_sum_75 : decode cX6_sum 75 = .ok (.i2l, 1) := by decide +kernel
theorem dX6_sum_76 : decode cX6_sum 76 = .ok (.lastore, 1) := by decide +kernel
theorem dX6_sum_77 : decode cX6_sum 77 = .ok (.iinc 3 1, 3) := by decide +kernel
theorem dX6_sum_80 : decode cX6_sum 80 = .ok (.goto (-39), 3) := by decide +kernel
theorem dX6_sum_83 : decode cX6_sum 83 = .ok (.aload_n 0, 1) := by decide +kernel
theorem dX6_sum_84 : decode cX6_sum 84 = .ok (.aload_n 0, 1) := by decide +kernel
theorem dX6_sum_85 : decode cX6_sum 85 = .ok (.getfield 13, 3) := by decide +kernel
theorem dX6_sum_88 : decode cX6_sum 88 = .ok (.iload_n 1, 1) := by decide +kernel
theorem dX6_sum_89 : decode cX6_sum 89 = .ok (.iaload, 1) := by decide +kernel
theorem dX6_sum_90 : decode cX6_sum 90 = .ok (.aload_n 0, 1) := by decide +kernel
theorem dX6_sum_91 : decode cX6_sum 91 = .ok (.getfield 16, 3) := by decide +kernel
theorem dX6_sum_94 : decode cX6_sum 94 = .ok (.iload_n 1, 1) := by decide +kernel
theorem dX6_sum_95 : decode cX6_sum 95 = .ok (.iaload, 1) := by decide +kernel
theorem dX6_sum_96 : decode cX6_sum 96 = .ok (.iconst 3, 1) := by decide +kernel
theorem dX6_sum_97 : decode cX6_sum 97 = .ok (.invokevirtual 160, 3) := by decide +kernel
theorem dX6_sum_100 : decode cX6_sum 100 = .ok (.ireturn, 1) := by decide +kernel
theorem dX6_part_0 : decode cX6_part 0 = .ok (.aload_n 0, 1) := by decide +kernel
theorem dX6_part_1 : decode cX6_part 1 = .ok (.iload_n 1, 1) := by decide +kernel
theorem dX6_part_2 : decode cX6_part 2 = .ok (.invokevirtual 98, 3) := by decide +kernel
theorem dX6_part_5 : decode cX6_part 5 = .ok (.ifCond .eq 29, 3) := by decide +kernel
theorem dX6_part_8 : decode cX6_part 8 = .ok (.iload_n 2, 1) := by decide +kernel
theorem dX6_part_9 : decode cX6_part 9 = .ok (.aload_n 0, 1) := by decide +kernel
theorem dX6_part_10 : decode cX6_part 10 = .ok (.getfield 13, 3) := by decide +kernel
theorem dX6_part_13 : decode cX6_part 13 = .ok (.iload_n 1, 1) := by decide +kernel
theorem dX6_part_14 : decode cX6_part 14 = .ok (.iaload, 1) := by decide +kernel
theorem dX6_part_15 : decode cX6_part 15 = .ok (.invokestatic 119, 3) := by decide +kernel
theorem dX6_part_18 : decode cX6_part 18 = .ok (.ifCond .eq 16, 3) := by decide +kernel
theorem dX6_part_21 : decode cX6_part 21 = .ok (.iload_n 3, 1) := by decide +kernel
theorem dX6_part_22 : decode cX6_part 22 = .ok (.aload_n 0, 1) := by decide +kernel
theorem dX6_part_23 : decode cX6_part 23 = .ok (.getfield 16, 3) := by decide +kernel
theorem dX6_part_26 : decode cX6_part 26 = .ok (.iload_n 1, 1) := by decide +kernel
theorem dX6_part_27 : decode cX6_part 27 = .ok (.iaload, 1) := by decide +kernel
theorem dX6_part_28 : decode cX6_part 28 = .ok (.invokestatic 119, 3) := by decide +kernel
theorem dX6_part_31 : decode cX6_part 31 = .ok (.ifCond .ne 10, 3) := by decide +kernel
theorem dX6_part_34 : decode cX6_part 34 = .ok (.aload_n 0, 1) := by decide +kernel
theorem dX6_part_35 : decode cX6_part 35 = .ok (.bipush (-3), 2) := by decide +kernel
theorem dX6_part_37 : decode cX6_part 37 = .ok (.invokevirtual 80, 3) := by decide +kernel
theorem dX6_part_40 : decode cX6_part 40 = .ok (.ireturn, 1) := by decide +kernel
theorem dX6_part_41 : decode cX6_part 41 = .ok (.iconst 0, 1) := by decide +kernel
theorem dX6_part_42 : decode cX6_part 42 = .ok (.istore 4, 2) := by decide +kernel
theorem dX6_part_44 : decode cX6_part 44 = .ok (.iconst 0, 1) := by decide +kernel
theorem dX6_part_45 : decode cX6_part 45 = .ok (.istore 5, 2) := by decide +kernel
theorem dX6_part_47 : decode cX6_part 47 = .ok (.iload 5, 2) := by decide +kernel
theorem dX6_part_49 : decode cX6_part 49 = .ok (.iconst 5, 1) := by decide +kernel
theorem dX6_part_50 : decode cX6_part 50 = .ok (.if_icmp .ge 83, 3) := by decide +kernel
theorem dX6_part_53 : decode cX6_part 53 = .ok (.iload_n 2, 1) := by decide +kernel
theorem dX6_part_54 : decode cX6_part 54 = .ok (.iload 5, 2) := by decide +kernel
theorem dX6_part_56 : decode cX6_part 56 = .ok (.ishr, 1) := by decide +kernel
theorem dX6_part_57 : decode cX6_part 57 = .ok (.iconst 1, 1) := by decide +kernel
theorem dX6_part_58 : decode cX6_part 58 = .ok (.iand, 1) := by decide +kernel
theorem dX6_part_59 : decode cX6_part 59 = .ok (.ifCond .ne 6, 3) := by decide +kernel
theorem dX6_part_62 : decode cX6_part 62 = .ok (.goto 65, 3) := by decide +kernel
theorem dX6_part_65 : decode cX6_part 65 = .ok (.iconst 0, 1) := by decide +kernel
theorem dX6_part_66 : decode cX6_part 66 = .ok (.istore 6, 2) := by decide +kernel
theorem dX6_part_68 : decode cX6_part 68 = .ok (.iconst 0, 1) := by decide +kernel
theorem dX6_part_69 : decode cX6_part 69 = .ok (.istore 7, 2) := by decide +kernel
theorem dX6_part_71 : decode cX6_part 71 = .ok (.iload 7, 2) := by decide +kernel
theorem dX6_part_73 : decode cX6_part 73 = .ok (.iconst 5, 1) := by decide +kernel
theorem dX6_part_74 : decode cX6_part 74 = .ok (.if_icmp .ge 50, 3) := by decide +kernel
theorem dX6_part_77 : decode cX6_part 77 = .ok (.iload_n 3, 1) := by decide +kernel
theorem dX6_part_78 : decode cX6_part 78 = .ok (.iload 7, 2) := by decide +kernel
theorem dX6_part_80 : decode cX6_part 80 = .ok (.ishr, 1) := by decide +kernel
theorem dX6_part_81 : decode cX6_part 81 = .ok (.iconst 1, 1) := by decide +kernel
theorem dX6_part_82 : decode cX6_part 82 = .ok (.iand, 1) := by decide +kernel
theorem dX6_part_83 : decode cX6_part 83 = .ok (.ifCond .ne 6, 3) := by decide +kernel
theorem dX6_part_86 : decode cX6_part 86 = .ok (.goto 32, 3) := by decide +kernel
theorem dX6_part_89 : decode cX6_part 89 = .ok (.aload_n 0, 1) := by decide +kernel
theorem dX6_part_90 : decode cX6_part 90 = .ok (.getfield 47, 3) := by decide +kernel
theorem dX6_part_93 : decode cX6_part 93 = .ok (.iconst 5, 1) := by decide +kernel
theorem dX6_part_94 : decode cX6_part 94 = .ok (.iload 4, 2) := by decide +kernel
theorem dX6_part_96 : decode cX6_part 96 = .ok (.imul, 1) := by decide +kernel
theorem dX6_part_97 : decode cX6_part 97 = .ok (.iload 6, 2) := by decide +kernel
theorem dX6_part_99 : decode cX6_part 99 = .ok (.iadd, 1) := by decide +kernel
theorem dX6_part_100 : decode cX6_part 100 = .ok (.aload_n 0, 1) := by decide +kernel
theorem dX6_part_101 : decode cX6_part 101 = .ok (.getfield 7, 3) := by decide +kernel
theorem dX6_part_104 : decode cX6_part 104 = .ok (.iload_n 1, 1) := by decide +kernel
theorem dX6_part_105 : decode cX6_part 105 = .ok (.iload 5, 2) := by decide +kernel
theorem dX6_part_107 : decode cX6_part 107 = .ok (.iload 7, 2) := by decide +kernel
theorem dX6_part_109 : decode cX6_part 109 = .ok (.invokestatic 113, 3) := by decide +kernel
theorem dX6_part_112 : decode cX6_part 112 = .ok (.iaload, 1) := by decide +kernel
theorem dX6_part_113 : decode cX6_part 113 = .ok (.i2l, 1) := by decide +kernel
theorem dX6_part_114 : decode cX6_part 114 = .ok (.lastore, 1) := by decide +kernel
theorem dX6_part_115 : decode cX6_part 115 = .ok (.iinc 6 1, 3) := by decide +kernel
theorem dX6_part_118 : decode cX6_part 118 = .ok (.iinc 7 1, 3) := by decide +kernel
theorem dX6_part_121 : decode cX6_part 121 = .ok (.goto (-50), 3) := by decide +kernel
theorem dX6_part_124 : decode cX6_part 124 = .ok (.iinc 4 1, 3) := by decide +kernel
theorem dX6_part_127 : decode cX6_part 127 = .ok (.iinc 5 1, 3) := by decide +kernel
theorem dX6_part_130 : decode cX6_part 130 = .ok (.goto (-83), 3) := by decide +kernel
theorem dX6_part_133 : decode cX6_part 133 = .ok (.aload_n 0, 1) := by decide +kernel
theorem dX6_part_134 : decode cX6_part 134 = .ok (.iload 4, 2) := by decide +kernel
theorem dX6_part_136 : decode cX6_part 136 = .ok (.iload_n 3, 1) := by decide +kernel
theorem dX6_part_137 : decode cX6_part 137 = .ok (.invokestatic 116, 3) := by decide +kernel
theorem dX6_part_140 : decode cX6_part 140 = .ok (.iconst 3, 1) := by decide +kernel
theorem dX6_part_141 : decode cX6_part 141 = .ok (.invokevirtual 160, 3) := by decide +kernel
theorem dX6_part_144 : decode cX6_part 144 = .ok (.ireturn, 1) := by decide +kernel
theorem dX6_turn_0 : decode cX6_turn 0 = .ok (.aload_n 0, 1) := by decide +kernel
theorem dX6_turn_1 : decode cX6_turn 1 = .ok (.iload_n 1, 1) := by decide +kernel
theorem dX6_turn_2 : decode cX6_turn 2 = .ok (.invokevirtual 98, 3) := by decide +kernel
theorem dX6_turn_5 : decode cX6_turn 5 = .ok (.ifCond .ne 10, 3) := by decide +kernel
theorem dX6_turn_8 : decode cX6_turn 8 = .ok (.aload_n 0, 1) := by decide +kernel
theorem dX6_turn_9 : decode cX6_turn 9 = .ok (.bipush (-3), 2) := by decide +kernel
theorem dX6_turn_11 : decode cX6_turn 11 = .ok (.invokevirtual 80, 3) := by decide +kernel
theorem dX6_turn_14 : decode cX6_turn 14 = .ok (.ireturn, 1) := by decide +kernel
theorem dX6_turn_15 : decode cX6_turn 15 = .ok (.iload_n 2, 1) := by decide +kernel
theorem dX6_turn_16 : decode cX6_turn 16 = .ok (.i2l, 1) := by decide +kernel
theorem dX6_turn_17 : decode cX6_turn 17 = .ok (.lconst 0, 1) := by decide +kernel
theorem dX6_turn_18 : decode cX6_turn 18 = .ok (.ldc2_w 166, 3) := by decide +kernel
theorem dX6_turn_21 : decode cX6_turn 21 = .ok (.invokestatic 90, 3) := by decide +kernel
theorem dX6_turn_24 : decode cX6_turn 24 = .ok (.ifCond .ne 10, 3) := by decide +kernel
theorem dX6_turn_27 : decode cX6_turn 27 = .ok (.aload_n 0, 1) := by decide +kernel
theorem dX6_turn_28 : decode cX6_turn 28 = .ok (.bipush (-7), 2) := by decide +kernel
theorem dX6_turn_30 : decode cX6_turn 30 = .ok (.invokevirtual 80, 3) := by decide +kernel
theorem dX6_turn_33 : decode cX6_turn 33 = .ok (.ireturn, 1) := by decide +kernel
theorem dX6_turn_34 : decode cX6_turn 34 = .ok (.iload_n 2, 1) := by decide +kernel
theorem dX6_turn_35 : decode cX6_turn 35 = .ok (.ifCond .ne 12, 3) := by decide +kernel
theorem dX6_turn_38 : decode cX6_turn 38 = .ok (.aload_n 0, 1) := by decide +kernel
theorem dX6_turn_39 : decode cX6_turn 39 = .ok (.getfield 16, 3) := by decide +kernel
theorem dX6_turn_42 : decode cX6_turn 42 = .ok (.iload_n 1, 1) := by decide +kernel
theorem dX6_turn_43 : decode cX6_turn 43 = .ok (.iaload, 1) := by decide +kernel
theorem dX6_turn_44 : decode cX6_turn 44 = .ok (.goto 9, 3) := by decide +kernel
theorem dX6_turn_47 : decode cX6_turn 47 = .ok (.aload_n 0, 1) := by decide +kernel
theorem dX6_turn_48 : decode cX6_turn 48 = .ok (.getfield 13, 3) := by decide +kernel
theorem dX6_turn_51 : decode cX6_turn 51 = .ok (.iload_n 1, 1) := by decide +kernel
theorem dX6_turn_52 : decode cX6_turn 52 = .ok (.iaload, 1) := by decide +kernel
theorem dX6_turn_53 : decode cX6_turn 53 = .ok (.istore_n 3, 1) := by decide +kernel
theorem dX6_turn_54 : decode cX6_turn 54 = .ok (.iload_n 2, 1) := by decide +kernel
theorem dX6_turn_55 : decode cX6_turn 55 = .ok (.ifCond .ne 12, 3) := by decide +kernel
theorem dX6_turn_58 : decode cX6_turn 58 = .ok (.aload_n 0, 1) := by decide +kernel
theorem dX6_turn_59 : decode cX6_turn 59 = .ok (.getfield 13, 3) := by decide +kernel
theorem dX6_turn_62 : decode cX6_turn 62 = .ok (.iload_n 1, 1) := by decide +kernel
theorem dX6_turn_63 : decode cX6_turn 63 = .ok (.iaload, 1) := by decide +kernel
theorem dX6_turn_64 : decode cX6_turn 64 = .ok (.goto 9, 3) := by decide +kernel
theorem dX6_turn_67 : decode cX6_turn 67 = .ok (.aload_n 0, 1) := by decide +kernel
theorem dX6_turn_68 : decode cX6_turn 68 = .ok (.getfield 16, 3) := by decide +kernel
theorem dX6_turn_71 : decode cX6_turn 71 = .ok (.iload_n 1, 1) := by decide +kernel
theorem dX6_turn_72 : decode cX6_turn 72 = .ok (.iaload, 1) := by decide +kernel
theorem dX6_turn_73 : decode cX6_turn 73 = .ok (.istore 4, 2) := by decide +kernel
theorem dX6_turn_75 : decode cX6_turn 75 = .ok (.iconst 0, 1) := by decide +kernel
theorem dX6_turn_76 : decode cX6_turn 76 = .ok (.istore 5, 2) := by decide +kernel
theorem dX6_turn_78 : decode cX6_turn 78 = .ok (.iload 5, 2) := by decide +kernel
theorem dX6_turn_80 : decode cX6_turn 80 = .ok (.iload_n 3, 1) := by decide +kernel
theorem dX6_turn_81 : decode cX6_turn 81 = .ok (.if_icmp .ge 96, 3) := by decide +kernel
theorem dX6_turn_84 : decode cX6_turn 84 = .ok (.iconst 0, 1) := by decide +kernel
theorem dX6_turn_85 : decode cX6_turn 85 = .ok (.istore 6, 2) := by decide +kernel
theorem dX6_turn_87 : decode cX6_turn 87 = .ok (.iload 6, 2) := by decide +kernel
theorem dX6_turn_89 : decode cX6_turn 89 = .ok (.iload 4, 2) := by decide +kernel
theorem dX6_turn_91 : decode cX6_turn 91 = .ok (.if_icmp .ge 80, 3) := by decide +kernel
theorem dX6_turn_94 : decode cX6_turn 94 = .ok (.iload_n 2, 1) := by decide +kernel
theorem dX6_turn_95 : decode cX6_turn 95 = .ok (.ifCond .ne 8, 3) := by decide +kernel
theorem dX6_turn_98 : decode cX6_turn 98 = .ok (.iload 6, 2) := by decide +kernel
theorem dX6_turn_100 : decode cX6_turn 100 = .ok (.goto 9, 3) := by decide +kernel
theorem dX6_turn_103 : decode cX6_turn 103 = .ok (.iload_n 3, 1) := by decide +kernel
theorem dX6_turn_104 : decode cX6_turn 104 = .ok (.iconst 1, 1) := by decide +kernel
theorem dX6_turn_105 : decode cX6_turn 105 = .ok (.isub, 1) := by decide +kernel
theorem dX6_turn_106 : decode cX6_turn 106 = .ok (.iload 5, 2) := by decide +kernel
theorem dX6_turn_108 : decode cX6_turn 108 = .ok (.isub, 1) := by decide +kernel
theorem dX6_turn_109 : decode cX6_turn 109 = .ok (.istore 7, 2) := by decide +kernel
theorem dX6_turn_111 : decode cX6_turn 111 = .ok (.iload_n 2, 1) := by decide +kernel
theorem dX6_turn_112 : decode cX6_turn 112 = .ok (.ifCond .ne 8, 3) := by decide +kernel
theorem dX6_turn_115 : decode cX6_turn 115 = .ok (.iload 5, 2) := by decide +kernel
theorem dX6_turn_117 : decode cX6_turn 117 = .ok (.goto 20, 3) := by decide +kernel
theorem dX6_turn_120 : decode cX6_turn 120 = .ok (.iload_n 2, 1) := by decide +kernel
theorem dX6_turn_121 : decode cX6_turn 121 = .ok (.iconst 1, 1) := by decide +kernel
theorem dX6_turn_122 : decode cX6_turn 122 = .ok (.if_icmp .ne 13, 3) := by decide +kernel
theorem dX6_turn_125 : decode cX6_turn 125 = .ok (.iload 4, 2) := by decide +kernel
theorem dX6_turn_127 : decode cX6_turn 127 = .ok (.iconst 1, 1) := by decide +kernel
theorem dX6_turn_128 : decode cX6_turn 128 = .ok (.isub, 1) := by decide +kernel
theorem dX6_turn_129 : decode cX6_turn 129 = .ok (.iload 6, 2) := by decide +kernel
theorem dX6_turn_131 : decode cX6_turn 131 = .ok (.isub, 1) := by decide +kernel
theorem dX6_turn_132 : decode cX6_turn 132 = .ok (.goto 5, 3) := by decide +kernel
theorem dX6_turn_135 : decode cX6_turn 135 = .ok (.iload 6, 2) := by decide +kernel
theorem dX6_turn_137 : decode cX6_turn 137 = .ok (.istore 8, 2) := by decide +kernel
theorem dX6_turn_139 : decode cX6_turn 139 = .ok (.aload_n 0, 1) := by decide +kernel
theorem dX6_turn_140 : decode cX6_turn 140 = .ok (.getfield 47, 3) := by decide +kernel
theorem dX6_turn_143 : decode cX6_turn 143 = .ok (.iconst 5, 1) := by decide +kernel
theorem dX6_turn_144 : decode cX6_turn 144 = .ok (.iload 5, 2) := by decide +kernel
theorem dX6_turn_146 : decode cX6_turn 146 = .ok (.imul, 1) := by decide +kernel
theorem dX6_turn_147 : decode cX6_turn 147 = .ok (.iload 6, 2) := by decide +kernel
theorem dX6_turn_149 : decode cX6_turn 149 = .ok (.iadd, 1) := by decide +kernel
theorem dX6_turn_150 : decode cX6_turn 150 = .ok (.aload_n 0, 1) := by decide +kernel
theorem dX6_turn_151 : decode cX6_turn 151 = .ok (.getfield 7, 3) := by decide +kernel
theorem dX6_turn_154 : decode cX6_turn 154 = .ok (.iload_n 1, 1) := by decide +kernel
theorem dX6_turn_155 : decode cX6_turn 155 = .ok (.iload 7, 2) := by decide +kernel
theorem dX6_turn_157 : decode cX6_turn 157 = .ok (.iload 8, 2) := by decide +kernel
theorem dX6_turn_159 : decode cX6_turn 159 = .ok (.invokestatic 113, 3) := by decide +kernel
theorem dX6_turn_162 : decode cX6_turn 162 = .ok (.iaload, 1) := by decide +kernel
theorem dX6_turn_163 : decode cX6_turn 163 = .ok (.i2l, 1) := by decide +kernel
theorem dX6_turn_164 : decode cX6_turn 164 = .ok (.lastore, 1) := by decide +kernel
theorem dX6_turn_165 : decode cX6_turn 165 = .ok (.iinc 6 1, 3) := by decide +kernel
theorem dX6_turn_168 : decode cX6_turn 168 = .ok (.goto (-81), 3) := by decide +kernel
theorem dX6_turn_171 : decode cX6_turn 171 = .ok (.iinc 5 1, 3) := by decide +kernel
theorem dX6_turn_174 : decode cX6_turn 174 = .ok (.goto (-96), 3) := by decide +kernel
theorem dX6_turn_177 : decode cX6_turn 177 = .ok (.aload_n 0, 1) := by decide +kernel
theorem dX6_turn_178 : decode cX6_turn 178 = .ok (.iload_n 3, 1) := by decide +kernel
theorem dX6_turn_179 : decode cX6_turn 179 = .ok (.iload 4, 2) := by decide +kernel
theorem dX6_turn_181 : decode cX6_turn 181 = .ok (.iconst 3, 1) := by decide +kernel
theorem dX6_turn_182 : decode cX6_turn 182 = .ok (.invokevirtual 160, 3) := by decide +kernel
theorem dX6_turn_185 : decode cX6_turn 185 = .ok (.ireturn, 1) := by decide +kernel
theorem dX6_same_0 : decode cX6_same 0 = .ok (.aload_n 0, 1) := by decide +kernel
theorem dX6_same_1 : decode cX6_same 1 = .ok (.iload_n 1, 1) := by decide +kernel
theorem dX6_same_2 : decode cX6_same 2 = .ok (.invokevirtual 98, 3) := by decide +kernel
theorem dX6_same_5 : decode cX6_same 5 = .ok (.ifCond .eq 11, 3) := by decide +kernel
theorem dX6_same_8 : decode cX6_same 8 = .ok (.aload_n 0, 1) := by decide +kernel
theorem dX6_same_9 : decode cX6_same 9 = .ok (.iload_n 2, 1) := by decide +kernel
theorem dX6_same_10 : decode cX6_same 10 = .ok (.invokevirtual 98, 3) := by decide +kernel
theorem dX6_same_13 : decode cX6_same 13 = .ok (.ifCond .ne 10, 3) := by decide +kernel
theorem dX6_same_16 : decode cX6_same 16 = .ok (.aload_n 0, 1) := by decide +kernel
theorem dX6_same_17 : decode cX6_same 17 = .ok (.bipush (-3), 2) := by decide +kernel
theorem dX6_same_19 : decode cX6_same 19 = .ok (.invokevirtual 80, 3) := by decide +kernel
theorem dX6_same_22 : decode cX6_same 22 = .ok (.ireturn, 1) := by decide +kernel
theorem dX6_same_23 : decode cX6_same 23 = .ok (.aload_n 0, 1) := by decide +kernel
theorem dX6_same_24 : decode cX6_same 24 = .ok (.iload_n 1, 1) := by decide +kernel
theorem dX6_same_25 : decode cX6_same 25 = .ok (.iload_n 2, 1) := by decide +kernel
theorem dX6_same_26 : decode cX6_same 26 = .ok (.invokevirtual 163, 3) := by decide +kernel
theorem dX6_same_29 : decode cX6_same 29 = .ok (.istore_n 3, 1) := by decide +kernel
theorem dX6_same_30 : decode cX6_same 30 = .ok (.iconst 0, 1) := by decide +kernel
theorem dX6_same_31 : decode cX6_same 31 = .ok (.istore 4, 2) := by decide +kernel
theorem dX6_same_33 : decode cX6_same 33 = .ok (.iload 4, 2) := by decide +kernel
theorem dX6_same_35 : decode cX6_same 35 = .ok (.bipush 25, 2) := by decide +kernel
theorem dX6_same_37 : decode cX6_same 37 = .ok (.if_icmp .ge 46, 3) := by decide +kernel
theorem dX6_same_40 : decode cX6_same 40 = .ok (.iload_n 3, 1) := by decide +kernel
theorem dX6_same_41 : decode cX6_same 41 = .ok (.ifCond .eq 34, 3) := by decide +kernel
theorem dX6_same_44 : decode cX6_same 44 = .ok (.aload_n 0, 1) := by decide +kernel
theorem dX6_same_45 : decode cX6_same 45 = .ok (.getfield 7, 3) := by decide +kernel
theorem dX6_same_48 : decode cX6_same 48 = .ok (.bipush 25, 2) := by decide +kernel
theorem dX6_same_50 : decode cX6_same 50 = .ok (.iload_n 1, 1) := by decide +kernel
theorem dX6_same_51 : decode cX6_same 51 = .ok (.imul, 1) := by decide +kernel
theorem dX6_same_52 : decode cX6_same 52 = .ok (.iload 4, 2) := by decide +kernel
theorem dX6_same_54 : decode cX6_same 54 = .ok (.iadd, 1) := by decide +kernel
theorem dX6_same_55 : decode cX6_same 55 = .ok (.iaload, 1) := by decide +kernel
theorem dX6_same_56 : decode cX6_same 56 = .ok (.aload_n 0, 1) := by decide +kernel
theorem dX6_same_57 : decode cX6_same 57 = .ok (.getfield 7, 3) := by decide +kernel
theorem dX6_same_60 : decode cX6_same 60 = .ok (.bipush 25, 2) := by decide +kernel
theorem dX6_same_62 : decode cX6_same 62 = .ok (.iload_n 2, 1) := by decide +kernel
theorem dX6_same_63 : decode cX6_same 63 = .ok (.imul, 1) := by decide +kernel
theorem dX6_same_64 : decode cX6_same 64 = .ok (.iload 4, 2) := by decide +kernel
theorem dX6_same_66 : decode cX6_same 66 = .ok (.iadd, 1) := by decide +kernel
theorem dX6_same_67 : decode cX6_same 67 = .ok (.iaload, 1) := by decide +kernel
theorem dX6_same_68 : decode cX6_same 68 = .ok (.if_icmp .ne 7, 3) := by decide +kernel
theorem dX6_same_71 : decode cX6_same 71 = .ok (.iconst 1, 1) := by decide +kernel
theorem dX6_same_72 : decode cX6_same 72 = .ok (.goto 4, 3) := by decide +kernel
theorem dX6_same_75 : decode cX6_same 75 = .ok (.iconst 0, 1) := by decide +kernel
theorem dX6_same_76 : decode cX6_same 76 = .ok (.istore_n 3, 1) := by decide +kernel
theorem dX6_same_77 : decode cX6_same 77 = .ok (.iinc 4 1, 3) := by decide +kernel
theorem dX6_same_80 : decode cX6_same 80 = .ok (.goto (-47), 3) := by decide +kernel
theorem dX6_same_83 : decode cX6_same 83 = .ok (.iload_n 3, 1) := by decide +kernel
theorem dX6_same_84 : decode cX6_same 84 = .ok (.ifCond .eq 7, 3) := by decide +kernel
theorem dX6_same_87 : decode cX6_same 87 = .ok (.iconst 1, 1) := by decide +kernel
theorem dX6_same_88 : decode cX6_same 88 = .ok (.goto 4, 3) := by decide +kernel
theorem dX6_same_91 : decode cX6_same 91 = .ok (.iconst 0, 1) := by decide +kernel
theorem dX6_same_92 : decode cX6_same 92 = .ok (.ireturn, 1) := by decide +kernel
theorem dX6_isNet_0 : decode cX6_isNet 0 = .ok (.iload_n 1, 1) := by decide +kernel
theorem dX6_isNet_1 : decode cX6_isNet 1 = .ok (.ifCond .lt 15, 3) := by decide +kernel
theorem dX6_isNet_4 : decode cX6_isNet 4 = .ok (.iload_n 1, 1) := by decide +kernel
theorem dX6_isNet_5 : decode cX6_isNet 5 = .ok (.aload_n 0, 1) := by decide +kernel
theorem dX6_isNet_6 : decode cX6_isNet 6 = .ok (.getfield 168, 3) := by decide +kernel
theorem dX6_isNet_9 : decode cX6_isNet 9 = .ok (.if_icmp .ge 7, 3) := by decide +kernel
theorem dX6_isNet_12 : decode cX6_isNet 12 = .ok (.iconst 1, 1) := by decide +kernel
theorem dX6_isNet_13 : decode cX6_isNet 13 = .ok (.goto 4, 3) := by decide +kernel
theorem dX6_isNet_16 : decode cX6_isNet 16 = .ok (.iconst 0, 1) := by decide +kernel
theorem dX6_isNet_17 : decode cX6_isNet 17 = .ok (.ireturn, 1) := by decide +kernel
theorem dX6_net_0 : decode cX6_net 0 = .ok (.iload_n 1, 1) := by decide +kernel
theorem dX6_net_1 : decode cX6_net 1 = .ok (.i2l, 1) := by decide +kernel
theorem dX6_net_2 : decode cX6_net 2 = .ok (.lconst 1, 1) := by decide +kernel
theorem dX6_net_3 : decode cX6_net 3 = .ok (.ldc2_w 88, 3) := by decide +kernel
theorem dX6_net_6 : decode cX6_net 6 = .ok (.invokestatic 90, 3) := by decide +kernel
theorem dX6_net_9 : decode cX6_net 9 = .ok (.ifCond .ne 10, 3) := by decide +kernel
theorem dX6_net_12 : decode cX6_net 12 = .ok (.aload_n 0, 1) := by decide +kernel
theorem dX6_net_13 : decode cX6_net 13 = .ok (.bipush (-7), 2) := by decide +kernel
theorem dX6_net_15 : decode cX6_net 15 = .ok (.invokevirtual 80, 3) := by decide +kernel
theorem dX6_net_18 : decode cX6_net 18 = .ok (.ireturn, 1) := by decide +kernel
theorem dX6_net_19 : decode cX6_net 19 = .ok (.aload_n 0, 1) := by decide +kernel
theorem dX6_net_20 : decode cX6_net 20 = .ok (.getfield 168, 3) := by decide +kernel
theorem dX6_net_23 : decode cX6_net 23 = .ok (.iconst 4, 1) := by decide +kernel
theorem dX6_net_24 : decode cX6_net 24 = .ok (.if_icmp .ne 10, 3) := by decide +kernel
theorem dX6_net_27 : decode cX6_net 27 = .ok (.aload_n 0, 1) := by decide +kernel
theorem dX6_net_28 : decode cX6_net 28 = .ok (.bipush (-8), 2) := by decide +kernel
theorem dX6_net_30 : decode cX6_net 30 = .ok (.invokevirtual 80, 3) := by decide +kernel
theorem dX6_net_33 : decode cX6_net 33 = .ok (.ireturn, 1) := by decide +kernel
theorem dX6_net_34 : decode cX6_net 34 = .ok (.aload_n 0, 1) := by decide +kernel
theorem dX6_net_35 : decode cX6_net 35 = .ok (.getfield 25, 3) := by decide +kernel
theorem dX6_net_38 : decode cX6_net 38 = .ok (.aload_n 0, 1) := by decide +kernel
theorem dX6_net_39 : decode cX6_net 39 = .ok (.getfield 168, 3) := by decide +kernel
theorem dX6_net_42 : decode cX6_net 42 = .ok (.iload_n 1, 1) := by decide +kernel
theorem dX6_net_43 : decode cX6_net 43 = .ok (.iastore, 1) := by decide +kernel
theorem dX6_net_44 : decode cX6_net 44 = .ok (.aload_n 0, 1) := by decide +kernel
theorem dX6_net_45 : decode cX6_net 45 = .ok (.getfield 28, 3) := by decide +kernel
theorem dX6_net_48 : decode cX6_net 48 = .ok (.aload_n 0, 1) := by decide +kernel
theorem dX6_net_49 : decode cX6_net 49 = .ok (.getfield 168, 3) := by decide +kernel
theorem dX6_net_52 : decode cX6_net 52 = .ok (.iconst 0, 1) := by decide +kernel
theorem dX6_net_53 : decode cX6_net 53 = .ok (.iastore, 1) := by decide +kernel
theorem dX6_net_54 : decode cX6_net 54 = .ok (.aload_n 0, 1) := by decide +kernel
theorem dX6_net_55 : decode cX6_net 55 = .ok (.dup, 1) := by decide +kernel
theorem dX6_net_56 : decode cX6_net 56 = .ok (.getfield 168, 3) := by decide +kernel
theorem dX6_net_59 : decode cX6_net 59 = .ok (.iconst 1, 1) := by decide +kernel
theorem dX6_net_60 : decode cX6_net 60 = .ok (.iadd, 1) := by decide +kernel
theorem dX6_net_61 : decode cX6_net 61 = .ok (.putfield 168, 3) := by decide +kernel
theorem dX6_net_64 : decode cX6_net 64 = .ok (.aload_n 0, 1) := by decide +kernel
theorem dX6_net_65 : decode cX6_net 65 = .ok (.getfield 168, 3) := by decide +kernel
theorem dX6_net_68 : decode cX6_net 68 = .ok (.iconst 1, 1) := by decide +kernel
theorem dX6_net_69 : decode cX6_net 69 = .ok (.isub, 1) := by decide +kernel
theorem dX6_net_70 : decode cX6_net 70 = .ok (.ireturn, 1) := by decide +kernel
theorem dX6_step_0 : decode cX6_step 0 = .ok (.aload_n 0, 1) := by decide +kernel
theorem dX6_step_1 : decode cX6_step 1 = .ok (.iload_n 1, 1) := by decide +kernel
theorem dX6_step_2 : decode cX6_step 2 = .ok (.invokevirtual 171, 3) := by decide +kernel
theorem dX6_step_5 : decode cX6_step 5 = .ok (.ifCond .ne 10, 3) := by decide +kernel
theorem dX6_step_8 : decode cX6_step 8 = .ok (.aload_n 0, 1) := by decide +kernel
theorem dX6_step_9 : decode cX6_step 9 = .ok (.bipush (-3), 2) := by decide +kernel
theorem dX6_step_11 : decode cX6_step 11 = .ok (.invokevirtual 80, 3) := by decide +kernel
theorem dX6_step_14 : decode cX6_step 14 = .ok (.ireturn, 1) := by decide +kernel
theorem dX6_step_15 : decode cX6_step 15 = .ok (.iload_n 2, 1) := by decide +kernel
theorem dX6_step_16 : decode cX6_step 16 = .ok (.i2l, 1) := by decide +kernel
theorem dX6_step_17 : decode cX6_step 17 = .ok (.lconst 0, 1) := by decide +kernel
theorem dX6_step_18 : decode cX6_step 18 = .ok (.ldc2_w 166, 3) := by decide +kernel
theorem dX6_step_21 : decode cX6_step 21 = .ok (.invokestatic 90, 3) := by decide +kernel
theorem dX6_step_24 : decode cX6_step 24 = .ok (.ifCond .eq 43, 3) := by decide +kernel
theorem dX6_step_27 : decode cX6_step 27 = .ok (.iload_n 3, 1) := by decide +kernel
theorem dX6_step_28 : decode cX6_step 28 = .ok (.i2l, 1) := by decide +kernel
theorem dX6_step_29 : decode cX6_step 29 = .ok (.lconst 0, 1) := by decide +kernel
theorem dX6_step_30 : decode cX6_step 30 = .ok (.aload_n 0, 1) := by decide +kernel
theorem dX6_step_31 : decode cX6_step 31 = .ok (.getfield 25, 3) := by decide +kernel
theorem dX6_step_34 : decode cX6_step 34 = .ok (.iload_n 1, 1) := by decide +kernel
theorem dX6_step_35 : decode cX6_step 35 = .ok (.iaload, 1) := by decide +kernel
theorem dX6_step_36 : decode cX6_step 36 = .ok (.iload_n 2, 1) := by decide +kernel
theorem dX6_step_37 : decode cX6_step 37 = .ok (.iconst 2, 1) := by decide +kernel
theorem dX6_step_38 : decode cX6_step 38 = .ok (.if_icmp .ne 7, 3) := by decide +kernel
theorem dX6_step_41 : decode cX6_step 41 = .ok (.iconst 1, 1) := by decide +kernel
theorem dX6_step_42 : decode cX6_step 42 = .ok (.goto 4, 3) := by decide +kernel
theorem dX6_step_45 : decode cX6_step 45 = .ok (.iconst 2, 1) := by decide +kernel
theorem dX6_step_46 : decode cX6_step 46 = .ok (.isub, 1) := by decide +kernel
theorem dX6_step_47 : decode cX6_step 47 = .ok (.i2l, 1) := by decide +kernel
theorem dX6_step_48 : decode cX6_step 48 = .ok (.invokestatic 90, 3) := by decide +kernel
theorem dX6_step_51 : decode cX6_step 51 = .ok (.ifCond .eq 16, 3) := by decide +kernel
theorem dX6_step_54 : decode cX6_step 54 = .ok (.iload 4, 2) := by decide +kernel
theorem dX6_step_56 : decode cX6_step 56 = .ok (.i2l, 1) := by decide +kernel
theorem dX6_step_57 : decode cX6_step 57 = .ok (.lconst 1, 1) := by decide +kernel
theorem dX6_step_58 : decode cX6_step 58 = .ok (.ldc2_w 174, 3) := by decide +kernel
theorem dX6_step_61 : decode cX6_step 61 = .ok (.invokestatic 90, 3) := by decide +kernel
theorem dX6_step_64 : decode cX6_step 64 = .ok (.ifCond .ne 10, 3) := by decide +kernel
theorem dX6_step_67 : decode cX6_step 67 = .ok (.aload_n 0, 1) := by decide +kernel
theorem dX6_step_68 : decode cX6_step 68 = .ok (.bipush (-7), 2) := by decide +kernel
theorem dX6_step_70 : decode cX6_step 70 = .ok (.invokevirtual 80, 3) := by decide +kernel
theorem dX6_step_73 : decode cX6_step 73 = .ok (.ireturn, 1) := by decide +kernel
theorem dX6_step_74 : decode cX6_step 74 = .ok (.aload_n 0, 1) := by decide +kernel
theorem dX6_step_75 : decode cX6_step 75 = .ok (.getfield 28, 3) := by decide +kernel
theorem dX6_step_78 : decode cX6_step 78 = .ok (.iload_n 1, 1) := by decide +kernel
theorem dX6_step_79 : decode cX6_step 79 = .ok (.iaload, 1) := by decide +kernel
theorem dX6_step_80 : decode cX6_step 80 = .ok (.bipush 16, 2) := by decide +kernel
theorem dX6_step_82 : decode cX6_step 82 = .ok (.if_icmp .ne 10, 3) := by decide +kernel
theorem dX6_step_85 : decode cX6_step 85 = .ok (.aload_n 0, 1) := by decide +kernel
theorem dX6_step_86 : decode cX6_step 86 = .ok (.bipush (-8), 2) := by decide +kernel
theorem dX6_step_88 : decode cX6_step 88 = .ok (.invokevirtual 80, 3) := by decide +kernel
theorem dX6_step_91 : decode cX6_step 91 = .ok (.ireturn, 1) := by decide +kernel
theorem dX6_step_92 : decode cX6_step 92 = .ok (.bipush 16, 2) := by decide +kernel
theorem dX6_step_94 : decode cX6_step 94 = .ok (.iload_n 1, 1) := by decide +kernel
theorem dX6_step_95 : decode cX6_step 95 = .ok (.imul, 1) := by decide +kernel
theorem dX6_step_96 : decode cX6_step 96 = .ok (.aload_n 0, 1) := by decide +kernel
theorem dX6_step_97 : decode cX6_step 97 = .ok (.getfield 28, 3) := by decide +kernel
theorem dX6_step_100 : decode cX6_step 100 = .ok (.iload_n 1, 1) := by decide +kernel
theorem dX6_step_101 : decode cX6_step 101 = .ok (.iaload, 1) := by decide +kernel
theorem dX6_step_102 : decode cX6_step 102 = .ok (.iadd, 1) := by decide +kernel
theorem dX6_step_103 : decode cX6_step 103 = .ok (.istore 5, 2) := by decide +kernel
theorem dX6_step_105 : decode cX6_step 105 = .ok (.aload_n 0, 1) := by decide +kernel
theorem dX6_step_106 : decode cX6_step 106 = .ok (.getfield 31, 3) := by decide +kernel
theorem dX6_step_109 : decode cX6_step 109 = .ok (.iload 5, 2) := by decide +kernel
theorem dX6_step_111 : decode cX6_step 111 = .ok (.iload_n 2, 1) := by decide +kernel
theorem dX6_step_112 : decode cX6_step 112 = .ok (.iastore, 1) := by decide +kernel
theorem dX6_step_113 : decode cX6_step 113 = .ok (.aload_n 0, 1) := by decide +kernel
theorem dX6_step_114 : decode cX6_step 114 = .ok (.getfield 34, 3) := by decide +kernel
theorem dX6_step_117 : decode cX6_step 117 = .ok (.iload 5, 2) := by decide +kernel
theorem dX6_step_119 : decode cX6_step 119 = .ok (.iload_n 3, 1) := by decide +kernel
theorem dX6_step_120 : decode cX6_step 120 = .ok (.iastore, 1) := by decide +kernel
theorem dX6_step_121 : decode cX6_step 121 = .ok (.aload_n 0, 1) := by decide +kernel
theorem dX6_step_122 : decode cX6_step 122 = .ok (.getfield 37, 3) := by decide +kernel
theorem dX6_step_125 : decode cX6_step 125 = .ok (.iload 5, 2) := by decide +kernel
theorem dX6_step_127 : decode cX6_step 127 = .ok (.iload 4, 2) := by decide +kernel
theorem dX6_step_129 : decode cX6_step 129 = .ok (.iastore, 1) := by decide +kernel
theorem dX6_step_130 : decode cX6_step 130 = .ok (.aload_n 0, 1) := by decide +kernel
theorem dX6_step_131 : decode cX6_step 131 = .ok (.getfield 28, 3) := by decide +kernel
theorem dX6_step_134 : decode cX6_step 134 = .ok (.iload_n 1, 1) := by decide +kernel
theorem dX6_step_135 : decode cX6_step 135 = .ok (.dup2, 1) := by decide +kernel
theorem dX6_step_136 : decode cX6_step 136 = .ok (.iaload, 1) := by decide +kernel
theorem dX6_step_137 : decode cX6_step 137 = .ok (.iconst 1, 1) := by decide +kernel
theorem dX6_step_138 : decode cX6_step 138 = .ok (.iadd, 1) := by decide +kernel
theorem dX6_step_139 : decode cX6_step 139 = .ok (.iastore, 1) := by decide +kernel
theorem dX6_step_140 : decode cX6_step 140 = .ok (.aload_n 0, 1) := by decide +kernel
theorem dX6_step_141 : decode cX6_step 141 = .ok (.getfield 28, 3) := by decide +kernel
theorem dX6_step_144 : decode cX6_step 144 = .ok (.iload_n 1, 1) := by decide +kernel
theorem dX6_step_145 : decode cX6_step 145 = .ok (.iaload, 1) := by decide +kernel
theorem dX6_step_146 : decode cX6_step 146 = .ok (.ireturn, 1) := by decide +kernel
theorem dX6_back_0 : decode cX6_back 0 = .ok (.aload_n 0, 1) := by decide +kernel
theorem dX6_back_1 : decode cX6_back 1 = .ok (.iload_n 1, 1) := by decide +kernel
theorem dX6_back_2 : decode cX6_back 2 = .ok (.invokevirtual 171, 3) := by decide +kernel
theorem dX6_back_5 : decode cX6_back 5 = .ok (.ifCond .ne 10, 3) := by decide +kernel
theorem dX6_back_8 : decode cX6_back 8 = .ok (.aload_n 0, 1) := by decide +kernel
theorem dX6_back_9 : decode cX6_back 9 = .ok (.bipush (-3), 2) := by decide +kernel
theorem dX6_back_11 : decode cX6_back 11 = .ok (.invokevirtual 80, 3) := by decide +kernel
theorem dX6_back_14 : decode cX6_back 14 = .ok (.ireturn, 1) := by decide +kernel
theorem dX6_back_15 : decode cX6_back 15 = .ok (.aload_n 0, 1) := by decide +kernel
theorem dX6_back_16 : decode cX6_back 16 = .ok (.getfield 28, 3) := by decide +kernel
theorem dX6_back_19 : decode cX6_back 19 = .ok (.iload_n 1, 1) := by decide +kernel
theorem dX6_back_20 : decode cX6_back 20 = .ok (.iaload, 1) := by decide +kernel
theorem dX6_back_21 : decode cX6_back 21 = .ok (.ifCond .ne 10, 3) := by decide +kernel
theorem dX6_back_24 : decode cX6_back 24 = .ok (.aload_n 0, 1) := by decide +kernel
theorem dX6_back_25 : decode cX6_back 25 = .ok (.bipush (-2), 2) := by decide +kernel
theorem dX6_back_27 : decode cX6_back 27 = .ok (.invokevirtual 80, 3) := by decide +kernel
theorem dX6_back_30 : decode cX6_back 30 = .ok (.ireturn, 1) := by decide +kernel
theorem dX6_back_31 : decode cX6_back 31 = .ok (.aload_n 0, 1) := by decide +kernel
theorem dX6_back_32 : decode cX6_back 32 = .ok (.getfield 28, 3) := by decide +kernel
theorem dX6_back_35 : decode cX6_back 35 = .ok (.iload_n 1, 1) := by decide +kernel
theorem dX6_back_36 : decode cX6_back 36 = .ok (.dup2, 1) := by decide +kernel
theorem dX6_back_37 : decode cX6_back 37 = .ok (.iaload, 1) := by decide +kernel
theorem dX6_back_38 : decode cX6_back 38 = .ok (.iconst 1, 1) := by decide +kernel
theorem dX6_back_39 : decode cX6_back 39 = .ok (.isub, 1) := by decide +kernel
theorem dX6_back_40 : decode cX6_back 40 = .ok (.iastore, 1) := by decide +kernel
theorem dX6_back_41 : decode cX6_back 41 = .ok (.aload_n 0, 1) := by decide +kernel
theorem dX6_back_42 : decode cX6_back 42 = .ok (.getfield 28, 3) := by decide +kernel
theorem dX6_back_45 : decode cX6_back 45 = .ok (.iload_n 1, 1) := by decide +kernel
theorem dX6_back_46 : decode cX6_back 46 = .ok (.iaload, 1) := by decide +kernel
theorem dX6_back_47 : decode cX6_back 47 = .ok (.ireturn, 1) := by decide +kernel
theorem dX6_made_0 : decode cX6_made 0 = .ok (.aload_n 0, 1) := by decide +kernel
theorem dX6_made_1 : decode cX6_made 1 = .ok (.iload_n 1, 1) := by decide +kernel
theorem dX6_made_2 : decode cX6_made 2 = .ok (.invokevirtual 171, 3) := by decide +kernel
theorem dX6_made_5 : decode cX6_made 5 = .ok (.ifCond .ne 10, 3) := by decide +kernel
theorem dX6_made_8 : decode cX6_made 8 = .ok (.aload_n 0, 1) := by decide +kernel
theorem dX6_made_9 : decode cX6_made 9 = .ok (.bipush (-3), 2) := by decide +kernel
theorem dX6_made_11 : decode cX6_made 11 = .ok (.invokevirtual 80, 3) := by decide +kernel
theorem dX6_made_14 : decode cX6_made 14 = .ok (.ireturn, 1) := by decide +kernel
theorem dX6_made_15 : decode cX6_made 15 = .ok (.aload_n 0, 1) := by decide +kernel
theorem dX6_made_16 : decode cX6_made 16 = .ok (.getfield 25, 3) := by decide +kernel
theorem dX6_made_19 : decode cX6_made 19 = .ok (.iload_n 1, 1) := by decide +kernel
theorem dX6_made_20 : decode cX6_made 20 = .ok (.iaload, 1) := by decide +kernel
theorem dX6_made_21 : decode cX6_made 21 = .ok (.istore_n 2, 1) := by decide +kernel
theorem dX6_made_22 : decode cX6_made 22 = .ok (.iconst 0, 1) := by decide +kernel
theorem dX6_made_23 : decode cX6_made 23 = .ok (.istore_n 3, 1) := by decide +kernel
theorem dX6_made_24 : decode cX6_made 24 = .ok (.iload_n 3, 1) := by decide +kernel
theorem dX6_made_25 : decode cX6_made 25 = .ok (.bipush 25, 2) := by decide +kernel
theorem dX6_made_27 : decode cX6_made 27 = .ok (.if_icmp .ge 27, 3) := by decide +kernel
theorem dX6_made_30 : decode cX6_made 30 = .ok (.aload_n 0, 1) := by decide +kernel
theorem dX6_made_31 : decode cX6_made 31 = .ok (.getfield 47, 3) := by decide +kernel
theorem dX6_made_34 : decode cX6_made 34 = .ok (.iload_n 3, 1) := by decide +kernel
theorem dX6_made_35 : decode cX6_made 35 = .ok (.iload_n 3, 1) := by decide +kernel
theorem dX6_made_36 : decode cX6_made 36 = .ok (.bipush 6, 2) := by decide +kernel
theorem dX6_made_38 : decode cX6_made 38 = .ok (.irem, 1) := by decide +kernel
theorem dX6_made_39 : decode cX6_made 39 = .ok (.ifCond .ne 7, 3) := by decide +kernel
theorem dX6_made_42 : decode cX6_made 42 = .ok (.lconst 1, 1) := by decide +kernel
theorem dX6_made_43 : decode cX6_made 43 = .ok (.goto 4, 3) := by decide +kernel
theorem dX6_made_46 : decode cX6_made 46 = .ok (.lconst 0, 1) := by decide +kernel
theorem dX6_made_47 : decode cX6_made 47 = .ok (.lastore, 1) := by decide +kernel
theorem dX6_made_48 : decode cX6_made 48 = .ok (.iinc 3 1, 3) := by decide +kernel
theorem dX6_made_51 : decode cX6_made 51 = .ok (.goto (-27), 3) := by decide +kernel
theorem dX6_made_54 : decode cX6_made 54 = .ok (.bipush 16, 2) := by decide +kernel
theorem dX6_made_56 : decode cX6_made 56 = .ok (.iload_n 1, 1) := by decide +kernel
theorem dX6_made_57 : decode cX6_made 57 = .ok (.imul, 1) := by decide +kernel
theorem dX6_made_58 : decode cX6_made 58 = .ok (.istore_n 3, 1) := by decide +kernel
theorem dX6_made_59 : decode cX6_made 59 = .ok (.iload_n 3, 1) := by decide +kernel
theorem dX6_made_60 : decode cX6_made 60 = .ok (.bipush 16, 2) := by decide +kernel
theorem dX6_made_62 : decode cX6_made 62 = .ok (.iload_n 1, 1) := by decide +kernel
theorem dX6_made_63 : decode cX6_made 63 = .ok (.imul, 1) := by decide +kernel
theorem dX6_made_64 : decode cX6_made 64 = .ok (.aload_n 0, 1) := by decide +kernel
theorem dX6_made_65 : decode cX6_made 65 = .ok (.getfield 28, 3) := by decide +kernel
theorem dX6_made_68 : decode cX6_made 68 = .ok (.iload_n 1, 1) := by decide +kernel
theorem dX6_made_69 : decode cX6_made 69 = .ok (.iaload, 1) := by decide +kernel
theorem dX6_made_70 : decode cX6_made 70 = .ok (.iadd, 1) := by decide +kernel
theorem dX6_made_71 : decode cX6_made 71 = .ok (.if_icmp .ge 151, 3) := by decide +kernel
theorem dX6_made_74 : decode cX6_made 74 = .ok (.aload_n 0, 1) := by decide +kernel
theorem dX6_made_75 : decode cX6_made 75 = .ok (.getfield 31, 3) := by decide +kernel
theorem dX6_made_78 : decode cX6_made 78 = .ok (.iload_n 3, 1) := by decide +kernel
theorem dX6_made_79 : decode cX6_made 79 = .ok (.iaload, 1) := by decide +kernel
theorem dX6_made_80 : decode cX6_made 80 = .ok (.iconst 1, 1) := by decide +kernel
theorem dX6_made_81 : decode cX6_made 81 = .ok (.if_icmp .ne 14, 3) := by decide +kernel
theorem dX6_made_84 : decode cX6_made 84 = .ok (.aload_n 0, 1) := by decide +kernel
theorem dX6_made_85 : decode cX6_made 85 = .ok (.getfield 34, 3) := by decide +kernel
theorem dX6_made_88 : decode cX6_made 88 = .ok (.iload_n 3, 1) := by decide +kernel
theorem dX6_made_89 : decode cX6_made 89 = .ok (.iaload, 1) := by decide +kernel
theorem dX6_made_90 : decode cX6_made 90 = .ok (.iconst 1, 1) := by decide +kernel
theorem dX6_made_91 : decode cX6_made 91 = .ok (.iadd, 1) := by decide +kernel
theorem dX6_made_92 : decode cX6_made 92 = .ok (.goto 9, 3) := by decide +kernel
theorem dX6_made_95 : decode cX6_made 95 = .ok (.aload_n 0, 1) := by decide +kernel
theorem dX6_made_96 : decode cX6_made 96 = .ok (.getfield 34, 3) := by decide +kernel
theorem dX6_made_99 : decode cX6_made 99 = .ok (.iload_n 3, 1) := by decide +kernel
theorem dX6_made_100 : decode cX6_made 100 = .ok (.iaload, 1) := by decide +kernel
theorem dX6_made_101 : decode cX6_made 101 = .ok (.istore 4, 2) := by decide +kernel
theorem dX6_made_103 : decode cX6_made 103 = .ok (.aload_n 0, 1) := by decide +kernel
theorem dX6_made_104 : decode cX6_made 104 = .ok (.getfield 31, 3) := by decide +kernel
theorem dX6_made_107 : decode cX6_made 107 = .ok (.iload_n 3, 1) := by decide +kernel
theorem dX6_made_108 : decode cX6_made 108 = .ok (.iaload, 1) := by decide +kernel
theorem dX6_made_109 : decode cX6_made 109 = .ok (.ifCond .ne 14, 3) := by decide +kernel
theorem dX6_made_112 : decode cX6_made 112 = .ok (.aload_n 0, 1) := by decide +kernel
theorem dX6_made_113 : decode cX6_made 113 = .ok (.getfield 34, 3) := by decide +kernel
theorem dX6_made_116 : decode cX6_made 116 = .ok (.iload_n 3, 1) := by decide +kernel
theorem dX6_made_117 : decode cX6_made 117 = .ok (.iaload, 1) := by decide +kernel
theorem dX6_made_118 : decode cX6_made 118 = .ok (.iconst 1, 1) := by decide +kernel
theorem dX6_made_119 : decode cX6_made 119 = .ok (.iadd, 1) := by decide +kernel
theorem dX6_made_120 : decode cX6_made 120 = .ok (.goto 9, 3) := by decide +kernel
theorem dX6_made_123 : decode cX6_made 123 = .ok (.aload_n 0, 1) := by decide +kernel
theorem dX6_made_124 : decode cX6_made 124 = .ok (.getfield 34, 3) := by decide +kernel
theorem dX6_made_127 : decode cX6_made 127 = .ok (.iload_n 3, 1) := by decide +kernel
theorem dX6_made_128 : decode cX6_made 128 = .ok (.iaload, 1) := by decide +kernel
theorem dX6_made_129 : decode cX6_made 129 = .ok (.istore 5, 2) := by decide +kernel
theorem dX6_made_131 : decode cX6_made 131 = .ok (.iconst 0, 1) := by decide +kernel
theorem dX6_made_132 : decode cX6_made 132 = .ok (.istore 6, 2) := by decide +kernel
theorem dX6_made_134 : decode cX6_made 134 = .ok (.iload 6, 2) := by decide +kernel
theorem dX6_made_136 : decode cX6_made 136 = .ok (.iload_n 2, 1) := by decide +kernel
theorem dX6_made_137 : decode cX6_made 137 = .ok (.if_icmp .ge 79, 3) := by decide +kernel
theorem dX6_made_140 : decode cX6_made 140 = .ok (.aload_n 0, 1) := by decide +kernel
theorem dX6_made_141 : decode cX6_made 141 = .ok (.getfield 31, 3) := by decide +kernel
theorem dX6_made_144 : decode cX6_made 144 = .ok (.iload_n 3, 1) := by decide +kernel
theorem dX6_made_145 : decode cX6_made 145 = .ok (.iaload, 1) := by decide +kernel
theorem dX6_made_146 : decode cX6_made 146 = .ok (.iconst 2, 1) := by decide +kernel
theorem dX6_made_147 : decode cX6_made 147 = .ok (.if_icmp .ne 28, 3) := by decide +kernel
theorem dX6_made_150 : decode cX6_made 150 = .ok (.aload_n 0, 1) := by decide +kernel
theorem dX6_made_151 : decode cX6_made 151 = .ok (.getfield 47, 3) := by decide +kernel
theorem dX6_made_154 : decode cX6_made 154 = .ok (.iconst 5, 1) := by decide +kernel
theorem dX6_made_155 : decode cX6_made 155 = .ok (.iload 6, 2) := by decide +kernel
theorem dX6_made_157 : decode cX6_made 157 = .ok (.imul, 1) := by decide +kernel
theorem dX6_made_158 : decode cX6_made 158 = .ok (.iload 5, 2) := by decide +kernel
theorem dX6_made_160 : decode cX6_made 160 = .ok (.iadd, 1) := by decide +kernel
theorem dX6_made_161 : decode cX6_made 161 = .ok (.dup2, 1) := by decide +kernel
theorem dX6_made_162 : decode cX6_made 162 = .ok (.laload, 1) := by decide +kernel
theorem dX6_made_163 : decode cX6_made 163 = .ok (.aload_n 0, 1) := by decide +kernel
theorem dX6_made_164 : decode cX6_made 164 = .ok (.getfield 37, 3) := by decide +kernel
theorem dX6_made_167 : decode cX6_made 167 = .ok (.iload_n 3, 1) := by decide +kernel
theorem dX6_made_168 : decode cX6_made 168 = .ok (.iaload, 1) := by decide +kernel
theorem dX6_made_169 : decode cX6_made 169 = .ok (.i2l, 1) := by decide +kernel
theorem dX6_made_170 : decode cX6_made 170 = .ok (.lmul, 1) := by decide +kernel
theorem dX6_made_171 : decode cX6_made 171 = .ok (.lastore, 1) := by decide +kernel
theorem dX6_made_172 : decode cX6_made 172 = .ok (.goto 38, 3) := by decide +kernel
theorem dX6_made_175 : decode cX6_made 175 = .ok (.aload_n 0, 1) := by decide +kernel
theorem dX6_made_176 : decode cX6_made 176 = .ok (.getfield 47, 3) := by decide +kernel
theorem dX6_made_179 : decode cX6_made 179 = .ok (.iconst 5, 1) := by decide +kernel
theorem dX6_made_180 : decode cX6_made 180 = .ok (.iload 6, 2) := by decide +kernel
theorem dX6_made_182 : decode cX6_made 182 = .ok (.imul, 1) := by decide +kernel
theorem dX6_made_183 : decode cX6_made 183 = .ok (.iload 5, 2) := by decide +kernel
theorem dX6_made_185 : decode cX6_made 185 = .ok (.iadd, 1) := by decide +kernel
theorem dX6_made_186 : decode cX6_made 186 = .ok (.dup2, 1) := by decide +kernel
theorem dX6_made_187 : decode cX6_made 187 = .ok (.laload, 1) := by decide +kernel
theorem dX6_made_188 : decode cX6_made 188 = .ok (.aload_n 0, 1) := by decide +kernel
theorem dX6_made_189 : decode cX6_made 189 = .ok (.getfield 37, 3) := by decide +kernel
theorem dX6_made_192 : decode cX6_made 192 = .ok (.iload_n 3, 1) := by decide +kernel
theorem dX6_made_193 : decode cX6_made 193 = .ok (.iaload, 1) := by decide +kernel
theorem dX6_made_194 : decode cX6_made 194 = .ok (.i2l, 1) := by decide +kernel
theorem dX6_made_195 : decode cX6_made 195 = .ok (.aload_n 0, 1) := by decide +kernel
theorem dX6_made_196 : decode cX6_made 196 = .ok (.getfield 47, 3) := by decide +kernel
theorem dX6_made_199 : decode cX6_made 199 = .ok (.iconst 5, 1) := by decide +kernel
theorem dX6_made_200 : decode cX6_made 200 = .ok (.iload 6, 2) := by decide +kernel
theorem dX6_made_202 : decode cX6_made 202 = .ok (.imul, 1) := by decide +kernel
theorem dX6_made_203 : decode cX6_made 203 = .ok (.iload 4, 2) := by decide +kernel
theorem dX6_made_205 : decode cX6_made 205 = .ok (.iadd, 1) := by decide +kernel
theorem dX6_made_206 : decode cX6_made 206 = .ok (.laload, 1) := by decide +kernel
theorem dX6_made_207 : decode cX6_made 207 = .ok (.lmul, 1) := by decide +kernel
theorem dX6_made_208 : decode cX6_made 208 = .ok (.ladd, 1) := by decide +kernel
theorem dX6_made_209 : decode cX6_made 209 = .ok (.lastore, 1) := by decide +kernel
theorem dX6_made_210 : decode cX6_made 210 = .ok (.iinc 6 1, 3) := by decide +kernel
theorem dX6_made_213 : decode cX6_made 213 = .ok (.goto (-79), 3) := by decide +kernel
theorem dX6_made_216 : decode cX6_made 216 = .ok (.iinc 3 1, 3) := by decide +kernel
theorem dX6_made_219 : decode cX6_made 219 = .ok (.goto (-160), 3) := by decide +kernel
theorem dX6_made_222 : decode cX6_made 222 = .ok (.aload_n 0, 1) := by decide +kernel
theorem dX6_made_223 : decode cX6_made 223 = .ok (.iload_n 2, 1) := by decide +kernel
theorem dX6_made_224 : decode cX6_made 224 = .ok (.iload_n 2, 1) := by decide +kernel
theorem dX6_made_225 : decode cX6_made 225 = .ok (.iconst 1, 1) := by decide +kernel
theorem dX6_made_226 : decode cX6_made 226 = .ok (.invokevirtual 160, 3) := by decide +kernel
theorem dX6_made_229 : decode cX6_made 229 = .ok (.istore_n 3, 1) := by decide +kernel
theorem dX6_made_230 : decode cX6_made 230 = .ok (.iload_n 3, 1) := by decide +kernel
theorem dX6_made_231 : decode cX6_made 231 = .ok (.ifCond .lt 10, 3) := by decide +kernel
theorem dX6_made_234 : decode cX6_made 234 = .ok (.aload_n 0, 1) := by decide +kernel
theorem dX6_made_235 : decode cX6_made 235 = .ok (.getfield 22, 3) := by decide +kernel
theorem dX6_made_238 : decode cX6_made 238 = .ok (.iload_n 3, 1) := by decide +kernel
theorem dX6_made_239 : decode cX6_made 239 = .ok (.iload_n 1, 1) := by decide +kernel
theorem dX6_made_240 : decode cX6_made 240 = .ok (.iastore, 1) := by decide +kernel
theorem dX6_made_241 : decode cX6_made 241 = .ok (.iload_n 3, 1) := by decide +kernel
theorem dX6_made_242 : decode cX6_made 242 = .ok (.ireturn, 1) := by decide +kernel
theorem dX6_over_0 : decode cX6_over 0 = .ok (.aload_n 0, 1) := by decide +kernel
theorem dX6_over_1 : decode cX6_over 1 = .ok (.getfield 31, 3) := by decide +kernel
theorem dX6_over_4 : decode cX6_over 4 = .ok (.iload_n 1, 1) := by decide +kernel
theorem dX6_over_5 : decode cX6_over 5 = .ok (.iaload, 1) := by decide +kernel
theorem dX6_over_6 : decode cX6_over 6 = .ok (.iconst 2, 1) := by decide +kernel
theorem dX6_over_7 : decode cX6_over 7 = .ok (.if_icmp .ne 5, 3) := by decide +kernel
theorem dX6_over_10 : decode cX6_over 10 = .ok (.iconst (-1), 1) := by decide +kernel
theorem dX6_over_11 : decode cX6_over 11 = .ok (.ireturn, 1) := by decide +kernel
theorem dX6_over_12 : decode cX6_over 12 = .ok (.aload_n 0, 1) := by decide +kernel
theorem dX6_over_13 : decode cX6_over 13 = .ok (.getfield 31, 3) := by decide +kernel
theorem dX6_over_16 : decode cX6_over 16 = .ok (.iload_n 1, 1) := by decide +kernel
theorem dX6_over_17 : decode cX6_over 17 = .ok (.iaload, 1) := by decide +kernel
theorem dX6_over_18 : decode cX6_over 18 = .ok (.iconst 1, 1) := by decide +kernel
theorem dX6_over_19 : decode cX6_over 19 = .ok (.if_icmp .ne 14, 3) := by decide +kernel
theorem dX6_over_22 : decode cX6_over 22 = .ok (.aload_n 0, 1) := by decide +kernel
theorem dX6_over_23 : decode cX6_over 23 = .ok (.getfield 34, 3) := by decide +kernel
theorem dX6_over_26 : decode cX6_over 26 = .ok (.iload_n 1, 1) := by decide +kernel
theorem dX6_over_27 : decode cX6_over 27 = .ok (.iaload, 1) := by decide +kernel
theorem dX6_over_28 : decode cX6_over 28 = .ok (.iconst 1, 1) := by decide +kernel
theorem dX6_over_29 : decode cX6_over 29 = .ok (.iadd, 1) := by decide +kernel
theorem dX6_over_30 : decode cX6_over 30 = .ok (.goto 9, 3) := by decide +kernel
theorem dX6_over_33 : decode cX6_over 33 = .ok (.aload_n 0, 1) := by decide +kernel
theorem dX6_over_34 : decode cX6_over 34 = .ok (.getfield 34, 3) := by decide +kernel
theorem dX6_over_37 : decode cX6_over 37 = .ok (.iload_n 1, 1) := by decide +kernel
theorem dX6_over_38 : decode cX6_over 38 = .ok (.iaload, 1) := by decide +kernel
theorem dX6_over_39 : decode cX6_over 39 = .ok (.istore_n 3, 1) := by decide +kernel
theorem dX6_over_40 : decode cX6_over 40 = .ok (.aload_n 0, 1) := by decide +kernel
theorem dX6_over_41 : decode cX6_over 41 = .ok (.getfield 31, 3) := by decide +kernel
theorem dX6_over_44 : decode cX6_over 44 = .ok (.iload_n 1, 1) := by decide +kernel
theorem dX6_over_45 : decode cX6_over 45 = .ok (.iaload, 1) := by decide +kernel
theorem dX6_over_46 : decode cX6_over 46 = .ok (.ifCond .ne 14, 3) := by decide +kernel
theorem dX6_over_49 : decode cX6_over 49 = .ok (.aload_n 0, 1) := by decide +kernel
theorem dX6_over_50 : decode cX6_over 50 = .ok (.getfield 34, 3) := by decide +kernel
theorem dX6_over_53 : decode cX6_over 53 = .ok (.iload_n 1, 1) := by decide +kernel
theorem dX6_over_54 : decode cX6_over 54 = .ok (.iaload, 1) := by decide +kernel
theorem dX6_over_55 : decode cX6_over 55 = .ok (.iconst 1, 1) := by decide +kernel
theorem dX6_over_56 : decode cX6_over 56 = .ok (.iadd, 1) := by decide +kernel
theorem dX6_over_57 : decode cX6_over 57 = .ok (.goto 9, 3) := by decide +kernel
theorem dX6_over_60 : decode cX6_over 60 = .ok (.aload_n 0, 1) := by decide +kernel
theorem dX6_over_61 : decode cX6_over 61 = .ok (.getfield 34, 3) := by decide +kernel
theorem dX6_over_64 : decode cX6_over 64 = .ok (.iload_n 1, 1) := by decide +kernel
theorem dX6_over_65 : decode cX6_over 65 = .ok (.iaload, 1) := by decide +kernel
theorem dX6_over_66 : decode cX6_over 66 = .ok (.istore 4, 2) := by decide +kernel
theorem dX6_over_68 : decode cX6_over 68 = .ok (.iload_n 2, 1) := by decide +kernel
theorem dX6_over_69 : decode cX6_over 69 = .ok (.iload_n 3, 1) := by decide +kernel
theorem dX6_over_70 : decode cX6_over 70 = .ok (.ishr, 1) := by decide +kernel
theorem dX6_over_71 : decode cX6_over 71 = .ok (.iconst 1, 1) := by decide +kernel
theorem dX6_over_72 : decode cX6_over 72 = .ok (.iand, 1) := by decide +kernel
theorem dX6_over_73 : decode cX6_over 73 = .ok (.iconst 1, 1) := by decide +kernel
theorem dX6_over_74 : decode cX6_over 74 = .ok (.if_icmp .ne 27, 3) := by decide +kernel
theorem dX6_over_77 : decode cX6_over 77 = .ok (.iload_n 2, 1) := by decide +kernel
theorem dX6_over_78 : decode cX6_over 78 = .ok (.iload 4, 2) := by decide +kernel
theorem dX6_over_80 : decode cX6_over 80 = .ok (.ishr, 1) := by decide +kernel
theorem dX6_over_81 : decode cX6_over 81 = .ok (.iconst 1, 1) := by decide +kernel
theorem dX6_over_82 : decode cX6_over 82 = .ok (.iand, 1) := by decide +kernel
theorem dX6_over_83 : decode cX6_over 83 = .ok (.ifCond .ne 18, 3) := by decide +kernel
theorem dX6_over_86 : decode cX6_over 86 = .ok (.iload_n 2, 1) := by decide +kernel
theorem dX6_over_87 : decode cX6_over 87 = .ok (.iconst 1, 1) := by decide +kernel
theorem dX6_over_88 : decode cX6_over 88 = .ok (.iload_n 3, 1) := by decide +kernel
theorem dX6_over_89 : decode cX6_over 89 = .ok (.ishl, 1) := by decide +kernel
theorem dX6_over_90 : decode cX6_over 90 = .ok (.iconst (-1), 1) := by decide +kernel
theorem dX6_over_91 : decode cX6_over 91 = .ok (.ixor, 1) := by decide +kernel
theorem dX6_over_92 : decode cX6_over 92 = .ok (.iand, 1) := by decide +kernel
theorem dX6_over_93 : decode cX6_over 93 = .ok (.iconst 1, 1) := by decide +kernel
theorem dX6_over_94 : decode cX6_over 94 = .ok (.iload 4, 2) := by decide +kernel
theorem dX6_over_96 : decode cX6_over 96 = .ok (.ishl, 1) := by decide +kernel
theorem dX6_over_97 : decode cX6_over 97 = .ok (.ior, 1) := by decide +kernel
theorem dX6_over_98 : decode cX6_over 98 = .ok (.goto 4, 3) := by decide +kernel
theorem dX6_over_101 : decode cX6_over 101 = .ok (.iconst (-1), 1) := by decide +kernel
theorem dX6_over_102 : decode cX6_over 102 = .ok (.ireturn, 1) := by decide +kernel
theorem dX6_finds_0 : decode cX6_finds 0 = .ok (.aload_n 0, 1) := by decide +kernel
theorem dX6_finds_1 : decode cX6_finds 1 = .ok (.getfield 28, 3) := by decide +kernel
theorem dX6_finds_4 : decode cX6_finds 4 = .ok (.iload_n 1, 1) := by decide +kernel
theorem dX6_finds_5 : decode cX6_finds 5 = .ok (.iaload, 1) := by decide +kernel
theorem dX6_finds_6 : decode cX6_finds 6 = .ok (.istore_n 3, 1) := by decide +kernel
theorem dX6_finds_7 : decode cX6_finds 7 = .ok (.iconst 0, 1) := by decide +kernel
theorem dX6_finds_8 : decode cX6_finds 8 = .ok (.istore 4, 2) := by decide +kernel
theorem dX6_finds_10 : decode cX6_finds 10 = .ok (.iload 4, 2) := by decide +kernel
theorem dX6_finds_12 : decode cX6_finds 12 = .ok (.bipush 32, 2) := by decide +kernel
theorem dX6_finds_14 : decode cX6_finds 14 = .ok (.if_icmp .ge 55, 3) := by decide +kernel
theorem dX6_finds_17 : decode cX6_finds 17 = .ok (.aload_n 0, 1) := by decide +kernel
theorem dX6_finds_18 : decode cX6_finds 18 = .ok (.getfield 50, 3) := by decide +kernel
theorem dX6_finds_21 : decode cX6_finds 21 = .ok (.bipush 32, 2) := by decide +kernel
theorem dX6_finds_23 : decode cX6_finds 23 = .ok (.iload_n 3, 1) := by decide +kernel
theorem dX6_finds_24 : decode cX6_finds 24 = .ok (.imul, 1) := by decide +kernel
theorem dX6_finds_25 : decode cX6_finds 25 = .ok (.iload 4, 2) := by decide +kernel
theorem dX6_finds_27 : decode cX6_finds 27 = .ok (.iadd, 1) := by decide +kernel
theorem dX6_finds_28 : decode cX6_finds 28 = .ok (.iload 4, 2) := by decide +kernel
theorem dX6_finds_30 : decode cX6_finds 30 = .ok (.iload_n 2, 1) := by decide +kernel
theorem dX6_finds_31 : decode cX6_finds 31 = .ok (.if_icmp .ne 7, 3) := by decide +kernel
theorem dX6_finds_34 : decode cX6_finds 34 = .ok (.iconst 1, 1) := by decide +kernel
theorem dX6_finds_35 : decode cX6_finds 35 = .ok (.goto 4, 3) := by decide +kernel
theorem dX6_finds_38 : decode cX6_finds 38 = .ok (.iconst 0, 1) := by decide +kernel
theorem dX6_finds_39 : decode cX6_finds 39 = .ok (.iastore, 1) := by decide +kernel
theorem dX6_finds_40 : decode cX6_finds 40 = .ok (.aload_n 0, 1) := by decide +kernel
theorem dX6_finds_41 : decode cX6_finds 41 = .ok (.getfield 53, 3) := by decide +kernel
theorem dX6_finds_44 : decode cX6_finds 44 = .ok (.bipush 32, 2) := by decide +kernel
theorem dX6_finds_46 : decode cX6_finds 46 = .ok (.iload_n 3, 1) := by decide +kernel
theorem dX6_finds_47 : decode cX6_finds 47 = .ok (.imul, 1) := by decide +kernel
theorem dX6_finds_48 : decode cX6_finds 48 = .ok (.iload 4, 2) := by decide +kernel
theorem dX6_finds_50 : decode cX6_finds 50 = .ok (.iadd, 1) := by decide +kernel
theorem dX6_finds_51 : decode cX6_finds 51 = .ok (.iload 4, 2) := by decide +kernel
theorem dX6_finds_53 : decode cX6_finds 53 = .ok (.iload_n 2, 1) := by decide +kernel
theorem dX6_finds_54 : decode cX6_finds 54 = .ok (.if_icmp .ne 7, 3) := by decide +kernel
theorem dX6_finds_57 : decode cX6_finds 57 = .ok (.lconst 1, 1) := by decide +kernel
theorem dX6_finds_58 : decode cX6_finds 58 = .ok (.goto 4, 3) := by decide +kernel
theorem dX6_finds_61 : decode cX6_finds 61 = .ok (.lconst 0, 1) := by decide +kernel
theorem dX6_finds_62 : decode cX6_finds 62 = .ok (.lastore, 1) := by decide +kernel
theorem dX6_finds_63 : decode cX6_finds 63 = .ok (.iinc 4 1, 3) := by decide +kernel
theorem dX6_finds_66 : decode cX6_finds 66 = .ok (.goto (-56), 3) := by decide +kernel
theorem dX6_finds_69 : decode cX6_finds 69 = .ok (.iload_n 3, 1) := by decide +kernel
theorem dX6_finds_70 : decode cX6_finds 70 = .ok (.iconst 1, 1) := by decide +kernel
theorem dX6_finds_71 : decode cX6_finds 71 = .ok (.isub, 1) := by decide +kernel
theorem dX6_finds_72 : decode cX6_finds 72 = .ok (.istore 4, 2) := by decide +kernel
theorem dX6_finds_74 : decode cX6_finds 74 = .ok (.iload 4, 2) := by decide +kernel
theorem dX6_finds_76 : decode cX6_finds 76 = .ok (.ifCond .lt 201, 3) := by decide +kernel
theorem dX6_finds_79 : decode cX6_finds 79 = .ok (.bipush 16, 2) := by decide +kernel
theorem dX6_finds_81 : decode cX6_finds 81 = .ok (.iload_n 1, 1) := by decide +kernel
theorem dX6_finds_82 : decode cX6_finds 82 = .ok (.imul, 1) := by decide +kernel
theorem dX6_finds_83 : decode cX6_finds 83 = .ok (.iload 4, 2) := by decide +kernel
theorem dX6_finds_85 : decode cX6_finds 85 = .ok (.iadd, 1) := by decide +kernel
theorem dX6_finds_86 : decode cX6_finds 86 = .ok (.istore 5, 2) := by decide +kernel
theorem dX6_finds_88 : decode cX6_finds 88 = .ok (.iconst 0, 1) := by decide +kernel
theorem dX6_finds_89 : decode cX6_finds 89 = .ok (.istore 6, 2) := by decide +kernel
theorem dX6_finds_91 : decode cX6_finds 91 = .ok (.iload 6, 2) := by decide +kernel
theorem dX6_finds_93 : decode cX6_finds 93 = .ok (.bipush 32, 2) := by decide +kernel
theorem dX6_finds_95 : decode cX6_finds 95 = .ok (.if_icmp .ge 176, 3) := by decide +kernel
theorem dX6_finds_98 : decode cX6_finds 98 = .ok (.aload_n 0, 1) := by decide +kernel
theorem dX6_finds_99 : decode cX6_finds 99 = .ok (.iload 5, 2) := by decide +kernel
theorem dX6_finds_101 : decode cX6_finds 101 = .ok (.iload 6, 2) := by decide +kernel
theorem dX6_finds_103 : decode cX6_finds 103 = .ok (.invokevirtual 176, 3) := by decide +kernel
theorem dX6_finds_106 : decode cX6_finds 106 = .ok (.istore 7, 2) := by decide +kernel
theorem dX6_finds_108 : decode cX6_finds 108 = .ok (.aload_n 0, 1) := by decide +kernel
theorem dX6_finds_109 : decode cX6_finds 109 = .ok (.getfield 31, 3) := by decide +kernel
theorem dX6_finds_112 : decode cX6_finds 112 = .ok (.iload 5, 2) := by decide +kernel
theorem dX6_finds_114 : decode cX6_finds 114 = .ok (.iaload, 1) := by decide +kernel
theorem dX6_finds_115 : decode cX6_finds 115 = .ok (.iconst 2, 1) := by decide +kernel
theorem dX6_finds_116 : decode cX6_finds 116 = .ok (.if_icmp .ne 23, 3) := by decide +kernel
theorem dX6_finds_119 : decode cX6_finds 119 = .ok (.iload 6, 2) := by decide +kernel
theorem dX6_finds_121 : decode cX6_finds 121 = .ok (.aload_n 0, 1) := by decide +kernel
theorem dX6_finds_122 : decode cX6_finds 122 = .ok (.getfield 34, 3) := by decide +kernel
theorem dX6_finds_125 : decode cX6_finds 125 = .ok (.iload 5, 2) := by decide +kernel
theorem dX6_finds_127 : decode cX6_finds 127 = .ok (.iaload, 1) := by decide +kernel
theorem dX6_finds_128 : decode cX6_finds 128 = .ok (.ishr, 1) := by decide +kernel
theorem dX6_finds_129 : decode cX6_finds 129 = .ok (.iconst 1, 1) := by decide +kernel
theorem dX6_finds_130 : decode cX6_finds 130 = .ok (.iand, 1) := by decide +kernel
theorem dX6_finds_131 : decode cX6_finds 131 = .ok (.iconst 1, 1) := by decide +kernel
theorem dX6_finds_132 : decode cX6_finds 132 = .ok (.if_icmp .ne 7, 3) := by decide +kernel
theorem dX6_finds_135 : decode cX6_finds 135 = .ok (.iconst 1, 1) := by decide +kernel
theorem dX6_finds_136 : decode cX6_finds 136 = .ok (.goto 4, 3) := by decide +kernel
theorem dX6_finds_139 : decode cX6_finds 139 = .ok (.iconst 0, 1) := by decide +kernel
theorem dX6_finds_140 : decode cX6_finds 140 = .ok (.istore 8, 2) := by decide +kernel
theorem dX6_finds_142 : decode cX6_finds 142 = .ok (.bipush 32, 2) := by decide +kernel
theorem dX6_finds_144 : decode cX6_finds 144 = .ok (.iload 4, 2) := by decide +kernel
theorem dX6_finds_146 : decode cX6_finds 146 = .ok (.imul, 1) := by decide +kernel
theorem dX6_finds_147 : decode cX6_finds 147 = .ok (.iload 6, 2) := by decide +kernel
theorem dX6_finds_149 : decode cX6_finds 149 = .ok (.iadd, 1) := by decide +kernel
theorem dX6_finds_150 : decode cX6_finds 150 = .ok (.istore 9, 2) := by decide +kernel
theorem dX6_finds_152 : decode cX6_finds 152 = .ok (.aload_n 0, 1) := by decide +kernel
theorem dX6_finds_153 : decode cX6_finds 153 = .ok (.getfield 50, 3) := by decide +kernel
theorem dX6_finds_156 : decode cX6_finds 156 = .ok (.iload 9, 2) := by decide +kernel
theorem dX6_finds_158 : decode cX6_finds 158 = .ok (.aload_n 0, 1) := by decide +kernel
theorem dX6_finds_159 : decode cX6_finds 159 = .ok (.getfield 50, 3) := by decide +kernel
theorem dX6_finds_162 : decode cX6_finds 162 = .ok (.iload 9, 2) := by decide +kernel
theorem dX6_finds_164 : decode cX6_finds 164 = .ok (.bipush 32, 2) := by decide +kernel
theorem dX6_finds_166 : decode cX6_finds 166 = .ok (.iadd, 1) := by decide +kernel
theorem dX6_finds_167 : decode cX6_finds 167 = .ok (.iaload, 1) := by decide +kernel
theorem dX6_finds_168 : decode cX6_finds 168 = .ok (.iload 7, 2) := by decide +kernel
theorem dX6_finds_170 : decode cX6_finds 170 = .ok (.ifCond .ge 7, 3) := by decide +kernel
theorem dX6_finds_173 : decode cX6_finds 173 = .ok (.iconst 0, 1) := by decide +kernel
theorem dX6_finds_174 : decode cX6_finds 174 = .ok (.goto 19, 3) := by decide +kernel
theorem dX6_finds_177 : decode cX6_finds 177 = .ok (.aload_n 0, 1) := by decide +kernel
theorem dX6_finds_178 : decode cX6_finds 178 = .ok (.getfield 50, 3) := by decide +kernel
theorem dX6_finds_181 : decode cX6_finds 181 = .ok (.bipush 32, 2) := by decide +kernel
theorem dX6_finds_183 : decode cX6_finds 183 = .ok (.iload 4, 2) := by decide +kernel
theorem dX6_finds_185 : decode cX6_finds 185 = .ok (.imul, 1) := by decide +kernel
theorem dX6_finds_186 : decode cX6_finds 186 = .ok (.bipush 32, 2) := by decide +kernel
theorem dX6_finds_188 : decode cX6_finds 188 = .ok (.iadd, 1) := by decide +kernel
theorem dX6_finds_189 : decode cX6_finds 189 = .ok (.iload 7, 2) := by decide +kernel
theorem dX6_finds_191 : decode cX6_finds 191 = .ok (.iadd, 1) := by decide +kernel
theorem dX6_finds_192 : decode cX6_finds 192 = .ok (.iaload, 1) := by decide +kernel
theorem dX6_finds_193 : decode cX6_finds 193 = .ok (.iadd, 1) := by decide +kernel
theorem dX6_finds_194 : decode cX6_finds 194 = .ok (.iastore, 1) := by decide +kernel
theorem dX6_finds_195 : decode cX6_finds 195 = .ok (.aload_n 0, 1) := by decide +kernel
theorem dX6_finds_196 : decode cX6_finds 196 = .ok (.getfield 53, 3) := by decide +kernel
theorem dX6_finds_199 : decode cX6_finds 199 = .ok (.iload 9, 2) := by decide +kernel
theorem dX6_finds_201 : decode cX6_finds 201 = .ok (.aload_n 0, 1) := by decide +kernel
theorem dX6_finds_202 : decode cX6_finds 202 = .ok (.getfield 53, 3) := by decide +kernel
theorem dX6_finds_205 : decode cX6_finds 205 = .ok (.iload 9, 2) := by decide +kernel
theorem dX6_finds_207 : decode cX6_finds 207 = .ok (.bipush 32, 2) := by decide +kernel
theorem dX6_finds_209 : decode cX6_finds 209 = .ok (.iadd, 1) := by decide +kernel
theorem dX6_finds_210 : decode cX6_finds 210 = .ok (.laload, 1) := by decide +kernel
theorem dX6_finds_211 : decode cX6_finds 211 = .ok (.iload 8, 2) := by decide +kernel
theorem dX6_finds_213 : decode cX6_finds 213 = .ok (.ifCond .eq 13, 3) := by decide +kernel
theorem dX6_finds_216 : decode cX6_finds 216 = .ok (.aload_n 0, 1) := by decide +kernel
theorem dX6_finds_217 : decode cX6_finds 217 = .ok (.getfield 37, 3) := by decide +kernel
theorem dX6_finds_220 : decode cX6_finds 220 = .ok (.iload 5, 2) := by decide +kernel
theorem dX6_finds_222 : decode cX6_finds 222 = .ok (.iaload, 1) := by decide +kernel
theorem dX6_finds_223 : decode cX6_finds 223 = .ok (.goto 4, 3) := by decide +kernel
theorem dX6_finds_226 : decode cX6_finds 226 = .ok (.iconst 1, 1) := by decide +kernel
theorem dX6_finds_227 : decode cX6_finds 227 = .ok (.i2l, 1) := by decide +kernel
theorem dX6_finds_228 : decode cX6_finds 228 = .ok (.lmul, 1) := by decide +kernel
theorem dX6_finds_229 : decode cX6_finds 229 = .ok (.iload 7, 2) := by decide +kernel
theorem dX6_finds_231 : decode cX6_finds 231 = .ok (.ifCond .ge 7, 3) := by decide +kernel
theorem dX6_finds_234 : decode cX6_finds 234 = .ok (.lconst 0, 1) := by decide +kernel
theorem dX6_finds_235 : decode cX6_finds 235 = .ok (.goto 28, 3) := by decide +kernel
theorem dX6_finds_238 : decode cX6_finds 238 = .ok (.aload_n 0, 1) := by decide +kernel
theorem dX6_finds_239 : decode cX6_finds 239 = .ok (.getfield 37, 3) := by decide +kernel
theorem dX6_finds_242 : decode cX6_finds 242 = .ok (.iload 5, 2) := by decide +kernel
theorem dX6_finds_244 : decode cX6_finds 244 = .ok (.iaload, 1) := by decide +kernel
theorem dX6_finds_245 : decode cX6_finds 245 = .ok (.i2l, 1) := by decide +kernel
theorem dX6_finds_246 : decode cX6_finds 246 = .ok (.aload_n 0, 1) := by decide +kernel
theorem dX6_finds_247 : decode cX6_finds 247 = .ok (.getfield 53, 3) := by decide +kernel
theorem dX6_finds_250 : decode cX6_finds 250 = .ok (.bipush 32, 2) := by decide +kernel
theorem dX6_finds_252 : decode cX6_finds 252 = .ok (.iload 4, 2) := by decide +kernel
theorem dX6_finds_254 : decode cX6_finds 254 = .ok (.imul, 1) := by decide +kernel
theorem dX6_finds_255 : decode cX6_finds 255 = .ok (.bipush 32, 2) := by decide +kernel
theorem dX6_finds_257 : decode cX6_finds 257 = .ok (.iadd, 1) := by decide +kernel
theorem dX6_finds_258 : decode cX6_finds 258 = .ok (.iload 7, 2) := by decide +kernel
theorem dX6_finds_260 : decode cX6_finds 260 = .ok (.iadd, 1) := by decide +kernel
theorem dX6_finds_261 : decode cX6_finds 261 = .ok (.laload, 1) := by decide +kernel
theorem dX6_finds_262 : decode cX6_finds 262 = .ok (.lmul, 1) := by decide +kernel
theorem dX6_finds_263 : decode cX6_finds 263 = .ok (.ladd, 1) := by decide +kernel
theorem dX6_finds_264 : decode cX6_finds 264 = .ok (.lastore, 1) := by decide +kernel
theorem dX6_finds_265 : decode cX6_finds 265 = .ok (.iinc 6 1, 3) := by decide +kernel
theorem dX6_finds_268 : decode cX6_finds 268 = .ok (.goto (-177), 3) := by decide +kernel
theorem dX6_finds_271 : decode cX6_finds 271 = .ok (.iinc 4 (-1), 3) := by decide +kernel
theorem dX6_finds_274 : decode cX6_finds 274 = .ok (.goto (-200), 3) := by decide +kernel
theorem dX6_finds_277 : decode cX6_finds 277 = .ok (.return_, 1) := by decide +kernel
theorem dX6_whyNot_0 : decode cX6_whyNot 0 = .ok (.aload_n 0, 1) := by decide +kernel
theorem dX6_whyNot_1 : decode cX6_whyNot 1 = .ok (.iload_n 1, 1) := by decide +kernel
theorem dX6_whyNot_2 : decode cX6_whyNot 2 = .ok (.invokevirtual 171, 3) := by decide +kernel
theorem dX6_whyNot_5 : decode cX6_whyNot 5 = .ok (.ifCond .eq 29, 3) := by decide +kernel
theorem dX6_whyNot_8 : decode cX6_whyNot 8 = .ok (.iload_n 2, 1) := by decide +kernel
theorem dX6_whyNot_9 : decode cX6_whyNot 9 = .ok (.aload_n 0, 1) := by decide +kernel
theorem dX6_whyNot_10 : decode cX6_whyNot 10 = .ok (.getfield 25, 3) := by decide +kernel
theorem dX6_whyNot_13 : decode cX6_whyNot 13 = .ok (.iload_n 1, 1) := by decide +kernel
theorem dX6_whyNot_14 : decode cX6_whyNot 14 = .ok (.iaload, 1) := by decide +kernel
theorem dX6_whyNot_15 : decode cX6_whyNot 15 = .ok (.invokestatic 119, 3) := by decide +kernel
theorem dX6_whyNot_18 : decode cX6_whyNot 18 = .ok (.ifCond .eq 16, 3) := by decide +kernel
theorem dX6_whyNot_21 : decode cX6_whyNot 21 = .ok (.iload_n 3, 1) := by decide +kernel
theorem dX6_whyNot_22 : decode cX6_whyNot 22 = .ok (.aload_n 0, 1) := by decide +kernel
theorem dX6_whyNot_23 : decode cX6_whyNot 23 = .ok (.getfield 25, 3) := by decide +kernel
theorem dX6_whyNot_26 : decode cX6_whyNot 26 = .ok (.iload_n 1, 1) := by decide +kernel
theorem dX6_whyNot_27 : decode cX6_whyNot 27 = .ok (.iaload, 1) := by decide +kernel
theorem dX6_whyNot_28 : decode cX6_whyNot 28 = .ok (.invokestatic 119, 3) := by decide +kernel
theorem dX6_whyNot_31 : decode cX6_whyNot 31 = .ok (.ifCond .ne 6, 3) := by decide +kernel
theorem dX6_whyNot_34 : decode cX6_whyNot 34 = .ok (.bipush (-3), 2) := by decide +kernel
theorem dX6_whyNot_36 : decode cX6_whyNot 36 = .ok (.ireturn, 1) := by decide +kernel
theorem dX6_whyNot_37 : decode cX6_whyNot 37 = .ok (.iload_n 2, 1) := by decide +kernel
theorem dX6_whyNot_38 : decode cX6_whyNot 38 = .ok (.invokestatic 116, 3) := by decide +kernel
theorem dX6_whyNot_41 : decode cX6_whyNot 41 = .ok (.iload_n 3, 1) := by decide +kernel
theorem dX6_whyNot_42 : decode cX6_whyNot 42 = .ok (.invokestatic 116, 3) := by decide +kernel
theorem dX6_whyNot_45 : decode cX6_whyNot 45 = .ok (.if_icmp .ne 7, 3) := by decide +kernel
theorem dX6_whyNot_48 : decode cX6_whyNot 48 = .ok (.iconst 0, 1) := by decide +kernel
theorem dX6_whyNot_49 : decode cX6_whyNot 49 = .ok (.goto 5, 3) := by decide +kernel
theorem dX6_whyNot_52 : decode cX6_whyNot 52 = .ok (.bipush (-7), 2) := by decide +kernel
theorem dX6_whyNot_54 : decode cX6_whyNot 54 = .ok (.ireturn, 1) := by decide +kernel
theorem dX6_families_0 : decode cX6_families 0 = .ok (.aload_n 0, 1) := by decide +kernel
theorem dX6_families_1 : decode cX6_families 1 = .ok (.iload_n 1, 1) := by decide +kernel
theorem dX6_families_2 : decode cX6_families 2 = .ok (.iload_n 2, 1) := by decide +kernel
theorem dX6_families_3 : decode cX6_families 3 = .ok (.iload_n 3, 1) := by decide +kernel
theorem dX6_families_4 : decode cX6_families 4 = .ok (.invokevirtual 179, 3) := by decide +kernel
theorem dX6_families_7 : decode cX6_families 7 = .ok (.istore 4, 2) := by decide +kernel
theorem dX6_families_9 : decode cX6_families 9 = .ok (.iload 4, 2) := by decide +kernel
theorem dX6_families_11 : decode cX6_families 11 = .ok (.ifCond .eq 10, 3) := by decide +kernel
theorem dX6_families_14 : decode cX6_families 14 = .ok (.aload_n 0, 1) := by decide +kernel
theorem dX6_families_15 : decode cX6_families 15 = .ok (.iload 4, 2) := by decide +kernel
theorem dX6_families_17 : decode cX6_families 17 = .ok (.invokevirtual 80, 3) := by decide +kernel
theorem dX6_families_20 : decode cX6_families 20 = .ok (.ireturn, 1) := by decide +kernel
theorem dX6_families_21 : decode cX6_families 21 = .ok (.aload_n 0, 1) := by decide +kernel
theorem dX6_families_22 : decode cX6_families 22 = .ok (.iload_n 1, 1) := by decide +kernel
theorem dX6_families_23 : decode cX6_families 23 = .ok (.iload_n 3, 1) := by decide +kernel
theorem dX6_families_24 : decode cX6_families 24 = .ok (.invokevirtual 182, 3) := by decide +kernel
theorem dX6_families_27 : decode cX6_families 27 = .ok (.aload_n 0, 1) := by decide +kernel
theorem dX6_families_28 : decode cX6_families 28 = .ok (.getfield 50, 3) := by decide +kernel
theorem dX6_families_31 : decode cX6_families 31 = .ok (.iload_n 2, 1) := by decide +kernel
theorem dX6_families_32 : decode cX6_families 32 = .ok (.iaload, 1) := by decide +kernel
theorem dX6_families_33 : decode cX6_families 33 = .ok (.ireturn, 1) := by decide +kernel
theorem dX6_weight_0 : decode cX6_weight 0 = .ok (.aload_n 0, 1) := by decide +kernel
theorem dX6_weight_1 : decode cX6_weight 1 = .ok (.iload_n 1, 1) := by decide +kernel
theorem dX6_weight_2 : decode cX6_weight 2 = .ok (.iload_n 2, 1) := by decide +kernel
theorem dX6_weight_3 : decode cX6_weight 3 = .ok (.iload_n 3, 1) := by decide +kernel
theorem dX6_weight_4 : decode cX6_weight 4 = .ok (.invokevirtual 179, 3) := by decide +kernel
theorem dX6_weight_7 : decode cX6_weight 7 = .ok (.istore 4, 2) := by decide +kernel
theorem dX6_weight_9 : decode cX6_weight 9 = .ok (.iload 4, 2) := by decide +kernel
theorem dX6_weight_11 : decode cX6_weight 11 = .ok (.ifCond .eq 11, 3) := by decide +kernel
theorem dX6_weight_14 : decode cX6_weight 14 = .ok (.aload_n 0, 1) := by decide +kernel
theorem dX6_weight_15 : decode cX6_weight 15 = .ok (.iload 4, 2) := by decide +kernel
theorem dX6_weight_17 : decode cX6_weight 17 = .ok (.invokevirtual 106, 3) := by decide +kernel
theorem dX6_weight_20 : decode cX6_weight 20 = .ok (.i2l, 1) := by decide +kernel
theorem dX6_weight_21 : decode cX6_weight 21 = .ok (.lreturn, 1) := by decide +kernel
theorem dX6_weight_22 : decode cX6_weight 22 = .ok (.aload_n 0, 1) := by decide +kernel
theorem dX6_weight_23 : decode cX6_weight 23 = .ok (.iload_n 1, 1) := by decide +kernel
theorem dX6_weight_24 : decode cX6_weight 24 = .ok (.iload_n 3, 1) := by decide +kernel
theorem dX6_weight_25 : decode cX6_weight 25 = .ok (.invokevirtual 182, 3) := by decide +kernel
theorem dX6_weight_28 : decode cX6_weight 28 = .ok (.aload_n 0, 1) := by decide +kernel
theorem dX6_weight_29 : decode cX6_weight 29 = .ok (.getfield 53, 3) := by decide +kernel
theorem dX6_weight_32 : decode cX6_weight 32 = .ok (.iload_n 2, 1) := by decide +kernel
theorem dX6_weight_33 : decode cX6_weight 33 = .ok (.laload, 1) := by decide +kernel
theorem dX6_weight_34 : decode cX6_weight 34 = .ok (.lreturn, 1) := by decide +kernel
theorem dX6_family_0 : decode cX6_family 0 = .ok (.aload_n 0, 1) := by decide +kernel
theorem dX6_family_1 : decode cX6_family 1 = .ok (.iload_n 1, 1) := by decide +kernel
theorem dX6_family_2 : decode cX6_family 2 = .ok (.iload_n 2, 1) := by decide +kernel
theorem dX6_family_3 : decode cX6_family 3 = .ok (.iload_n 3, 1) := by decide +kernel
theorem dX6_family_4 : decode cX6_family 4 = .ok (.invokevirtual 179, 3) := by decide +kernel
theorem dX6_family_7 : decode cX6_family 7 = .ok (.istore 5, 2) := by decide +kernel
theorem dX6_family_9 : decode cX6_family 9 = .ok (.iload 5, 2) := by decide +kernel
theorem dX6_family_11 : decode cX6_family 11 = .ok (.ifCond .eq 10, 3) := by decide +kernel
theorem dX6_family_14 : decode cX6_family 14 = .ok (.aload_n 0, 1) := by decide +kernel
theorem dX6_family_15 : decode cX6_family 15 = .ok (.iload 5, 2) := by decide +kernel
theorem dX6_family_17 : decode cX6_family 17 = .ok (.invokevirtual 80, 3) := by decide +kernel
theorem dX6_family_20 : decode cX6_family 20 = .ok (.ireturn, 1) := by decide +kernel
theorem dX6_family_21 : decode cX6_family 21 = .ok (.aload_n 0, 1) := by decide +kernel
theorem dX6_family_22 : decode cX6_family 22 = .ok (.iload_n 1, 1) := by decide +kernel
theorem dX6_family_23 : decode cX6_family 23 = .ok (.iload_n 3, 1) := by decide +kernel
theorem dX6_family_24 : decode cX6_family 24 = .ok (.invokevirtual 182, 3) := by decide +kernel
theorem dX6_family_27 : decode cX6_family 27 = .ok (.iload 4, 2) := by decide +kernel
theorem dX6_family_29 : decode cX6_family 29 = .ok (.ldc 186, 2) := by decide +kernel
theorem dX6_family_31 : decode cX6_family 31 = .ok (.iand, 1) := by decide +kernel
theorem dX6_family_32 : decode cX6_family 32 = .ok (.istore 6, 2) := by decide +kernel
theorem dX6_family_34 : decode cX6_family 34 = .ok (.iload 4, 2) := by decide +kernel
theorem dX6_family_36 : decode cX6_family 36 = .ok (.bipush 20, 2) := by decide +kernel
theorem dX6_family_38 : decode cX6_family 38 = .ok (.ishr, 1) := by decide +kernel
theorem dX6_family_39 : decode cX6_family 39 = .ok (.istore 7, 2) := by decide +kernel
theorem dX6_family_41 : decode cX6_family 41 = .ok (.iload 4, 2) := by decide +kernel
theorem dX6_family_43 : decode cX6_family 43 = .ok (.ifCond .lt 25, 3) := by decide +kernel
theorem dX6_family_46 : decode cX6_family 46 = .ok (.iload 7, 2) := by decide +kernel
theorem dX6_family_48 : decode cX6_family 48 = .ok (.aload_n 0, 1) := by decide +kernel
theorem dX6_family_49 : decode cX6_family 49 = .ok (.getfield 28, 3) := by decide +kernel
theorem dX6_family_52 : decode cX6_family 52 = .ok (.iload_n 1, 1) := by decide +kernel
theorem dX6_family_53 : decode cX6_family 53 = .ok (.iaload, 1) := by decide +kernel
theorem dX6_family_54 : decode cX6_family 54 = .ok (.if_icmp .gt 14, 3) := by decide +kernel
theorem dX6_family_57 : decode cX6_family 57 = .ok (.iload 6, 2) := by decide +kernel
theorem dX6_family_59 : decode cX6_family 59 = .ok (.aload_n 0, 1) := by decide +kernel
theorem dX6_family_60 : decode cX6_family 60 = .ok (.getfield 50, 3) := by decide +kernel
theorem dX6_family_63 : decode cX6_family 63 = .ok (.iload_n 2, 1) := by decide +kernel
theorem dX6_family_64 : decode cX6_family 64 = .ok (.iaload, 1) := by decide +kernel
theorem dX6_family_65 : decode cX6_family 65 = .ok (.if_icmp .lt 10, 3) := by decide +kernel
theorem dX6_family_68 : decode cX6_family 68 = .ok (.aload_n 0, 1) := by decide +kernel
theorem dX6_family_69 : decode cX6_family 69 = .ok (.bipush (-3), 2) := by decide +kernel
theorem dX6_family_71 : decode cX6_family 71 = .ok (.invokevirtual 80, 3) := by decide +kernel
theorem dX6_family_74 : decode cX6_family 74 = .ok (.ireturn, 1) := by decide +kernel
theorem dX6_family_75 : decode cX6_family 75 = .ok (.iload_n 2, 1) := by decide +kernel
theorem dX6_family_76 : decode cX6_family 76 = .ok (.istore 8, 2) := by decide +kernel
theorem dX6_family_78 : decode cX6_family 78 = .ok (.iconst 0, 1) := by decide +kernel
theorem dX6_family_79 : decode cX6_family 79 = .ok (.istore 9, 2) := by decide +kernel
theorem dX6_family_81 : decode cX6_family 81 = .ok (.iload 9, 2) := by decide +kernel
theorem dX6_family_83 : decode cX6_family 83 = .ok (.iload 7, 2) := by decide +kernel
theorem dX6_family_85 : decode cX6_family 85 = .ok (.if_icmp .ge 59, 3) := by decide +kernel
theorem dX6_family_88 : decode cX6_family 88 = .ok (.aload_n 0, 1) := by decide +kernel
theorem dX6_family_89 : decode cX6_family 89 = .ok (.getfield 50, 3) := by decide +kernel
theorem dX6_family_92 : decode cX6_family 92 = .ok (.bipush 32, 2) := by decide +kernel
theorem dX6_family_94 : decode cX6_family 94 = .ok (.iload 9, 2) := by decide +kernel
theorem dX6_family_96 : decode cX6_family 96 = .ok (.imul, 1) := by decide +kernel
theorem dX6_family_97 : decode cX6_family 97 = .ok (.bipush 32, 2) := by decide +kernel
theorem dX6_family_99 : decode cX6_family 99 = .ok (.iadd, 1) := by decide +kernel
theorem dX6_family_100 : decode cX6_family 100 = .ok (.iload 8, 2) := by decide +kernel
theorem dX6_family_102 : decode cX6_family 102 = .ok (.iadd, 1) := by decide +kernel
theorem dX6_family_103 : decode cX6_family 103 = .ok (.iaload, 1) := by decide +kernel
theorem dX6_family_104 : decode cX6_family 104 = .ok (.istore 10, 2) := by decide +kernel
theorem dX6_family_106 : decode cX6_family 106 = .ok (.iload 6, 2) := by decide +kernel
theorem dX6_family_108 : decode cX6_family 108 = .ok (.iload 10, 2) := by decide +kernel
theorem dX6_family_110 : decode cX6_family 110 = .ok (.if_icmp .ge 6, 3) := by decide +kernel
theorem dX6_family_113 : decode cX6_family 113 = .ok (.goto 25, 3) := by decide +kernel
theorem dX6_family_116 : decode cX6_family 116 = .ok (.iload 6, 2) := by decide +kernel
theorem dX6_family_118 : decode cX6_family 118 = .ok (.iload 10, 2) := by decide +kernel
theorem dX6_family_120 : decode cX6_family 120 = .ok (.isub, 1) := by decide +kernel
theorem dX6_family_121 : decode cX6_family 121 = .ok (.istore 6, 2) := by decide +kernel
theorem dX6_family_123 : decode cX6_family 123 = .ok (.aload_n 0, 1) := by decide +kernel
theorem dX6_family_124 : decode cX6_family 124 = .ok (.bipush 16, 2) := by decide +kernel
theorem dX6_family_126 : decode cX6_family 126 = .ok (.iload_n 1, 1) := by decide +kernel
theorem dX6_family_127 : decode cX6_family 127 = .ok (.imul, 1) := by decide +kernel
theorem dX6_family_128 : decode cX6_family 128 = .ok (.iload 9, 2) := by decide +kernel
theorem dX6_family_130 : decode cX6_family 130 = .ok (.iadd, 1) := by decide +kernel
theorem dX6_family_131 : decode cX6_family 131 = .ok (.iload 8, 2) := by decide +kernel
theorem dX6_family_133 : decode cX6_family 133 = .ok (.invokevirtual 176, 3) := by decide +kernel
theorem dX6_family_136 : decode cX6_family 136 = .ok (.istore 8, 2) := by decide +kernel
theorem dX6_family_138 : decode cX6_family 138 = .ok (.iinc 9 1, 3) := by decide +kernel
theorem dX6_family_141 : decode cX6_family 141 = .ok (.goto (-60), 3) := by decide +kernel
theorem dX6_family_144 : decode cX6_family 144 = .ok (.iload 8, 2) := by decide +kernel
theorem dX6_family_146 : decode cX6_family 146 = .ok (.ireturn, 1) := by decide +kernel
theorem dX6_unnet_0 : decode cX6_unnet 0 = .ok (.aload_n 0, 1) := by decide +kernel
theorem dX6_unnet_1 : decode cX6_unnet 1 = .ok (.getfield 168, 3) := by decide +kernel
theorem dX6_unnet_4 : decode cX6_unnet 4 = .ok (.ifCond .ne 10, 3) := by decide +kernel
theorem dX6_unnet_7 : decode cX6_unnet 7 = .ok (.aload_n 0, 1) := by decide +kernel
theorem dX6_unnet_8 : decode cX6_unnet 8 = .ok (.bipush (-2), 2) := by decide +kernel
theorem dX6_unnet_10 : decode cX6_unnet 10 = .ok (.invokevirtual 80, 3) := by decide +kernel
theorem dX6_unnet_13 : decode cX6_unnet 13 = .ok (.ireturn, 1) := by decide +kernel
theorem dX6_unnet_14 : decode cX6_unnet 14 = .ok (.aload_n 0, 1) := by decide +kernel
theorem dX6_unnet_15 : decode cX6_unnet 15 = .ok (.dup, 1) := by decide +kernel
theorem dX6_unnet_16 : decode cX6_unnet 16 = .ok (.getfield 168, 3) := by decide +kernel
theorem dX6_unnet_19 : decode cX6_unnet 19 = .ok (.iconst 1, 1) := by decide +kernel
theorem dX6_unnet_20 : decode cX6_unnet 20 = .ok (.isub, 1) := by decide +kernel
theorem dX6_unnet_21 : decode cX6_unnet 21 = .ok (.putfield 168, 3) := by decide +kernel
theorem dX6_unnet_24 : decode cX6_unnet 24 = .ok (.aload_n 0, 1) := by decide +kernel
theorem dX6_unnet_25 : decode cX6_unnet 25 = .ok (.getfield 168, 3) := by decide +kernel
theorem dX6_unnet_28 : decode cX6_unnet 28 = .ok (.ireturn, 1) := by decide +kernel
theorem dX6_isTold_0 : decode cX6_isTold 0 = .ok (.iconst 0, 1) := by decide +kernel
theorem dX6_isTold_1 : decode cX6_isTold 1 = .ok (.istore_n 1, 1) := by decide +kernel
theorem dX6_isTold_2 : decode cX6_isTold 2 = .ok (.iload_n 1, 1) := by decide +kernel
theorem dX6_isTold_3 : decode cX6_isTold 3 = .ok (.bipush 16, 2) := by decide +kernel
theorem dX6_isTold_5 : decode cX6_isTold 5 = .ok (.if_icmp .ge 23, 3) := by decide +kernel
theorem dX6_isTold_8 : decode cX6_isTold 8 = .ok (.aload_n 0, 1) := by decide +kernel
theorem dX6_isTold_9 : decode cX6_isTold 9 = .ok (.getfield 187, 3) := by decide +kernel
theorem dX6_isTold_12 : decode cX6_isTold 12 = .ok (.ifCond .ne 16, 3) := by decide +kernel
theorem dX6_isTold_15 : decode cX6_isTold 15 = .ok (.aload_n 0, 1) := by decide +kernel
theorem dX6_isTold_16 : decode cX6_isTold 16 = .ok (.getfield 56, 3) := by decide +kernel
theorem dX6_isTold_19 : decode cX6_isTold 19 = .ok (.iload_n 1, 1) := by decide +kernel
theorem dX6_isTold_20 : decode cX6_isTold 20 = .ok (.iconst 0, 1) := by decide +kernel
theorem dX6_isTold_21 : decode cX6_isTold 21 = .ok (.iastore, 1) := by decide +kernel
theorem dX6_isTold_22 : decode cX6_isTold 22 = .ok (.iinc 1 1, 3) := by decide +kernel
theorem dX6_isTold_25 : decode cX6_isTold 25 = .ok (.goto (-23), 3) := by decide +kernel
theorem dX6_isTold_28 : decode cX6_isTold 28 = .ok (.aload_n 0, 1) := by decide +kernel
theorem dX6_isTold_29 : decode cX6_isTold 29 = .ok (.iconst 1, 1) := by decide +kernel
theorem dX6_isTold_30 : decode cX6_isTold 30 = .ok (.putfield 187, 3) := by decide +kernel
theorem dX6_isTold_33 : decode cX6_isTold 33 = .ok (.return_, 1) := by decide +kernel
theorem dX6_tell_0 : decode cX6_tell 0 = .ok (.iload_n 1, 1) := by decide +kernel
theorem dX6_tell_1 : decode cX6_tell 1 = .ok (.i2l, 1) := by decide +kernel
theorem dX6_tell_2 : decode cX6_tell 2 = .ok (.lconst 0, 1) := by decide +kernel
theorem dX6_tell_3 : decode cX6_tell 3 = .ok (.ldc2_w 191, 3) := by decide +kernel
theorem dX6_tell_6 : decode cX6_tell 6 = .ok (.invokestatic 90, 3) := by decide +kernel
theorem dX6_tell_9 : decode cX6_tell 9 = .ok (.ifCond .ne 10, 3) := by decide +kernel
theorem dX6_tell_12 : decode cX6_tell 12 = .ok (.aload_n 0, 1) := by decide +kernel
theorem dX6_tell_13 : decode cX6_tell 13 = .ok (.bipush (-3), 2) := by decide +kernel
theorem dX6_tell_15 : decode cX6_tell 15 = .ok (.invokevirtual 80, 3) := by decide +kernel
theorem dX6_tell_18 : decode cX6_tell 18 = .ok (.ireturn, 1) := by decide +kernel
theorem dX6_tell_19 : decode cX6_tell 19 = .ok (.iload_n 2, 1) := by decide +kernel
theorem dX6_tell_20 : decode cX6_tell 20 = .ok (.i2l, 1) := by decide +kernel
theorem dX6_tell_21 : decode cX6_tell 21 = .ok (.ldc2_w 109, 3) := by decide +kernel
theorem dX6_tell_24 : decode cX6_tell 24 = .ok (.ldc2_w 111, 3) := by decide +kernel
theorem dX6_tell_27 : decode cX6_tell 27 = .ok (.invokestatic 90, 3) := by decide +kernel
theorem dX6_tell_30 : decode cX6_tell 30 = .ok (.ifCond .ne 10, 3) := by decide +kernel
theorem dX6_tell_33 : decode cX6_tell 33 = .ok (.aload_n 0, 1) := by decide +kernel
theorem dX6_tell_34 : decode cX6_tell 34 = .ok (.bipush (-7), 2) := by decide +kernel
theorem dX6_tell_36 : decode cX6_tell 36 = .ok (.invokevirtual 80, 3) := by decide +kernel
theorem dX6_tell_39 : decode cX6_tell 39 = .ok (.ireturn, 1) := by decide +kernel
theorem dX6_tell_40 : decode cX6_tell 40 = .ok (.aload_n 0, 1) := by decide +kernel
theorem dX6_tell_41 : decode cX6_tell 41 = .ok (.invokevirtual 193, 3) := by decide +kernel
theorem dX6_tell_44 : decode cX6_tell 44 = .ok (.aload_n 0, 1) := by decide +kernel
theorem dX6_tell_45 : decode cX6_tell 45 = .ok (.getfield 56, 3) := by decide +kernel
theorem dX6_tell_48 : decode cX6_tell 48 = .ok (.iload_n 1, 1) := by decide +kernel
theorem dX6_tell_49 : decode cX6_tell 49 = .ok (.iload_n 2, 1) := by decide +kernel
theorem dX6_tell_50 : decode cX6_tell 50 = .ok (.iastore, 1) := by decide +kernel
theorem dX6_tell_51 : decode cX6_tell 51 = .ok (.iconst 1, 1) := by decide +kernel
theorem dX6_tell_52 : decode cX6_tell 52 = .ok (.ireturn, 1) := by decide +kernel
theorem dX6_meets_0 : decode cX6_meets 0 = .ok (.lload_n 1, 1) := by decide +kernel
theorem dX6_meets_1 : decode cX6_meets 1 = .ok (.lconst 0, 1) := by decide +kernel
theorem dX6_meets_2 : decode cX6_meets 2 = .ok (.lcmp, 1) := by decide +kernel
theorem dX6_meets_3 : decode cX6_meets 3 = .ok (.ifCond .le 7, 3) := by decide +kernel
theorem dX6_meets_6 : decode cX6_meets 6 = .ok (.iconst 1, 1) := by decide +kernel
theorem dX6_meets_7 : decode cX6_meets 7 = .ok (.goto 14, 3) := by decide +kernel
theorem dX6_meets_10 : decode cX6_meets 10 = .ok (.lload_n 1, 1) := by decide +kernel
theorem dX6_meets_11 : decode cX6_meets 11 = .ok (.lconst 0, 1) := by decide +kernel
theorem dX6_meets_12 : decode cX6_meets 12 = .ok (.lcmp, 1) := by decide +kernel
theorem dX6_meets_13 : decode cX6_meets 13 = .ok (.ifCond .ge 7, 3) := by decide +kernel
theorem dX6_meets_16 : decode cX6_meets 16 = .ok (.iconst (-1), 1) := by decide +kernel
theorem dX6_meets_17 : decode cX6_meets 17 = .ok (.goto 4, 3) := by decide +kernel
theorem dX6_meets_20 : decode cX6_meets 20 = .ok (.iconst 0, 1) := by decide +kernel
theorem dX6_meets_21 : decode cX6_meets 21 = .ok (.istore_n 3, 1) := by decide +kernel
theorem dX6_meets_22 : decode cX6_meets 22 = .ok (.iload_n 3, 1) := by decide +kernel
theorem dX6_meets_23 : decode cX6_meets 23 = .ok (.ifCond .ne 4, 3) := by decide +kernel
theorem dX6_meets_26 : decode cX6_meets 26 = .ok (.return_, 1) := by decide +kernel
theorem dX6_meets_27 : decode cX6_meets 27 = .ok (.aload_n 0, 1) := by decide +kernel
theorem dX6_meets_28 : decode cX6_meets 28 = .ok (.getfield 196, 3) := by decide +kernel
theorem dX6_meets_31 : decode cX6_meets 31 = .ok (.iload_n 3, 1) := by decide +kernel
theorem dX6_meets_32 : decode cX6_meets 32 = .ok (.ineg, 1) := by decide +kernel
theorem dX6_meets_33 : decode cX6_meets 33 = .ok (.if_icmp .ne 13, 3) := by decide +kernel
theorem dX6_meets_36 : decode cX6_meets 36 = .ok (.aload_n 0, 1) := by decide +kernel
theorem dX6_meets_37 : decode cX6_meets 37 = .ok (.dup, 1) := by decide +kernel
theorem dX6_meets_38 : decode cX6_meets 38 = .ok (.getfield 199, 3) := by decide +kernel
theorem dX6_meets_41 : decode cX6_meets 41 = .ok (.iconst 1, 1) := by decide +kernel
theorem dX6_meets_42 : decode cX6_meets 42 = .ok (.iadd, 1) := by decide +kernel
theorem dX6_meets_43 : decode cX6_meets 43 = .ok (.putfield 199, 3) := by decide +kernel
theorem dX6_meets_46 : decode cX6_meets 46 = .ok (.aload_n 0, 1) := by decide +kernel
theorem dX6_meets_47 : decode cX6_meets 47 = .ok (.iload_n 3, 1) := by decide +kernel
theorem dX6_meets_48 : decode cX6_meets 48 = .ok (.putfield 196, 3) := by decide +kernel
theorem dX6_meets_51 : decode cX6_meets 51 = .ok (.return_, 1) := by decide +kernel
theorem dX6_changes_0 : decode cX6_changes 0 = .ok (.aload_n 0, 1) := by decide +kernel
theorem dX6_changes_1 : decode cX6_changes 1 = .ok (.iload_n 1, 1) := by decide +kernel
theorem dX6_changes_2 : decode cX6_changes 2 = .ok (.invokevirtual 98, 3) := by decide +kernel
theorem dX6_changes_5 : decode cX6_changes 5 = .ok (.ifCond .ne 10, 3) := by decide +kernel
theorem dX6_changes_8 : decode cX6_changes 8 = .ok (.aload_n 0, 1) := by decide +kernel
theorem dX6_changes_9 : decode cX6_changes 9 = .ok (.bipush (-3), 2) := by decide +kernel
theorem dX6_changes_11 : decode cX6_changes 11 = .ok (.invokevirtual 80, 3) := by decide +kernel
theorem dX6_changes_14 : decode cX6_changes 14 = .ok (.ireturn, 1) := by decide +kernel
theorem dX6_changes_15 : decode cX6_changes 15 = .ok (.aload_n 0, 1) := by decide +kernel
theorem dX6_changes_16 : decode cX6_changes 16 = .ok (.getfield 187, 3) := by decide +kernel
theorem dX6_changes_19 : decode cX6_changes 19 = .ok (.ifCond .ne 10, 3) := by decide +kernel
theorem dX6_changes_22 : decode cX6_changes 22 = .ok (.aload_n 0, 1) := by decide +kernel
theorem dX6_changes_23 : decode cX6_changes 23 = .ok (.bipush (-2), 2) := by decide +kernel
theorem dX6_changes_25 : decode cX6_changes 25 = .ok (.invokevirtual 80, 3) := by decide +kernel
theorem dX6_changes_28 : decode cX6_changes 28 = .ok (.ireturn, 1) := by decide +kernel
theorem dX6_changes_29 : decode cX6_changes 29 = .ok (.aload_n 0, 1) := by decide +kernel
theorem dX6_changes_30 : decode cX6_changes 30 = .ok (.iconst 0, 1) := by decide +kernel
theorem dX6_changes_31 : decode cX6_changes 31 = .ok (.putfield 199, 3) := by decide +kernel
theorem dX6_changes_34 : decode cX6_changes 34 = .ok (.aload_n 0, 1) := by decide +kernel
theorem dX6_changes_35 : decode cX6_changes 35 = .ok (.iconst 0, 1) := by decide +kernel
theorem dX6_changes_36 : decode cX6_changes 36 = .ok (.putfield 196, 3) := by decide +kernel
theorem dX6_changes_39 : decode cX6_changes 39 = .ok (.iconst 0, 1) := by decide +kernel
theorem dX6_changes_40 : decode cX6_changes 40 = .ok (.istore_n 2, 1) := by decide +kernel
theorem dX6_changes_41 : decode cX6_changes 41 = .ok (.iload_n 2, 1) := by decide +kernel
theorem dX6_changes_42 : decode cX6_changes 42 = .ok (.aload_n 0, 1) := by decide +kernel
theorem dX6_changes_43 : decode cX6_changes 43 = .ok (.getfield 16, 3) := by decide +kernel
theorem dX6_changes_46 : decode cX6_changes 46 = .ok (.iload_n 1, 1) := by decide +kernel
theorem dX6_changes_47 : decode cX6_changes 47 = .ok (.iaload, 1) := by decide +kernel
theorem dX6_changes_48 : decode cX6_changes 48 = .ok (.if_icmp .ge 20, 3) := by decide +kernel
theorem dX6_changes_51 : decode cX6_changes 51 = .ok (.aload_n 0, 1) := by decide +kernel
theorem dX6_changes_52 : decode cX6_changes 52 = .ok (.aload_n 0, 1) := by decide +kernel
theorem dX6_changes_53 : decode cX6_changes 53 = .ok (.getfield 56, 3) := by decide +kernel
theorem dX6_changes_56 : decode cX6_changes 56 = .ok (.iload_n 2, 1) := by decide +kernel
theorem dX6_changes_57 : decode cX6_changes 57 = .ok (.iaload, 1) := by decide +kernel
theorem dX6_changes_58 : decode cX6_changes 58 = .ok (.i2l, 1) := by decide +kernel
theorem dX6_changes_59 : decode cX6_changes 59 = .ok (.invokevirtual 202, 3) := by decide +kernel
theorem dX6_changes_62 : decode cX6_changes 62 = .ok (.iinc 2 1, 3) := by decide +kernel
theorem dX6_changes_65 : decode cX6_changes 65 = .ok (.goto (-24), 3) := by decide +kernel
theorem dX6_changes_68 : decode cX6_changes 68 = .ok (.aload_n 0, 1) := by decide +kernel
theorem dX6_changes_69 : decode cX6_changes 69 = .ok (.getfield 199, 3) := by decide +kernel
theorem dX6_changes_72 : decode cX6_changes 72 = .ok (.istore_n 2, 1) := by decide +kernel
theorem dX6_changes_73 : decode cX6_changes 73 = .ok (.aload_n 0, 1) := by decide +kernel
theorem dX6_changes_74 : decode cX6_changes 74 = .ok (.iconst 0, 1) := by decide +kernel
theorem dX6_changes_75 : decode cX6_changes 75 = .ok (.putfield 199, 3) := by decide +kernel
theorem dX6_changes_78 : decode cX6_changes 78 = .ok (.aload_n 0, 1) := by decide +kernel
theorem dX6_changes_79 : decode cX6_changes 79 = .ok (.iconst 0, 1) := by decide +kernel
theorem dX6_changes_80 : decode cX6_changes 80 = .ok (.putfield 196, 3) := by decide +kernel
theorem dX6_changes_83 : decode cX6_changes 83 = .ok (.iconst 0, 1) := by decide +kernel
theorem dX6_changes_84 : decode cX6_changes 84 = .ok (.istore_n 3, 1) := by decide +kernel
theorem dX6_changes_85 : decode cX6_changes 85 = .ok (.iload_n 3, 1) := by decide +kernel
theorem dX6_changes_86 : decode cX6_changes 86 = .ok (.aload_n 0, 1) := by decide +kernel
theorem dX6_changes_87 : decode cX6_changes 87 = .ok (.getfield 13, 3) := by decide +kernel
theorem dX6_changes_90 : decode cX6_changes 90 = .ok (.iload_n 1, 1) := by decide +kernel
theorem dX6_changes_91 : decode cX6_changes 91 = .ok (.iaload, 1) := by decide +kernel
theorem dX6_changes_92 : decode cX6_changes 92 = .ok (.if_icmp .ge 65, 3) := by decide +kernel
theorem dX6_changes_95 : decode cX6_changes 95 = .ok (.lconst 0, 1) := by decide +kernel
theorem dX6_changes_96 : decode cX6_changes 96 = .ok (.lstore 4, 2) := by decide +kernel
theorem dX6_changes_98 : decode cX6_changes 98 = .ok (.iconst 0, 1) := by decide +kernel
theorem dX6_changes_99 : decode cX6_changes 99 = .ok (.istore 6, 2) := by decide +kernel
theorem dX6_changes_101 : decode cX6_changes 101 = .ok (.iload 6, 2) := by decide +kernel
theorem dX6_changes_103 : decode cX6_changes 103 = .ok (.aload_n 0, 1) := by decide +kernel
theorem dX6_changes_104 : decode cX6_changes 104 = .ok (.getfield 16, 3) := by decide +kernel
theorem dX6_changes_107 : decode cX6_changes 107 = .ok (.iload_n 1, 1) := by decide +kernel
theorem dX6_changes_108 : decode cX6_changes 108 = .ok (.iaload, 1) := by decide +kernel
theorem dX6_changes_109 : decode cX6_changes 109 = .ok (.if_icmp .ge 36, 3) := by decide +kernel
theorem dX6_changes_112 : decode cX6_changes 112 = .ok (.lload 4, 2) := by decide +kernel
theorem dX6_changes_114 : decode cX6_changes 114 = .ok (.aload_n 0, 1) := by decide +kernel
theorem dX6_changes_115 : decode cX6_changes 115 = .ok (.getfield 7, 3) := by decide +kernel
theorem dX6_changes_118 : decode cX6_changes 118 = .ok (.iload_n 1, 1) := by decide +kernel
theorem dX6_changes_119 : decode cX6_changes 119 = .ok (.iload_n 3, 1) := by decide +kernel
theorem dX6_changes_120 : decode cX6_changes 120 = .ok (.iload 6, 2) := by decide +kernel
theorem dX6_changes_122 : decode cX6_changes 122 = .ok (.invokestatic 113, 3) := by decide +kernel
theorem dX6_changes_125 : decode cX6_changes 125 = .ok (.iaload, 1) := by decide +kernel
theorem dX6_changes_126 : decode cX6_changes 126 = .ok (.i2l, 1) := by decide +kernel
theorem dX6_changes_127 : decode cX6_changes 127 = .ok (.aload_n 0, 1) := by decide +kernel
theorem dX6_changes_128 : decode cX6_changes 128 = .ok (.getfield 56, 3) := by decide +kernel
theorem dX6_changes_131 : decode cX6_changes 131 = .ok (.iload 6, 2) := by decide +kernel
theorem dX6_changes_133 : decode cX6_changes 133 = .ok (.iaload, 1) := by decide +kernel
theorem dX6_changes_134 : decode cX6_changes 134 = .ok (.i2l, 1) := by decide +kernel
theorem dX6_changes_135 : decode cX6_changes 135 = .ok (.lmul, 1) := by decide +kernel
theorem dX6_changes_136 : decode cX6_changes 136 = .ok (.ladd, 1) := by decide +kernel
theorem dX6_changes_137 : decode cX6_changes 137 = .ok (.lstore 4, 2) := by decide +kernel
theorem dX6_changes_139 : decode cX6_changes 139 = .ok (.iinc 6 1, 3) := by decide +kernel
theorem dX6_changes_142 : decode cX6_changes 142 = .ok (.goto (-41), 3) := by decide +kernel
theorem dX6_changes_145 : decode cX6_changes 145 = .ok (.aload_n 0, 1) := by decide +kernel
theorem dX6_changes_146 : decode cX6_changes 146 = .ok (.lload 4, 2) := by decide +kernel
theorem dX6_changes_148 : decode cX6_changes 148 = .ok (.invokevirtual 202, 3) := by decide +kernel
theorem dX6_changes_151 : decode cX6_changes 151 = .ok (.iinc 3 1, 3) := by decide +kernel
theorem dX6_changes_154 : decode cX6_changes 154 = .ok (.goto (-69), 3) := by decide +kernel
theorem dX6_changes_157 : decode cX6_changes 157 = .ok (.bipush 10, 2) := by decide +kernel
theorem dX6_changes_159 : decode cX6_changes 159 = .ok (.iload_n 2, 1) := by decide +kernel
theorem dX6_changes_160 : decode cX6_changes 160 = .ok (.imul, 1) := by decide +kernel
theorem dX6_changes_161 : decode cX6_changes 161 = .ok (.aload_n 0, 1) := by decide +kernel
theorem dX6_changes_162 : decode cX6_changes 162 = .ok (.getfield 199, 3) := by decide +kernel
theorem dX6_changes_165 : decode cX6_changes 165 = .ok (.iadd, 1) := by decide +kernel
theorem dX6_changes_166 : decode cX6_changes 166 = .ok (.ireturn, 1) := by decide +kernel
theorem dX6_band_0 : decode cX6_band 0 = .ok (.aload_n 0, 1) := by decide +kernel
theorem dX6_band_1 : decode cX6_band 1 = .ok (.getfield 187, 3) := by decide +kernel
theorem dX6_band_4 : decode cX6_band 4 = .ok (.ifCond .ne 10, 3) := by decide +kernel
theorem dX6_band_7 : decode cX6_band 7 = .ok (.aload_n 0, 1) := by decide +kernel
theorem dX6_band_8 : decode cX6_band 8 = .ok (.bipush (-2), 2) := by decide +kernel
theorem dX6_band_10 : decode cX6_band 10 = .ok (.invokevirtual 80, 3) := by decide +kernel
theorem dX6_band_13 : decode cX6_band 13 = .ok (.ireturn, 1) := by decide +kernel
theorem dX6_band_14 : decode cX6_band 14 = .ok (.iload_n 1, 1) := by decide +kernel
theorem dX6_band_15 : decode cX6_band 15 = .ok (.i2l, 1) := by decide +kernel
theorem dX6_band_16 : decode cX6_band 16 = .ok (.lconst 1, 1) := by decide +kernel
theorem dX6_band_17 : decode cX6_band 17 = .ok (.ldc2_w 88, 3) := by decide +kernel
theorem dX6_band_20 : decode cX6_band 20 = .ok (.invokestatic 90, 3) := by decide +kernel
theorem dX6_band_23 : decode cX6_band 23 = .ok (.ifCond .eq 15, 3) := by decide +kernel
theorem dX6_band_26 : decode cX6_band 26 = .ok (.iload_n 2, 1) := by decide +kernel
theorem dX6_band_27 : decode cX6_band 27 = .ok (.i2l, 1) := by decide +kernel
theorem dX6_band_28 : decode cX6_band 28 = .ok (.lconst 1, 1) := by decide +kernel
theorem dX6_band_29 : decode cX6_band 29 = .ok (.ldc2_w 88, 3) := by decide +kernel
theorem dX6_band_32 : decode cX6_band 32 = .ok (.invokestatic 90, 3) := by decide +kernel
theorem dX6_band_35 : decode cX6_band 35 = .ok (.ifCond .ne 10, 3) := by decide +kernel
theorem dX6_band_38 : decode cX6_band 38 = .ok (.aload_n 0, 1) := by decide +kernel
theorem dX6_band_39 : decode cX6_band 39 = .ok (.bipush (-7), 2) := by decide +kernel
theorem dX6_band_41 : decode cX6_band 41 = .ok (.invokevirtual 80, 3) := by decide +kernel
theorem dX6_band_44 : decode cX6_band 44 = .ok (.ireturn, 1) := by decide +kernel
theorem dX6_band_45 : decode cX6_band 45 = .ok (.iconst 0, 1) := by decide +kernel
theorem dX6_band_46 : decode cX6_band 46 = .ok (.istore_n 3, 1) := by decide +kernel
theorem dX6_band_47 : decode cX6_band 47 = .ok (.iload_n 3, 1) := by decide +kernel
theorem dX6_band_48 : decode cX6_band 48 = .ok (.iload_n 1, 1) := by decide +kernel
theorem dX6_band_49 : decode cX6_band 49 = .ok (.if_icmp .ge 63, 3) := by decide +kernel
theorem dX6_band_52 : decode cX6_band 52 = .ok (.iconst 0, 1) := by decide +kernel
theorem dX6_band_53 : decode cX6_band 53 = .ok (.istore 4, 2) := by decide +kernel
theorem dX6_band_55 : decode cX6_band 55 = .ok (.iload 4, 2) := by decide +kernel
theorem dX6_band_57 : decode cX6_band 57 = .ok (.iload_n 1, 1) := by decide +kernel
theorem dX6_band_58 : decode cX6_band 58 = .ok (.if_icmp .ge 48, 3) := by decide +kernel
theorem dX6_band_61 : decode cX6_band 61 = .ok (.aload_n 0, 1) := by decide +kernel
theorem dX6_band_62 : decode cX6_band 62 = .ok (.getfield 47, 3) := by decide +kernel
theorem dX6_band_65 : decode cX6_band 65 = .ok (.iconst 5, 1) := by decide +kernel
theorem dX6_band_66 : decode cX6_band 66 = .ok (.iload_n 3, 1) := by decide +kernel
theorem dX6_band_67 : decode cX6_band 67 = .ok (.imul, 1) := by decide +kernel
theorem dX6_band_68 : decode cX6_band 68 = .ok (.iload 4, 2) := by decide +kernel
theorem dX6_band_70 : decode cX6_band 70 = .ok (.iadd, 1) := by decide +kernel
theorem dX6_band_71 : decode cX6_band 71 = .ok (.iload 4, 2) := by decide +kernel
theorem dX6_band_73 : decode cX6_band 73 = .ok (.iload_n 3, 1) := by decide +kernel
theorem dX6_band_74 : decode cX6_band 74 = .ok (.if_icmp .lt 24, 3) := by decide +kernel
theorem dX6_band_77 : decode cX6_band 77 = .ok (.iload 4, 2) := by decide +kernel
theorem dX6_band_79 : decode cX6_band 79 = .ok (.iload_n 3, 1) := by decide +kernel
theorem dX6_band_80 : decode cX6_band 80 = .ok (.isub, 1) := by decide +kernel
theorem dX6_band_81 : decode cX6_band 81 = .ok (.iload_n 2, 1) := by decide +kernel
theorem dX6_band_82 : decode cX6_band 82 = .ok (.if_icmp .ge 16, 3) := by decide +kernel
theorem dX6_band_85 : decode cX6_band 85 = .ok (.aload_n 0, 1) := by decide +kernel
theorem dX6_band_86 : decode cX6_band 86 = .ok (.getfield 56, 3) := by decide +kernel
theorem dX6_band_89 : decode cX6_band 89 = .ok (.iload 4, 2) := by decide +kernel
theorem dX6_band_91 : decode cX6_band 91 = .ok (.iload_n 3, 1) := by decide +kernel
theorem dX6_band_92 : decode cX6_band 92 = .ok (.isub, 1) := by decide +kernel
theorem dX6_band_93 : decode cX6_band 93 = .ok (.iaload, 1) := by decide +kernel
theorem dX6_band_94 : decode cX6_band 94 = .ok (.i2l, 1) := by decide +kernel
theorem dX6_band_95 : decode cX6_band 95 = .ok (.goto 4, 3) := by decide +kernel
theorem dX6_band_98 : decode cX6_band 98 = .ok (.lconst 0, 1) := by decide +kernel
theorem dX6_band_99 : decode cX6_band 99 = .ok (.lastore, 1) := by decide +kernel
theorem dX6_band_100 : decode cX6_band 100 = .ok (.iinc 4 1, 3) := by decide +kernel
theorem dX6_band_103 : decode cX6_band 103 = .ok (.goto (-48), 3) := by decide +kernel
theorem dX6_band_106 : decode cX6_band 106 = .ok (.iinc 3 1, 3) := by decide +kernel
theorem dX6_band_109 : decode cX6_band 109 = .ok (.goto (-62), 3) := by decide +kernel
theorem dX6_band_112 : decode cX6_band 112 = .ok (.aload_n 0, 1) := by decide +kernel
theorem dX6_band_113 : decode cX6_band 113 = .ok (.iload_n 1, 1) := by decide +kernel
theorem dX6_band_114 : decode cX6_band 114 = .ok (.iload_n 1, 1) := by decide +kernel
theorem dX6_band_115 : decode cX6_band 115 = .ok (.iconst 2, 1) := by decide +kernel
theorem dX6_band_116 : decode cX6_band 116 = .ok (.invokevirtual 160, 3) := by decide +kernel
theorem dX6_band_119 : decode cX6_band 119 = .ok (.ireturn, 1) := by decide +kernel
theorem dX6_divisor_0 : decode cX6_divisor 0 = .ok (.lload_n 0, 1) := by decide +kernel
theorem dX6_divisor_1 : decode cX6_divisor 1 = .ok (.lconst 0, 1) := by decide +kernel
theorem dX6_divisor_2 : decode cX6_divisor 2 = .ok (.lcmp, 1) := by decide +kernel
theorem dX6_divisor_3 : decode cX6_divisor 3 = .ok (.ifCond .ge 8, 3) := by decide +kernel
theorem dX6_divisor_6 : decode cX6_divisor 6 = .ok (.lload_n 0, 1) := by decide +kernel
theorem dX6_divisor_7 : decode cX6_divisor 7 = .ok (.lneg, 1) := by decide +kernel
theorem dX6_divisor_8 : decode cX6_divisor 8 = .ok (.goto 4, 3) := by decide +kernel
theorem dX6_divisor_11 : decode cX6_divisor 11 = .ok (.lload_n 0, 1) := by decide +kernel
theorem dX6_divisor_12 : decode cX6_divisor 12 = .ok (.lstore 4, 2) := by decide +kernel
theorem dX6_divisor_14 : decode cX6_divisor 14 = .ok (.lload_n 2, 1) := by decide +kernel
theorem dX6_divisor_15 : decode cX6_divisor 15 = .ok (.lconst 0, 1) := by decide +kernel
theorem dX6_divisor_16 : decode cX6_divisor 16 = .ok (.lcmp, 1) := by decide +kernel
theorem dX6_divisor_17 : decode cX6_divisor 17 = .ok (.ifCond .ge 8, 3) := by decide +kernel
theorem dX6_divisor_20 : decode cX6_divisor 20 = .ok (.lload_n 2, 1) := by decide +kernel
theorem dX6_divisor_21 : decode cX6_divisor 21 = .ok (.lneg, 1) := by decide +kernel
theorem dX6_divisor_22 : decode cX6_divisor 22 = .ok (.goto 4, 3) := by decide +kernel
theorem dX6_divisor_25 : decode cX6_divisor 25 = .ok (.lload_n 2, 1) := by decide +kernel
theorem dX6_divisor_26 : decode cX6_divisor 26 = .ok (.lstore 6, 2) := by decide +kernel
theorem dX6_divisor_28 : decode cX6_divisor 28 = .ok (.lload 6, 2) := by decide +kernel
theorem dX6_divisor_30 : decode cX6_divisor 30 = .ok (.lconst 0, 1) := by decide +kernel
theorem dX6_divisor_31 : decode cX6_divisor 31 = .ok (.lcmp, 1) := by decide +kernel
theorem dX6_divisor_32 : decode cX6_divisor 32 = .ok (.ifCond .eq 21, 3) := by decide +kernel
theorem dX6_divisor_35 : decode cX6_divisor 35 = .ok (.lload 4, 2) := by decide +kernel
theorem dX6_divisor_37 : decode cX6_divisor 37 = .ok (.lload 6, 2) := by decide +kernel
theorem dX6_divisor_39 : decode cX6_divisor 39 = .ok (.lrem, 1) := by decide +kernel
theorem dX6_divisor_40 : decode cX6_divisor 40 = .ok (.lstore 8, 2) := by decide +kernel
theorem dX6_divisor_42 : decode cX6_divisor 42 = .ok (.lload 6, 2) := by decide +kernel
theorem dX6_divisor_44 : decode cX6_divisor 44 = .ok (.lstore 4, 2) := by decide +kernel
theorem dX6_divisor_46 : decode cX6_divisor 46 = .ok (.lload 8, 2) := by decide +kernel
theorem dX6_divisor_48 : decode cX6_divisor 48 = .ok (.lstore 6, 2) := by decide +kernel
theorem dX6_divisor_50 : decode cX6_divisor 50 = .ok (.goto (-22), 3) := by decide +kernel
theorem dX6_divisor_53 : decode cX6_divisor 53 = .ok (.lload 4, 2) := by decide +kernel
theorem dX6_divisor_55 : decode cX6_divisor 55 = .ok (.lreturn, 1) := by decide +kernel
theorem dX6_fraction_0 : decode cX6_fraction 0 = .ok (.lload_n 1, 1) := by decide +kernel
theorem dX6_fraction_1 : decode cX6_fraction 1 = .ok (.lload_n 3, 1) := by decide +kernel
theorem dX6_fraction_2 : decode cX6_fraction 2 = .ok (.invokestatic 206, 3) := by decide +kernel
theorem dX6_fraction_5 : decode cX6_fraction 5 = .ok (.lstore 5, 2) := by decide +kernel
theorem dX6_fraction_7 : decode cX6_fraction 7 = .ok (.lload_n 3, 1) := by decide +kernel
theorem dX6_fraction_8 : decode cX6_fraction 8 = .ok (.lconst 0, 1) := by decide +kernel
theorem dX6_fraction_9 : decode cX6_fraction 9 = .ok (.lcmp, 1) := by decide +kernel
theorem dX6_fraction_10 : decode cX6_fraction 10 = .ok (.ifCond .ge 8, 3) := by decide +kernel
theorem dX6_fraction_13 : decode cX6_fraction 13 = .ok (.lload 5, 2) := by decide +kernel
theorem dX6_fraction_15 : decode cX6_fraction 15 = .ok (.lneg, 1) := by decide +kernel
theorem dX6_fraction_16 : decode cX6_fraction 16 = .ok (.lstore 5, 2) := by decide +kernel
theorem dX6_fraction_18 : decode cX6_fraction 18 = .ok (.aload_n 0, 1) := by decide +kernel
theorem dX6_fraction_19 : decode cX6_fraction 19 = .ok (.lload_n 1, 1) := by decide +kernel
theorem dX6_fraction_20 : decode cX6_fraction 20 = .ok (.lload 5, 2) := by decide +kernel
theorem dX6_fraction_22 : decode cX6_fraction 22 = .ok (.ldiv, 1) := by decide +kernel
theorem dX6_fraction_23 : decode cX6_fraction 23 = .ok (.putfield 210, 3) := by decide +kernel
theorem dX6_fraction_26 : decode cX6_fraction 26 = .ok (.aload_n 0, 1) := by decide +kernel
theorem dX6_fraction_27 : decode cX6_fraction 27 = .ok (.lload_n 3, 1) := by decide +kernel
theorem dX6_fraction_28 : decode cX6_fraction 28 = .ok (.lload 5, 2) := by decide +kernel
theorem dX6_fraction_30 : decode cX6_fraction 30 = .ok (.ldiv, 1) := by decide +kernel
theorem dX6_fraction_31 : decode cX6_fraction 31 = .ok (.putfield 214, 3) := by decide +kernel
theorem dX6_fraction_34 : decode cX6_fraction 34 = .ok (.return_, 1) := by decide +kernel
theorem dX6_times_0 : decode cX6_times 0 = .ok (.aload_n 0, 1) := by decide +kernel
theorem dX6_times_1 : decode cX6_times 1 = .ok (.lload_n 1, 1) := by decide +kernel
theorem dX6_times_2 : decode cX6_times 2 = .ok (.lload 7, 2) := by decide +kernel
theorem dX6_times_4 : decode cX6_times 4 = .ok (.invokevirtual 217, 3) := by decide +kernel
theorem dX6_times_7 : decode cX6_times 7 = .ok (.aload_n 0, 1) := by decide +kernel
theorem dX6_times_8 : decode cX6_times 8 = .ok (.getfield 210, 3) := by decide +kernel
theorem dX6_times_11 : decode cX6_times 11 = .ok (.lstore 9, 2) := by decide +kernel
theorem dX6_times_13 : decode cX6_times 13 = .ok (.aload_n 0, 1) := by decide +kernel
theorem dX6_times_14 : decode cX6_times 14 = .ok (.getfield 214, 3) := by decide +kernel
theorem dX6_times_17 : decode cX6_times 17 = .ok (.lstore 11, 2) := by decide +kernel
theorem dX6_times_19 : decode cX6_times 19 = .ok (.aload_n 0, 1) := by decide +kernel
theorem dX6_times_20 : decode cX6_times 20 = .ok (.lload 5, 2) := by decide +kernel
theorem dX6_times_22 : decode cX6_times 22 = .ok (.lload_n 3, 1) := by decide +kernel
theorem dX6_times_23 : decode cX6_times 23 = .ok (.invokevirtual 217, 3) := by decide +kernel
theorem dX6_times_26 : decode cX6_times 26 = .ok (.aload_n 0, 1) := by decide +kernel
theorem dX6_times_27 : decode cX6_times 27 = .ok (.lload 9, 2) := by decide +kernel
theorem dX6_times_29 : decode cX6_times 29 = .ok (.aload_n 0, 1) := by decide +kernel
theorem dX6_times_30 : decode cX6_times 30 = .ok (.getfield 210, 3) := by decide +kernel
theorem dX6_times_33 : decode cX6_times 33 = .ok (.lmul, 1) := by decide +kernel
theorem dX6_times_34 : decode cX6_times 34 = .ok (.lload 11, 2) := by decide +kernel
theorem dX6_times_36 : decode cX6_times 36 = .ok (.aload_n 0, 1) := by decide +kernel
theorem dX6_times_37 : decode cX6_times 37 = .ok (.getfield 214, 3) := by decide +kernel
theorem dX6_times_40 : decode cX6_times 40 = .ok (.lmul, 1) := by decide +kernel
theorem dX6_times_41 : decode cX6_times 41 = .ok (.invokevirtual 217, 3) := by decide +kernel
theorem dX6_times_44 : decode cX6_times 44 = .ok (.return_, 1) := by decide +kernel
theorem dX6_shares_0 : decode cX6_shares 0 = .ok (.aload_n 0, 1) := by decide +kernel
theorem dX6_shares_1 : decode cX6_shares 1 = .ok (.getfield 74, 3) := by decide +kernel
theorem dX6_shares_4 : decode cX6_shares 4 = .ok (.aload_n 0, 1) := by decide +kernel
theorem dX6_shares_5 : decode cX6_shares 5 = .ok (.getfield 221, 3) := by decide +kernel
theorem dX6_shares_8 : decode cX6_shares 8 = .ok (.iload_n 1, 1) := by decide +kernel
theorem dX6_shares_9 : decode cX6_shares 9 = .ok (.iastore, 1) := by decide +kernel
theorem dX6_shares_10 : decode cX6_shares 10 = .ok (.aload_n 0, 1) := by decide +kernel
theorem dX6_shares_11 : decode cX6_shares 11 = .ok (.getfield 77, 3) := by decide +kernel
theorem dX6_shares_14 : decode cX6_shares 14 = .ok (.aload_n 0, 1) := by decide +kernel
theorem dX6_shares_15 : decode cX6_shares 15 = .ok (.getfield 221, 3) := by decide +kernel
theorem dX6_shares_18 : decode cX6_shares 18 = .ok (.iload_n 2, 1) := by decide +kernel
theorem dX6_shares_19 : decode cX6_shares 19 = .ok (.iastore, 1) := by decide +kernel
theorem dX6_shares_20 : decode cX6_shares 20 = .ok (.aload_n 0, 1) := by decide +kernel
theorem dX6_shares_21 : decode cX6_shares 21 = .ok (.getfield 68, 3) := by decide +kernel
theorem dX6_shares_24 : decode cX6_shares 24 = .ok (.aload_n 0, 1) := by decide +kernel
theorem dX6_shares_25 : decode cX6_shares 25 = .ok (.getfield 221, 3) := by decide +kernel
theorem dX6_shares_28 : decode cX6_shares 28 = .ok (.lload_n 3, 1) := by decide +kernel
theorem dX6_shares_29 : decode cX6_shares 29 = .ok (.lastore, 1) := by decide +kernel
theorem dX6_shares_30 : decode cX6_shares 30 = .ok (.aload_n 0, 1) := by decide +kernel
theorem dX6_shares_31 : decode cX6_shares 31 = .ok (.getfield 71, 3) := by decide +kernel
theorem dX6_shares_34 : decode cX6_shares 34 = .ok (.aload_n 0, 1) := by decide +kernel
theorem dX6_shares_35 : decode cX6_shares 35 = .ok (.getfield 221, 3) := by decide +kernel
theorem dX6_shares_38 : decode cX6_shares 38 = .ok (.lload 5, 2) := by decide +kernel
theorem dX6_shares_40 : decode cX6_shares 40 = .ok (.lastore, 1) := by decide +kernel
theorem dX6_shares_41 : decode cX6_shares 41 = .ok (.aload_n 0, 1) := by decide +kernel
theorem dX6_shares_42 : decode cX6_shares 42 = .ok (.dup, 1) := by decide +kernel
theorem dX6_shares_43 : decode cX6_shares 43 = .ok (.getfield 221, 3) := by decide +kernel
theorem dX6_shares_46 : decode cX6_shares 46 = .ok (.iconst 1, 1) := by decide +kernel
theorem dX6_shares_47 : decode cX6_shares 47 = .ok (.iadd, 1) := by decide +kernel
theorem dX6_shares_48 : decode cX6_shares 48 = .ok (.putfield 221, 3) := by decide +kernel
theorem dX6_shares_51 : decode cX6_shares 51 = .ok (.aload_n 0, 1) := by decide +kernel
theorem dX6_shares_52 : decode cX6_shares 52 = .ok (.aload_n 0, 1) := by decide +kernel
theorem dX6_shares_53 : decode cX6_shares 53 = .ok (.getfield 224, 3) := by decide +kernel
theorem dX6_shares_56 : decode cX6_shares 56 = .ok (.ifCond .eq 13, 3) := by decide +kernel
theorem dX6_shares_59 : decode cX6_shares 59 = .ok (.lload_n 3, 1) := by decide +kernel
theorem dX6_shares_60 : decode cX6_shares 60 = .ok (.lconst 0, 1) := by decide +kernel
theorem dX6_shares_61 : decode cX6_shares 61 = .ok (.lcmp, 1) := by decide +kernel
theorem dX6_shares_62 : decode cX6_shares 62 = .ok (.ifCond .le 7, 3) := by decide +kernel
theorem dX6_shares_65 : decode cX6_shares 65 = .ok (.iconst 1, 1) := by decide +kernel
theorem dX6_shares_66 : decode cX6_shares 66 = .ok (.goto 4, 3) := by decide +kernel
theorem dX6_shares_69 : decode cX6_shares 69 = .ok (.iconst 0, 1) := by decide +kernel
theorem dX6_shares_70 : decode cX6_shares 70 = .ok (.putfield 224, 3) := by decide +kernel
theorem dX6_shares_73 : decode cX6_shares 73 = .ok (.return_, 1) := by decide +kernel
theorem dX6_cell_0 : decode cX6_cell 0 = .ok (.iload_n 2, 1) := by decide +kernel
theorem dX6_cell_1 : decode cX6_cell 1 = .ok (.ifCond .eq 11, 3) := by decide +kernel
theorem dX6_cell_4 : decode cX6_cell 4 = .ok (.iconst 3, 1) := by decide +kernel
theorem dX6_cell_5 : decode cX6_cell 5 = .ok (.iload_n 1, 1) := by decide +kernel
theorem dX6_cell_6 : decode cX6_cell 6 = .ok (.imul, 1) := by decide +kernel
theorem dX6_cell_7 : decode cX6_cell 7 = .ok (.iload_n 0, 1) := by decide +kernel
theorem dX6_cell_8 : decode cX6_cell 8 = .ok (.iadd, 1) := by decide +kernel
theorem dX6_cell_9 : decode cX6_cell 9 = .ok (.goto 8, 3) := by decide +kernel
theorem dX6_cell_12 : decode cX6_cell 12 = .ok (.iconst 3, 1) := by decide +kernel
theorem dX6_cell_13 : decode cX6_cell 13 = .ok (.iload_n 0, 1) := by decide +kernel
theorem dX6_cell_14 : decode cX6_cell 14 = .ok (.imul, 1) := by decide +kernel
theorem dX6_cell_15 : decode cX6_cell 15 = .ok (.iload_n 1, 1) := by decide +kernel
theorem dX6_cell_16 : decode cX6_cell 16 = .ok (.iadd, 1) := by decide +kernel
theorem dX6_cell_17 : decode cX6_cell 17 = .ok (.ireturn, 1) := by decide +kernel
theorem dX6_clears_0 : decode cX6_clears 0 = .ok (.iload_n 2, 1) := by decide +kernel
theorem dX6_clears_1 : decode cX6_clears 1 = .ok (.iload_n 3, 1) := by decide +kernel
theorem dX6_clears_2 : decode cX6_clears 2 = .ok (.iload 4, 2) := by decide +kernel
theorem dX6_clears_4 : decode cX6_clears 4 = .ok (.invokestatic 227, 3) := by decide +kernel
theorem dX6_clears_7 : decode cX6_clears 7 = .ok (.istore 5, 2) := by decide +kernel
theorem dX6_clears_9 : decode cX6_clears 9 = .ok (.iload_n 2, 1) := by decide +kernel
theorem dX6_clears_10 : decode cX6_clears 10 = .ok (.iconst 1, 1) := by decide +kernel
theorem dX6_clears_11 : decode cX6_clears 11 = .ok (.isub, 1) := by decide +kernel
theorem dX6_clears_12 : decode cX6_clears 12 = .ok (.iload_n 3, 1) := by decide +kernel
theorem dX6_clears_13 : decode cX6_clears 13 = .ok (.iload 4, 2) := by decide +kernel
theorem dX6_clears_15 : decode cX6_clears 15 = .ok (.invokestatic 227, 3) := by decide +kernel
theorem dX6_clears_18 : decode cX6_clears 18 = .ok (.istore 6, 2) := by decide +kernel
theorem dX6_clears_20 : decode cX6_clears 20 = .ok (.aload_n 0, 1) := by decide +kernel
theorem dX6_clears_21 : decode cX6_clears 21 = .ok (.getfield 62, 3) := by decide +kernel
theorem dX6_clears_24 : decode cX6_clears 24 = .ok (.iload 5, 2) := by decide +kernel
theorem dX6_clears_26 : decode cX6_clears 26 = .ok (.laload, 1) := by decide +kernel
theorem dX6_clears_27 : decode cX6_clears 27 = .ok (.lconst 0, 1) := by decide +kernel
theorem dX6_clears_28 : decode cX6_clears 28 = .ok (.lcmp, 1) := by decide +kernel
theorem dX6_clears_29 : decode cX6_clears 29 = .ok (.ifCond .ne 4, 3) := by decide +kernel
theorem dX6_clears_32 : decode cX6_clears 32 = .ok (.return_, 1) := by decide +kernel
theorem dX6_clears_33 : decode cX6_clears 33 = .ok (.aload_n 0, 1) := by decide +kernel
theorem dX6_clears_34 : decode cX6_clears 34 = .ok (.getfield 62, 3) := by decide +kernel
theorem dX6_clears_37 : decode cX6_clears 37 = .ok (.iload 6, 2) := by decide +kernel
theorem dX6_clears_39 : decode cX6_clears 39 = .ok (.laload, 1) := by decide +kernel
theorem dX6_clears_40 : decode cX6_clears 40 = .ok (.lconst 0, 1) := by decide +kernel
theorem dX6_clears_41 : decode cX6_clears 41 = .ok (.lcmp, 1) := by decide +kernel
theorem dX6_clears_42 : decode cX6_clears 42 = .ok (.ifCond .ne 9, 3) := by decide +kernel
theorem dX6_clears_45 : decode cX6_clears 45 = .ok (.aload_n 0, 1) := by decide +kernel
theorem dX6_clears_46 : decode cX6_clears 46 = .ok (.iconst 0, 1) := by decide +kernel
theorem dX6_clears_47 : decode cX6_clears 47 = .ok (.putfield 224, 3) := by decide +kernel
theorem dX6_clears_50 : decode cX6_clears 50 = .ok (.return_, 1) := by decide +kernel
theorem dX6_clears_51 : decode cX6_clears 51 = .ok (.aload_n 0, 1) := by decide +kernel
theorem dX6_clears_52 : decode cX6_clears 52 = .ok (.aload_n 0, 1) := by decide +kernel
theorem dX6_clears_53 : decode cX6_clears 53 = .ok (.getfield 62, 3) := by decide +kernel
theorem dX6_clears_56 : decode cX6_clears 56 = .ok (.iload 5, 2) := by decide +kernel
theorem dX6_clears_58 : decode cX6_clears 58 = .ok (.laload, 1) := by decide +kernel
theorem dX6_clears_59 : decode cX6_clears 59 = .ok (.aload_n 0, 1) := by decide +kernel
theorem dX6_clears_60 : decode cX6_clears 60 = .ok (.getfield 65, 3) := by decide +kernel
theorem dX6_clears_63 : decode cX6_clears 63 = .ok (.iload 5, 2) := by decide +kernel
theorem dX6_clears_65 : decode cX6_clears 65 = .ok (.laload, 1) := by decide +kernel
theorem dX6_clears_66 : decode cX6_clears 66 = .ok (.aload_n 0, 1) := by decide +kernel
theorem dX6_clears_67 : decode cX6_clears 67 = .ok (.getfield 65, 3) := by decide +kernel
theorem dX6_clears_70 : decode cX6_clears 70 = .ok (.iload 6, 2) := by decide +kernel
theorem dX6_clears_72 : decode cX6_clears 72 = .ok (.laload, 1) := by decide +kernel
theorem dX6_clears_73 : decode cX6_clears 73 = .ok (.aload_n 0, 1) := by decide +kernel
theorem dX6_clears_74 : decode cX6_clears 74 = .ok (.getfield 62, 3) := by decide +kernel
theorem dX6_clears_77 : decode cX6_clears 77 = .ok (.iload 6, 2) := by decide +kernel
theorem dX6_clears_79 : decode cX6_clears 79 = .ok (.laload, 1) := by decide +kernel
theorem dX6_clears_80 : decode cX6_clears 80 = .ok (.invokevirtual 231, 3) := by decide +kernel
theorem dX6_clears_83 : decode cX6_clears 83 = .ok (.aload_n 0, 1) := by decide +kernel
theorem dX6_clears_84 : decode cX6_clears 84 = .ok (.getfield 210, 3) := by decide +kernel
theorem dX6_clears_87 : decode cX6_clears 87 = .ok (.lstore 7, 2) := by decide +kernel
theorem dX6_clears_89 : decode cX6_clears 89 = .ok (.aload_n 0, 1) := by decide +kernel
theorem dX6_clears_90 : decode cX6_clears 90 = .ok (.getfield 214, 3) := by decide +kernel
theorem dX6_clears_93 : decode cX6_clears 93 = .ok (.lstore 9, 2) := by decide +kernel
theorem dX6_clears_95 : decode cX6_clears 95 = .ok (.aload_n 0, 1) := by decide +kernel
theorem dX6_clears_96 : decode cX6_clears 96 = .ok (.iload 4, 2) := by decide +kernel
theorem dX6_clears_98 : decode cX6_clears 98 = .ok (.ifCond .eq 7, 3) := by decide +kernel
theorem dX6_clears_101 : decode cX6_clears 101 = .ok (.iconst 0, 1) := by decide +kernel
theorem dX6_clears_102 : decode cX6_clears 102 = .ok (.goto 4, 3) := by decide +kernel
theorem dX6_clears_105 : decode cX6_clears 105 = .ok (.iconst 1, 1) := by decide +kernel
theorem dX6_clears_106 : decode cX6_clears 106 = .ok (.iload_n 2, 1) := by decide +kernel
theorem dX6_clears_107 : decode cX6_clears 107 = .ok (.iconst 1, 1) := by decide +kernel
theorem dX6_clears_108 : decode cX6_clears 108 = .ok (.isub, 1) := by decide +kernel
theorem dX6_clears_109 : decode cX6_clears 109 = .ok (.lload 7, 2) := by decide +kernel
theorem dX6_clears_111 : decode cX6_clears 111 = .ok (.lload 9, 2) := by decide +kernel
theorem dX6_clears_113 : decode cX6_clears 113 = .ok (.invokevirtual 235, 3) := by decide +kernel
theorem dX6_clears_116 : decode cX6_clears 116 = .ok (.iconst 0, 1) := by decide +kernel
theorem dX6_clears_117 : decode cX6_clears 117 = .ok (.istore 11, 2) := by decide +kernel
theorem dX6_clears_119 : decode cX6_clears 119 = .ok (.iload 11, 2) := by decide +kernel
theorem dX6_clears_121 : decode cX6_clears 121 = .ok (.iload_n 1, 1) := by decide +kernel
theorem dX6_clears_122 : decode cX6_clears 122 = .ok (.if_icmp .ge 145, 3) := by decide +kernel
theorem dX6_clears_125 : decode cX6_clears 125 = .ok (.iload_n 2, 1) := by decide +kernel
theorem dX6_clears_126 : decode cX6_clears 126 = .ok (.iload 11, 2) := by decide +kernel
theorem dX6_clears_128 : decode cX6_clears 128 = .ok (.iload 4, 2) := by decide +kernel
theorem dX6_clears_130 : decode cX6_clears 130 = .ok (.invokestatic 227, 3) := by decide +kernel
theorem dX6_clears_133 : decode cX6_clears 133 = .ok (.istore 12, 2) := by decide +kernel
theorem dX6_clears_135 : decode cX6_clears 135 = .ok (.iload_n 2, 1) := by decide +kernel
theorem dX6_clears_136 : decode cX6_clears 136 = .ok (.iconst 1, 1) := by decide +kernel
theorem dX6_clears_137 : decode cX6_clears 137 = .ok (.isub, 1) := by decide +kernel
theorem dX6_clears_138 : decode cX6_clears 138 = .ok (.iload 11, 2) := by decide +kernel
theorem dX6_clears_140 : decode cX6_clears 140 = .ok (.iload 4, 2) := by decide +kernel
theorem dX6_clears_142 : decode cX6_clears 142 = .ok (.invokestatic 227, 3) := by decide +kernel
theorem dX6_clears_145 : decode cX6_clears 145 = .ok (.istore 13, 2) := by decide +kernel
theorem dX6_clears_147 : decode cX6_clears 147 = .ok (.aload_n 0, 1) := by decide +kernel
theorem dX6_clears_148 : decode cX6_clears 148 = .ok (.lload 7, 2) := by decide +kernel
theorem dX6_clears_150 : decode cX6_clears 150 = .ok (.lload 9, 2) := by decide +kernel
theorem dX6_clears_152 : decode cX6_clears 152 = .ok (.aload_n 0, 1) := by decide +kernel
theorem dX6_clears_153 : decode cX6_clears 153 = .ok (.getfield 62, 3) := by decide +kernel
theorem dX6_clears_156 : decode cX6_clears 156 = .ok (.iload 13, 2) := by decide +kernel
theorem dX6_clears_158 : decode cX6_clears 158 = .ok (.laload, 1) := by decide +kernel
theorem dX6_clears_159 : decode cX6_clears 159 = .ok (.aload_n 0, 1) := by decide +kernel
theorem dX6_clears_160 : decode cX6_clears 160 = .ok (.getfield 65, 3) := by decide +kernel
theorem dX6_clears_163 : decode cX6_clears 163 = .ok (.iload 13, 2) := by decide +kernel
theorem dX6_clears_165 : decode cX6_clears 165 = .ok (.laload, 1) := by decide +kernel
theorem dX6_clears_166 : decode cX6_clears 166 = .ok (.invokevirtual 231, 3) := by decide +kernel
theorem dX6_clears_169 : decode cX6_clears 169 = .ok (.aload_n 0, 1) := by decide +kernel
theorem dX6_clears_170 : decode cX6_clears 170 = .ok (.getfield 65, 3) := by decide +kernel
theorem dX6_clears_173 : decode cX6_clears 173 = .ok (.iload 12, 2) := by decide +kernel
theorem dX6_clears_175 : decode cX6_clears 175 = .ok (.laload, 1) := by decide +kernel
theorem dX6_clears_176 : decode cX6_clears 176 = .ok (.aload_n 0, 1) := by decide +kernel
theorem dX6_clears_177 : decode cX6_clears 177 = .ok (.getfield 214, 3) := by decide +kernel
theorem dX6_clears_180 : decode cX6_clears 180 = .ok (.invokestatic 206, 3) := by decide +kernel
theorem dX6_clears_183 : decode cX6_clears 183 = .ok (.lstore 14, 2) := by decide +kernel
theorem dX6_clears_185 : decode cX6_clears 185 = .ok (.aload_n 0, 1) := by decide +kernel
theorem dX6_clears_186 : decode cX6_clears 186 = .ok (.getfield 62, 3) := by decide +kernel
theorem dX6_clears_189 : decode cX6_clears 189 = .ok (.iload 12, 2) := by decide +kernel
theorem dX6_clears_191 : decode cX6_clears 191 = .ok (.laload, 1) := by decide +kernel
theorem dX6_clears_192 : decode cX6_clears 192 = .ok (.aload_n 0, 1) := by decide +kernel
theorem dX6_clears_193 : decode cX6_clears 193 = .ok (.getfield 214, 3) := by decide +kernel
theorem dX6_clears_196 : decode cX6_clears 196 = .ok (.lload 14, 2) := by decide +kernel
theorem dX6_clears_198 : decode cX6_clears 198 = .ok (.ldiv, 1) := by decide +kernel
theorem dX6_clears_199 : decode cX6_clears 199 = .ok (.lmul, 1) := by decide +kernel
theorem dX6_clears_200 : decode cX6_clears 200 = .ok (.aload_n 0, 1) := by decide +kernel
theorem dX6_clears_201 : decode cX6_clears 201 = .ok (.getfield 210, 3) := by decide +kernel
theorem dX6_clears_204 : decode cX6_clears 204 = .ok (.aload_n 0, 1) := by decide +kernel
theorem dX6_clears_205 : decode cX6_clears 205 = .ok (.getfield 65, 3) := by decide +kernel
theorem dX6_clears_208 : decode cX6_clears 208 = .ok (.iload 12, 2) := by decide +kernel
theorem dX6_clears_210 : decode cX6_clears 210 = .ok (.laload, 1) := by decide +kernel
theorem dX6_clears_211 : decode cX6_clears 211 = .ok (.lload 14, 2) := by decide +kernel
theorem dX6_clears_213 : decode cX6_clears 213 = .ok (.ldiv, 1) := by decide +kernel
theorem dX6_clears_214 : decode cX6_clears 214 = .ok (.lmul, 1) := by decide +kernel
theorem dX6_clears_215 : decode cX6_clears 215 = .ok (.lsub, 1) := by decide +kernel
theorem dX6_clears_216 : decode cX6_clears 216 = .ok (.lstore 16, 2) := by decide +kernel
theorem dX6_clears_218 : decode cX6_clears 218 = .ok (.aload_n 0, 1) := by decide +kernel
theorem dX6_clears_219 : decode cX6_clears 219 = .ok (.lload 16, 2) := by decide +kernel
theorem dX6_clears_221 : decode cX6_clears 221 = .ok (.aload_n 0, 1) := by decide +kernel
theorem dX6_clears_222 : decode cX6_clears 222 = .ok (.getfield 65, 3) := by decide +kernel
theorem dX6_clears_225 : decode cX6_clears 225 = .ok (.iload 12, 2) := by decide +kernel
theorem dX6_clears_227 : decode cX6_clears 227 = .ok (.laload, 1) := by decide +kernel
theorem dX6_clears_228 : decode cX6_clears 228 = .ok (.lload 14, 2) := by decide +kernel
theorem dX6_clears_230 : decode cX6_clears 230 = .ok (.ldiv, 1) := by decide +kernel
theorem dX6_clears_231 : decode cX6_clears 231 = .ok (.aload_n 0, 1) := by decide +kernel
theorem dX6_clears_232 : decode cX6_clears 232 = .ok (.getfield 214, 3) := by decide +kernel
theorem dX6_clears_235 : decode cX6_clears 235 = .ok (.lmul, 1) := by decide +kernel
theorem dX6_clears_236 : decode cX6_clears 236 = .ok (.invokevirtual 217, 3) := by decide +kernel
theorem dX6_clears_239 : decode cX6_clears 239 = .ok (.aload_n 0, 1) := by decide +kernel
theorem dX6_clears_240 : decode cX6_clears 240 = .ok (.getfield 62, 3) := by decide +kernel
theorem dX6_clears_243 : decode cX6_clears 243 = .ok (.iload 12, 2) := by decide +kernel
theorem dX6_clears_245 : decode cX6_clears 245 = .ok (.aload_n 0, 1) := by decide +kernel
theorem dX6_clears_246 : decode cX6_clears 246 = .ok (.getfield 210, 3) := by decide +kernel
theorem dX6_clears_249 : decode cX6_clears 249 = .ok (.lastore, 1) := by decide +kernel
theorem dX6_clears_250 : decode cX6_clears 250 = .ok (.aload_n 0, 1) := by decide +kernel
theorem dX6_clears_251 : decode cX6_clears 251 = .ok (.getfield 65, 3) := by decide +kernel
theorem dX6_clears_254 : decode cX6_clears 254 = .ok (.iload 12, 2) := by decide +kernel
theorem dX6_clears_256 : decode cX6_clears 256 = .ok (.aload_n 0, 1) := by decide +kernel
theorem dX6_clears_257 : decode cX6_clears 257 = .ok (.getfield 214, 3) := by decide +kernel
theorem dX6_clears_260 : decode cX6_clears 260 = .ok (.lastore, 1) := by decide +kernel
theorem dX6_clears_261 : decode cX6_clears 261 = .ok (.iinc 11 1, 3) := by decide +kernel
theorem dX6_clears_264 : decode cX6_clears 264 = .ok (.goto (-145), 3) := by decide +kernel
theorem dX6_clears_267 : decode cX6_clears 267 = .ok (.return_, 1) := by decide +kernel
theorem dX6_make_0 : decode cX6_make 0 = .ok (.aload_n 0, 1) := by decide +kernel
theorem dX6_make_1 : decode cX6_make 1 = .ok (.iload_n 1, 1) := by decide +kernel
theorem dX6_make_2 : decode cX6_make 2 = .ok (.invokevirtual 98, 3) := by decide +kernel
theorem dX6_make_5 : decode cX6_make 5 = .ok (.ifCond .ne 10, 3) := by decide +kernel
theorem dX6_make_8 : decode cX6_make 8 = .ok (.aload_n 0, 1) := by decide +kernel
theorem dX6_make_9 : decode cX6_make 9 = .ok (.bipush (-3), 2) := by decide +kernel
theorem dX6_make_11 : decode cX6_make 11 = .ok (.invokevirtual 80, 3) := by decide +kernel
theorem dX6_make_14 : decode cX6_make 14 = .ok (.ireturn, 1) := by decide +kernel
theorem dX6_make_15 : decode cX6_make 15 = .ok (.aload_n 0, 1) := by decide +kernel
theorem dX6_make_16 : decode cX6_make 16 = .ok (.getfield 13, 3) := by decide +kernel
theorem dX6_make_19 : decode cX6_make 19 = .ok (.iload_n 1, 1) := by decide +kernel
theorem dX6_make_20 : decode cX6_make 20 = .ok (.iaload, 1) := by decide +kernel
theorem dX6_make_21 : decode cX6_make 21 = .ok (.istore_n 2, 1) := by decide +kernel
theorem dX6_make_22 : decode cX6_make 22 = .ok (.iload_n 2, 1) := by decide +kernel
theorem dX6_make_23 : decode cX6_make 23 = .ok (.aload_n 0, 1) := by decide +kernel
theorem dX6_make_24 : decode cX6_make 24 = .ok (.getfield 16, 3) := by decide +kernel
theorem dX6_make_27 : decode cX6_make 27 = .ok (.iload_n 1, 1) := by decide +kernel
theorem dX6_make_28 : decode cX6_make 28 = .ok (.iaload, 1) := by decide +kernel
theorem dX6_make_29 : decode cX6_make 29 = .ok (.if_icmp .ne 8, 3) := by decide +kernel
theorem dX6_make_32 : decode cX6_make 32 = .ok (.iload_n 2, 1) := by decide +kernel
theorem dX6_make_33 : decode cX6_make 33 = .ok (.iconst 3, 1) := by decide +kernel
theorem dX6_make_34 : decode cX6_make 34 = .ok (.if_icmp .le 10, 3) := by decide +kernel
theorem dX6_make_37 : decode cX6_make 37 = .ok (.aload_n 0, 1) := by decide +kernel
theorem dX6_make_38 : decode cX6_make 38 = .ok (.bipush (-7), 2) := by decide +kernel
theorem dX6_make_40 : decode cX6_make 40 = .ok (.invokevirtual 80, 3) := by decide +kernel
theorem dX6_make_43 : decode cX6_make 43 = .ok (.ireturn, 1) := by decide +kernel
theorem dX6_make_44 : decode cX6_make 44 = .ok (.aload_n 0, 1) := by decide +kernel
theorem dX6_make_45 : decode cX6_make 45 = .ok (.iconst 0, 1) := by decide +kernel
theorem dX6_make_46 : decode cX6_make 46 = .ok (.putfield 221, 3) := by decide +kernel
theorem dX6_make_49 : decode cX6_make 49 = .ok (.aload_n 0, 1) := by decide +kernel
theorem dX6_make_50 : decode cX6_make 50 = .ok (.iconst 1, 1) := by decide +kernel
theorem dX6_make_51 : decode cX6_make 51 = .ok (.putfield 224, 3) := by decide +kernel
theorem dX6_make_54 : decode cX6_make 54 = .ok (.iconst 0, 1) := by decide +kernel
theorem dX6_make_55 : decode cX6_make 55 = .ok (.istore_n 3, 1) := by decide +kernel
theorem dX6_make_56 : decode cX6_make 56 = .ok (.iload_n 3, 1) := by decide +kernel
theorem dX6_make_57 : decode cX6_make 57 = .ok (.iload_n 2, 1) := by decide +kernel
theorem dX6_make_58 : decode cX6_make 58 = .ok (.if_icmp .ge 60, 3) := by decide +kernel
theorem dX6_make_61 : decode cX6_make 61 = .ok (.iconst 0, 1) := by decide +kernel
theorem dX6_make_62 : decode cX6_make 62 = .ok (.istore 4, 2) := by decide +kernel
theorem dX6_make_64 : decode cX6_make 64 = .ok (.iload 4, 2) := by decide +kernel
theorem dX6_make_66 : decode cX6_make 66 = .ok (.iload_n 2, 1) := by decide +kernel
theorem dX6_make_67 : decode cX6_make 67 = .ok (.if_icmp .ge 45, 3) := by decide +kernel
theorem dX6_make_70 : decode cX6_make 70 = .ok (.aload_n 0, 1) := by decide +kernel
theorem dX6_make_71 : decode cX6_make 71 = .ok (.getfield 62, 3) := by decide +kernel
theorem dX6_make_74 : decode cX6_make 74 = .ok (.iconst 3, 1) := by decide +kernel
theorem dX6_make_75 : decode cX6_make 75 = .ok (.iload_n 3, 1) := by decide +kernel
theorem dX6_make_76 : decode cX6_make 76 = .ok (.imul, 1) := by decide +kernel
theorem dX6_make_77 : decode cX6_make 77 = .ok (.iload 4, 2) := by decide +kernel
theorem dX6_make_79 : decode cX6_make 79 = .ok (.iadd, 1) := by decide +kernel
theorem dX6_make_80 : decode cX6_make 80 = .ok (.aload_n 0, 1) := by decide +kernel
theorem dX6_make_81 : decode cX6_make 81 = .ok (.getfield 7, 3) := by decide +kernel
theorem dX6_make_84 : decode cX6_make 84 = .ok (.iload_n 1, 1) := by decide +kernel
theorem dX6_make_85 : decode cX6_make 85 = .ok (.iload_n 3, 1) := by decide +kernel
theorem dX6_make_86 : decode cX6_make 86 = .ok (.iload 4, 2) := by decide +kernel
theorem dX6_make_88 : decode cX6_make 88 = .ok (.invokestatic 113, 3) := by decide +kernel
theorem dX6_make_91 : decode cX6_make 91 = .ok (.iaload, 1) := by decide +kernel
theorem dX6_make_92 : decode cX6_make 92 = .ok (.i2l, 1) := by decide +kernel
theorem dX6_make_93 : decode cX6_make 93 = .ok (.lastore, 1) := by decide +kernel
theorem dX6_make_94 : decode cX6_make 94 = .ok (.aload_n 0, 1) := by decide +kernel
theorem dX6_make_95 : decode cX6_make 95 = .ok (.getfield 65, 3) := by decide +kernel
theorem dX6_make_98 : decode cX6_make 98 = .ok (.iconst 3, 1) := by decide +kernel
theorem dX6_make_99 : decode cX6_make 99 = .ok (.iload_n 3, 1) := by decide +kernel
theorem dX6_make_100 : decode cX6_make 100 = .ok (.imul, 1) := by decide +kernel
theorem dX6_make_101 : decode cX6_make 101 = .ok (.iload 4, 2) := by decide +kernel
theorem dX6_make_103 : decode cX6_make 103 = .ok (.iadd, 1) := by decide +kernel
theorem dX6_make_104 : decode cX6_make 104 = .ok (.lconst 1, 1) := by decide +kernel
theorem dX6_make_105 : decode cX6_make 105 = .ok (.lastore, 1) := by decide +kernel
theorem dX6_make_106 : decode cX6_make 106 = .ok (.iinc 4 1, 3) := by decide +kernel
theorem dX6_make_109 : decode cX6_make 109 = .ok (.goto (-45), 3) := by decide +kernel
theorem dX6_make_112 : decode cX6_make 112 = .ok (.iinc 3 1, 3) := by decide +kernel
theorem dX6_make_115 : decode cX6_make 115 = .ok (.goto (-59), 3) := by decide +kernel
theorem dX6_make_118 : decode cX6_make 118 = .ok (.iconst 0, 1) := by decide +kernel
theorem dX6_make_119 : decode cX6_make 119 = .ok (.istore_n 3, 1) := by decide +kernel
theorem dX6_make_120 : decode cX6_make 120 = .ok (.iload_n 3, 1) := by decide +kernel
theorem dX6_make_121 : decode cX6_make 121 = .ok (.iconst 2, 1) := by decide +kernel
theorem dX6_make_122 : decode cX6_make 122 = .ok (.if_icmp .ge 68, 3) := by decide +kernel
theorem dX6_make_125 : decode cX6_make 125 = .ok (.iconst 0, 1) := by decide +kernel
theorem dX6_make_126 : decode cX6_make 126 = .ok (.istore 4, 2) := by decide +kernel
theorem dX6_make_128 : decode cX6_make 128 = .ok (.iload 4, 2) := by decide +kernel
theorem dX6_make_130 : decode cX6_make 130 = .ok (.iload_n 2, 1) := by decide +kernel
theorem dX6_make_131 : decode cX6_make 131 = .ok (.if_icmp .ge 53, 3) := by decide +kernel
theorem dX6_make_134 : decode cX6_make 134 = .ok (.iload_n 2, 1) := by decide +kernel
theorem dX6_make_135 : decode cX6_make 135 = .ok (.iconst 1, 1) := by decide +kernel
theorem dX6_make_136 : decode cX6_make 136 = .ok (.isub, 1) := by decide +kernel
theorem dX6_make_137 : decode cX6_make 137 = .ok (.istore 5, 2) := by decide +kernel
theorem dX6_make_139 : decode cX6_make 139 = .ok (.iload 5, 2) := by decide +kernel
theorem dX6_make_141 : decode cX6_make 141 = .ok (.iload 4, 2) := by decide +kernel
theorem dX6_make_143 : decode cX6_make 143 = .ok (.if_icmp .le 35, 3) := by decide +kernel
theorem dX6_make_146 : decode cX6_make 146 = .ok (.aload_n 0, 1) := by decide +kernel
theorem dX6_make_147 : decode cX6_make 147 = .ok (.getfield 224, 3) := by decide +kernel
theorem dX6_make_150 : decode cX6_make 150 = .ok (.ifCond .eq 28, 3) := by decide +kernel
theorem dX6_make_153 : decode cX6_make 153 = .ok (.aload_n 0, 1) := by decide +kernel
theorem dX6_make_154 : decode cX6_make 154 = .ok (.iload_n 2, 1) := by decide +kernel
theorem dX6_make_155 : decode cX6_make 155 = .ok (.iload 5, 2) := by decide +kernel
theorem dX6_make_157 : decode cX6_make 157 = .ok (.iload 4, 2) := by decide +kernel
theorem dX6_make_159 : decode cX6_make 159 = .ok (.iload_n 3, 1) := by decide +kernel
theorem dX6_make_160 : decode cX6_make 160 = .ok (.iconst 1, 1) := by decide +kernel
theorem dX6_make_161 : decode cX6_make 161 = .ok (.if_icmp .ne 7, 3) := by decide +kernel
theorem dX6_make_164 : decode cX6_make 164 = .ok (.iconst 1, 1) := by decide +kernel
theorem dX6_make_165 : decode cX6_make 165 = .ok (.goto 4, 3) := by decide +kernel
theorem dX6_make_168 : decode cX6_make 168 = .ok (.iconst 0, 1) := by decide +kernel
theorem dX6_make_169 : decode cX6_make 169 = .ok (.invokevirtual 238, 3) := by decide +kernel
theorem dX6_make_172 : decode cX6_make 172 = .ok (.iinc 5 (-1), 3) := by decide +kernel
theorem dX6_make_175 : decode cX6_make 175 = .ok (.goto (-36), 3) := by decide +kernel
theorem dX6_make_178 : decode cX6_make 178 = .ok (.iinc 4 1, 3) := by decide +kernel
theorem dX6_make_181 : decode cX6_make 181 = .ok (.goto (-53), 3) := by decide +kernel
theorem dX6_make_184 : decode cX6_make 184 = .ok (.iinc 3 1, 3) := by decide +kernel
theorem dX6_make_187 : decode cX6_make 187 = .ok (.goto (-67), 3) := by decide +kernel
theorem dX6_make_190 : decode cX6_make 190 = .ok (.iconst 0, 1) := by decide +kernel
theorem dX6_make_191 : decode cX6_make 191 = .ok (.istore_n 3, 1) := by decide +kernel
theorem dX6_make_192 : decode cX6_make 192 = .ok (.iload_n 3, 1) := by decide +kernel
theorem dX6_make_193 : decode cX6_make 193 = .ok (.iload_n 2, 1) := by decide +kernel
theorem dX6_make_194 : decode cX6_make 194 = .ok (.if_icmp .ge 38, 3) := by decide +kernel
theorem dX6_make_197 : decode cX6_make 197 = .ok (.aload_n 0, 1) := by decide +kernel
theorem dX6_make_198 : decode cX6_make 198 = .ok (.getfield 224, 3) := by decide +kernel
theorem dX6_make_201 : decode cX6_make 201 = .ok (.ifCond .eq 31, 3) := by decide +kernel
theorem dX6_make_204 : decode cX6_make 204 = .ok (.aload_n 0, 1) := by decide +kernel
theorem dX6_make_205 : decode cX6_make 205 = .ok (.iconst 2, 1) := by decide +kernel
theorem dX6_make_206 : decode cX6_make 206 = .ok (.iload_n 3, 1) := by decide +kernel
theorem dX6_make_207 : decode cX6_make 207 = .ok (.aload_n 0, 1) := by decide +kernel
theorem dX6_make_208 : decode cX6_make 208 = .ok (.getfield 62, 3) := by decide +kernel
theorem dX6_make_211 : decode cX6_make 211 = .ok (.iconst 4, 1) := by decide +kernel
theorem dX6_make_212 : decode cX6_make 212 = .ok (.iload_n 3, 1) := by decide +kernel
theorem dX6_make_213 : decode cX6_make 213 = .ok (.imul, 1) := by decide +kernel
theorem dX6_make_214 : decode cX6_make 214 = .ok (.laload, 1) := by decide +kernel
theorem dX6_make_215 : decode cX6_make 215 = .ok (.aload_n 0, 1) := by decide +kernel
theorem dX6_make_216 : decode cX6_make 216 = .ok (.getfield 65, 3) := by decide +kernel
theorem dX6_make_219 : decode cX6_make 219 = .ok (.iconst 4, 1) := by decide +kernel
theorem dX6_make_220 : decode cX6_make 220 = .ok (.iload_n 3, 1) := by decide +kernel
theorem dX6_make_221 : decode cX6_make 221 = .ok (.imul, 1) := by decide +kernel
theorem dX6_make_222 : decode cX6_make 222 = .ok (.laload, 1) := by decide +kernel
theorem dX6_make_223 : decode cX6_make 223 = .ok (.invokevirtual 235, 3) := by decide +kernel
theorem dX6_make_226 : decode cX6_make 226 = .ok (.iinc 3 1, 3) := by decide +kernel
theorem dX6_make_229 : decode cX6_make 229 = .ok (.goto (-37), 3) := by decide +kernel
theorem dX6_make_232 : decode cX6_make 232 = .ok (.aload_n 0, 1) := by decide +kernel
theorem dX6_make_233 : decode cX6_make 233 = .ok (.getfield 224, 3) := by decide +kernel
theorem dX6_make_236 : decode cX6_make 236 = .ok (.ifCond .ne 8, 3) := by decide +kernel
theorem dX6_make_239 : decode cX6_make 239 = .ok (.aload_n 0, 1) := by decide +kernel
theorem dX6_make_240 : decode cX6_make 240 = .ok (.iconst 0, 1) := by decide +kernel
theorem dX6_make_241 : decode cX6_make 241 = .ok (.putfield 221, 3) := by decide +kernel
theorem dX6_make_244 : decode cX6_make 244 = .ok (.aload_n 0, 1) := by decide +kernel
theorem dX6_make_245 : decode cX6_make 245 = .ok (.getfield 221, 3) := by decide +kernel
theorem dX6_make_248 : decode cX6_make 248 = .ok (.ireturn, 1) := by decide +kernel
theorem dX6_making_0 : decode cX6_making 0 = .ok (.iload_n 1, 1) := by decide +kernel
theorem dX6_making_1 : decode cX6_making 1 = .ok (.i2l, 1) := by decide +kernel
theorem dX6_making_2 : decode cX6_making 2 = .ok (.lconst 0, 1) := by decide +kernel
theorem dX6_making_3 : decode cX6_making 3 = .ok (.aload_n 0, 1) := by decide +kernel
theorem dX6_making_4 : decode cX6_making 4 = .ok (.getfield 221, 3) := by decide +kernel
theorem dX6_making_7 : decode cX6_making 7 = .ok (.iconst 1, 1) := by decide +kernel
theorem dX6_making_8 : decode cX6_making 8 = .ok (.isub, 1) := by decide +kernel
theorem dX6_making_9 : decode cX6_making 9 = .ok (.i2l, 1) := by decide +kernel
theorem dX6_making_10 : decode cX6_making 10 = .ok (.invokestatic 90, 3) := by decide +kernel
theorem dX6_making_13 : decode cX6_making 13 = .ok (.ifCond .ne 11, 3) := by decide +kernel
theorem dX6_making_16 : decode cX6_making 16 = .ok (.aload_n 0, 1) := by decide +kernel
theorem dX6_making_17 : decode cX6_making 17 = .ok (.bipush (-3), 2) := by decide +kernel
theorem dX6_making_19 : decode cX6_making 19 = .ok (.invokevirtual 106, 3) := by decide +kernel
theorem dX6_making_22 : decode cX6_making 22 = .ok (.i2l, 1) := by decide +kernel
theorem dX6_making_23 : decode cX6_making 23 = .ok (.lreturn, 1) := by decide +kernel
theorem dX6_making_24 : decode cX6_making 24 = .ok (.iload_n 2, 1) := by decide +kernel
theorem dX6_making_25 : decode cX6_making 25 = .ok (.tableswitch 61 0 3 #[31, 39, 47, 54], 31) := by decide +kernel
theorem dX6_making_56 : decode cX6_making 56 = .ok (.aload_n 0, 1) := by decide +kernel
theorem dX6_making_57 : decode cX6_making 57 = .ok (.getfield 74, 3) := by decide +kernel
theorem dX6_making_60 : decode cX6_making 60 = .ok (.iload_n 1, 1) := by decide +kernel
theorem dX6_making_61 : decode cX6_making 61 = .ok (.iaload, 1) := by decide +kernel
theorem dX6_making_62 : decode cX6_making 62 = .ok (.i2l, 1) := by decide +kernel
theorem dX6_making_63 : decode cX6_making 63 = .ok (.lreturn, 1) := by decide +kernel
theorem dX6_making_64 : decode cX6_making 64 = .ok (.aload_n 0, 1) := by decide +kernel
theorem dX6_making_65 : decode cX6_making 65 = .ok (.getfield 77, 3) := by decide +kernel
theorem dX6_making_68 : decode cX6_making 68 = .ok (.iload_n 1, 1) := by decide +kernel
theorem dX6_making_69 : decode cX6_making 69 = .ok (.iaload, 1) := by decide +kernel
theorem dX6_making_70 : decode cX6_making 70 = .ok (.i2l, 1) := by decide +kernel
theorem dX6_making_71 : decode cX6_making 71 = .ok (.lreturn, 1) := by decide +kernel
theorem dX6_making_72 : decode cX6_making 72 = .ok (.aload_n 0, 1) := by decide +kernel
theorem dX6_making_73 : decode cX6_making 73 = .ok (.getfield 68, 3) := by decide +kernel
theorem dX6_making_76 : decode cX6_making 76 = .ok (.iload_n 1, 1) := by decide +kernel
theorem dX6_making_77 : decode cX6_making 77 = .ok (.laload, 1) := by decide +kernel
theorem dX6_making_78 : decode cX6_making 78 = .ok (.lreturn, 1) := by decide +kernel
theorem dX6_making_79 : decode cX6_making 79 = .ok (.aload_n 0, 1) := by decide +kernel
theorem dX6_making_80 : decode cX6_making 80 = .ok (.getfield 71, 3) := by decide +kernel
theorem dX6_making_83 : decode cX6_making 83 = .ok (.iload_n 1, 1) := by decide +kernel
theorem dX6_making_84 : decode cX6_making 84 = .ok (.laload, 1) := by decide +kernel
theorem dX6_making_85 : decode cX6_making 85 = .ok (.lreturn, 1) := by decide +kernel
theorem dX6_making_86 : decode cX6_making 86 = .ok (.aload_n 0, 1) := by decide +kernel
theorem dX6_making_87 : decode cX6_making 87 = .ok (.bipush (-7), 2) := by decide +kernel
theorem dX6_making_89 : decode cX6_making 89 = .ok (.invokevirtual 106, 3) := by decide +kernel
theorem dX6_making_92 : decode cX6_making 92 = .ok (.i2l, 1) := by decide +kernel
theorem dX6_making_93 : decode cX6_making 93 = .ok (.lreturn, 1) := by decide +kernel
theorem dX6_lay_0 : decode cX6_lay 0 = .ok (.aload_n 0, 1) := by decide +kernel
theorem dX6_lay_1 : decode cX6_lay 1 = .ok (.iload_n 1, 1) := by decide +kernel
theorem dX6_lay_2 : decode cX6_lay 2 = .ok (.invokevirtual 98, 3) := by decide +kernel
theorem dX6_lay_5 : decode cX6_lay 5 = .ok (.ifCond .eq 21, 3) := by decide +kernel
theorem dX6_lay_8 : decode cX6_lay 8 = .ok (.iload_n 2, 1) := by decide +kernel
theorem dX6_lay_9 : decode cX6_lay 9 = .ok (.i2l, 1) := by decide +kernel
theorem dX6_lay_10 : decode cX6_lay 10 = .ok (.lconst 0, 1) := by decide +kernel
theorem dX6_lay_11 : decode cX6_lay 11 = .ok (.aload_n 0, 1) := by decide +kernel
theorem dX6_lay_12 : decode cX6_lay 12 = .ok (.getfield 13, 3) := by decide +kernel
theorem dX6_lay_15 : decode cX6_lay 15 = .ok (.iload_n 1, 1) := by decide +kernel
theorem dX6_lay_16 : decode cX6_lay 16 = .ok (.iaload, 1) := by decide +kernel
theorem dX6_lay_17 : decode cX6_lay 17 = .ok (.iconst 1, 1) := by decide +kernel
theorem dX6_lay_18 : decode cX6_lay 18 = .ok (.isub, 1) := by decide +kernel
theorem dX6_lay_19 : decode cX6_lay 19 = .ok (.i2l, 1) := by decide +kernel
theorem dX6_lay_20 : decode cX6_lay 20 = .ok (.invokestatic 90, 3) := by decide +kernel
theorem dX6_lay_23 : decode cX6_lay 23 = .ok (.ifCond .ne 10, 3) := by decide +kernel
theorem dX6_lay_26 : decode cX6_lay 26 = .ok (.aload_n 0, 1) := by decide +kernel
theorem dX6_lay_27 : decode cX6_lay 27 = .ok (.bipush (-3), 2) := by decide +kernel
theorem dX6_lay_29 : decode cX6_lay 29 = .ok (.invokevirtual 80, 3) := by decide +kernel
theorem dX6_lay_32 : decode cX6_lay 32 = .ok (.ireturn, 1) := by decide +kernel
theorem dX6_lay_33 : decode cX6_lay 33 = .ok (.aload_n 0, 1) := by decide +kernel
theorem dX6_lay_34 : decode cX6_lay 34 = .ok (.iconst 1, 1) := by decide +kernel
theorem dX6_lay_35 : decode cX6_lay 35 = .ok (.putfield 187, 3) := by decide +kernel
theorem dX6_lay_38 : decode cX6_lay 38 = .ok (.iconst 0, 1) := by decide +kernel
theorem dX6_lay_39 : decode cX6_lay 39 = .ok (.istore_n 3, 1) := by decide +kernel
theorem dX6_lay_40 : decode cX6_lay 40 = .ok (.iload_n 3, 1) := by decide +kernel
theorem dX6_lay_41 : decode cX6_lay 41 = .ok (.bipush 16, 2) := by decide +kernel
theorem dX6_lay_43 : decode cX6_lay 43 = .ok (.if_icmp .ge 40, 3) := by decide +kernel
theorem dX6_lay_46 : decode cX6_lay 46 = .ok (.aload_n 0, 1) := by decide +kernel
theorem dX6_lay_47 : decode cX6_lay 47 = .ok (.getfield 56, 3) := by decide +kernel
theorem dX6_lay_50 : decode cX6_lay 50 = .ok (.iload_n 3, 1) := by decide +kernel
theorem dX6_lay_51 : decode cX6_lay 51 = .ok (.iload_n 3, 1) := by decide +kernel
theorem dX6_lay_52 : decode cX6_lay 52 = .ok (.aload_n 0, 1) := by decide +kernel
theorem dX6_lay_53 : decode cX6_lay 53 = .ok (.getfield 16, 3) := by decide +kernel
theorem dX6_lay_56 : decode cX6_lay 56 = .ok (.iload_n 1, 1) := by decide +kernel
theorem dX6_lay_57 : decode cX6_lay 57 = .ok (.iaload, 1) := by decide +kernel
theorem dX6_lay_58 : decode cX6_lay 58 = .ok (.if_icmp .ge 17, 3) := by decide +kernel
theorem dX6_lay_61 : decode cX6_lay 61 = .ok (.aload_n 0, 1) := by decide +kernel
theorem dX6_lay_62 : decode cX6_lay 62 = .ok (.getfield 7, 3) := by decide +kernel
theorem dX6_lay_65 : decode cX6_lay 65 = .ok (.iload_n 1, 1) := by decide +kernel
theorem dX6_lay_66 : decode cX6_lay 66 = .ok (.iload_n 2, 1) := by decide +kernel
theorem dX6_lay_67 : decode cX6_lay 67 = .ok (.iload_n 3, 1) := by decide +kernel
theorem dX6_lay_68 : decode cX6_lay 68 = .ok (.invokestatic 113, 3) := by decide +kernel
theorem dX6_lay_71 : decode cX6_lay 71 = .ok (.iaload, 1) := by decide +kernel
theorem dX6_lay_72 : decode cX6_lay 72 = .ok (.goto 4, 3) := by decide +kernel
theorem dX6_lay_75 : decode cX6_lay 75 = .ok (.iconst 0, 1) := by decide +kernel
theorem dX6_lay_76 : decode cX6_lay 76 = .ok (.iastore, 1) := by decide +kernel
theorem dX6_lay_77 : decode cX6_lay 77 = .ok (.iinc 3 1, 3) := by decide +kernel
theorem dX6_lay_80 : decode cX6_lay 80 = .ok (.goto (-40), 3) := by decide +kernel
theorem dX6_lay_83 : decode cX6_lay 83 = .ok (.aload_n 0, 1) := by decide +kernel
theorem dX6_lay_84 : decode cX6_lay 84 = .ok (.getfield 16, 3) := by decide +kernel
theorem dX6_lay_87 : decode cX6_lay 87 = .ok (.iload_n 1, 1) := by decide +kernel
theorem dX6_lay_88 : decode cX6_lay 88 = .ok (.iaload, 1) := by decide +kernel
theorem dX6_lay_89 : decode cX6_lay 89 = .ok (.ireturn, 1) := by decide +kernel
theorem dX6_tear_0 : decode cX6_tear 0 = .ok (.aload_n 0, 1) := by decide +kernel
theorem dX6_tear_1 : decode cX6_tear 1 = .ok (.getfield 187, 3) := by decide +kernel
theorem dX6_tear_4 : decode cX6_tear 4 = .ok (.ifCond .eq 7, 3) := by decide +kernel
theorem dX6_tear_7 : decode cX6_tear 7 = .ok (.iconst 1, 1) := by decide +kernel
theorem dX6_tear_8 : decode cX6_tear 8 = .ok (.goto 4, 3) := by decide +kernel
theorem dX6_tear_11 : decode cX6_tear 11 = .ok (.iconst 0, 1) := by decide +kernel
theorem dX6_tear_12 : decode cX6_tear 12 = .ok (.istore_n 1, 1) := by decide +kernel
theorem dX6_tear_13 : decode cX6_tear 13 = .ok (.aload_n 0, 1) := by decide +kernel
theorem dX6_tear_14 : decode cX6_tear 14 = .ok (.iconst 0, 1) := by decide +kernel
theorem dX6_tear_15 : decode cX6_tear 15 = .ok (.putfield 187, 3) := by decide +kernel
theorem dX6_tear_18 : decode cX6_tear 18 = .ok (.iload_n 1, 1) := by decide +kernel
theorem dX6_tear_19 : decode cX6_tear 19 = .ok (.ireturn, 1) := by decide +kernel
theorem dX6_row_0 : decode cX6_row 0 = .ok (.aload_n 0, 1) := by decide +kernel
theorem dX6_row_1 : decode cX6_row 1 = .ok (.getfield 187, 3) := by decide +kernel
theorem dX6_row_4 : decode cX6_row 4 = .ok (.ifCond .ne 10, 3) := by decide +kernel
theorem dX6_row_7 : decode cX6_row 7 = .ok (.aload_n 0, 1) := by decide +kernel
theorem dX6_row_8 : decode cX6_row 8 = .ok (.bipush (-2), 2) := by decide +kernel
theorem dX6_row_10 : decode cX6_row 10 = .ok (.invokevirtual 106, 3) := by decide +kernel
theorem dX6_row_13 : decode cX6_row 13 = .ok (.ireturn, 1) := by decide +kernel
theorem dX6_row_14 : decode cX6_row 14 = .ok (.iload_n 1, 1) := by decide +kernel
theorem dX6_row_15 : decode cX6_row 15 = .ok (.i2l, 1) := by decide +kernel
theorem dX6_row_16 : decode cX6_row 16 = .ok (.lconst 0, 1) := by decide +kernel
theorem dX6_row_17 : decode cX6_row 17 = .ok (.ldc2_w 191, 3) := by decide +kernel
theorem dX6_row_20 : decode cX6_row 20 = .ok (.invokestatic 90, 3) := by decide +kernel
theorem dX6_row_23 : decode cX6_row 23 = .ok (.ifCond .eq 12, 3) := by decide +kernel
theorem dX6_row_26 : decode cX6_row 26 = .ok (.aload_n 0, 1) := by decide +kernel
theorem dX6_row_27 : decode cX6_row 27 = .ok (.getfield 56, 3) := by decide +kernel
theorem dX6_row_30 : decode cX6_row 30 = .ok (.iload_n 1, 1) := by decide +kernel
theorem dX6_row_31 : decode cX6_row 31 = .ok (.iaload, 1) := by decide +kernel
theorem dX6_row_32 : decode cX6_row 32 = .ok (.goto 9, 3) := by decide +kernel
theorem dX6_row_35 : decode cX6_row 35 = .ok (.aload_n 0, 1) := by decide +kernel
theorem dX6_row_36 : decode cX6_row 36 = .ok (.bipush (-3), 2) := by decide +kernel
theorem dX6_row_38 : decode cX6_row 38 = .ok (.invokevirtual 106, 3) := by decide +kernel
theorem dX6_row_41 : decode cX6_row 41 = .ok (.ireturn, 1) := by decide +kernel
theorem dX6_copy_0 : decode cX6_copy 0 = .ok (.aload_n 0, 1) := by decide +kernel
theorem dX6_copy_1 : decode cX6_copy 1 = .ok (.getfield 187, 3) := by decide +kernel
theorem dX6_copy_4 : decode cX6_copy 4 = .ok (.ifCond .ne 10, 3) := by decide +kernel
theorem dX6_copy_7 : decode cX6_copy 7 = .ok (.aload_n 0, 1) := by decide +kernel
theorem dX6_copy_8 : decode cX6_copy 8 = .ok (.bipush (-2), 2) := by decide +kernel
theorem dX6_copy_10 : decode cX6_copy 10 = .ok (.invokevirtual 80, 3) := by decide +kernel
theorem dX6_copy_13 : decode cX6_copy 13 = .ok (.ireturn, 1) := by decide +kernel
theorem dX6_copy_14 : decode cX6_copy 14 = .ok (.iload_n 3, 1) := by decide +kernel
theorem dX6_copy_15 : decode cX6_copy 15 = .ok (.ifCond .ge 10, 3) := by decide +kernel
theorem dX6_copy_18 : decode cX6_copy 18 = .ok (.aload_n 0, 1) := by decide +kernel
theorem dX6_copy_19 : decode cX6_copy 19 = .ok (.bipush (-4), 2) := by decide +kernel
theorem dX6_copy_21 : decode cX6_copy 21 = .ok (.invokevirtual 80, 3) := by decide +kernel
theorem dX6_copy_24 : decode cX6_copy 24 = .ok (.ireturn, 1) := by decide +kernel
theorem dX6_copy_25 : decode cX6_copy 25 = .ok (.iload_n 1, 1) := by decide +kernel
theorem dX6_copy_26 : decode cX6_copy 26 = .ok (.ifCond .lt 31, 3) := by decide +kernel
theorem dX6_copy_29 : decode cX6_copy 29 = .ok (.iload_n 2, 1) := by decide +kernel
theorem dX6_copy_30 : decode cX6_copy 30 = .ok (.ifCond .lt 27, 3) := by decide +kernel
theorem dX6_copy_33 : decode cX6_copy 33 = .ok (.iload_n 1, 1) := by decide +kernel
theorem dX6_copy_34 : decode cX6_copy 34 = .ok (.i2l, 1) := by decide +kernel
theorem dX6_copy_35 : decode cX6_copy 35 = .ok (.iload_n 3, 1) := by decide +kernel
theorem dX6_copy_36 : decode cX6_copy 36 = .ok (.i2l, 1) := by decide +kernel
theorem dX6_copy_37 : decode cX6_copy 37 = .ok (.ladd, 1) := by decide +kernel
theorem dX6_copy_38 : decode cX6_copy 38 = .ok (.ldc2_w 242, 3) := by decide +kernel
theorem dX6_copy_41 : decode cX6_copy 41 = .ok (.lcmp, 1) := by decide +kernel
theorem dX6_copy_42 : decode cX6_copy 42 = .ok (.ifCond .gt 15, 3) := by decide +kernel
theorem dX6_copy_45 : decode cX6_copy 45 = .ok (.iload_n 2, 1) := by decide +kernel
theorem dX6_copy_46 : decode cX6_copy 46 = .ok (.i2l, 1) := by decide +kernel
theorem dX6_copy_47 : decode cX6_copy 47 = .ok (.iload_n 3, 1) := by decide +kernel
theorem dX6_copy_48 : decode cX6_copy 48 = .ok (.i2l, 1) := by decide +kernel
theorem dX6_copy_49 : decode cX6_copy 49 = .ok (.ladd, 1) := by decide +kernel
theorem dX6_copy_50 : decode cX6_copy 50 = .ok (.ldc2_w 242, 3) := by decide +kernel
theorem dX6_copy_53 : decode cX6_copy 53 = .ok (.lcmp, 1) := by decide +kernel
theorem dX6_copy_54 : decode cX6_copy 54 = .ok (.ifCond .le 10, 3) := by decide +kernel
theorem dX6_copy_57 : decode cX6_copy 57 = .ok (.aload_n 0, 1) := by decide +kernel
theorem dX6_copy_58 : decode cX6_copy 58 = .ok (.bipush (-6), 2) := by decide +kernel
theorem dX6_copy_60 : decode cX6_copy 60 = .ok (.invokevirtual 80, 3) := by decide +kernel
theorem dX6_copy_63 : decode cX6_copy 63 = .ok (.ireturn, 1) := by decide +kernel
theorem dX6_copy_64 : decode cX6_copy 64 = .ok (.iconst 0, 1) := by decide +kernel
theorem dX6_copy_65 : decode cX6_copy 65 = .ok (.istore 4, 2) := by decide +kernel
theorem dX6_copy_67 : decode cX6_copy 67 = .ok (.iload 4, 2) := by decide +kernel
theorem dX6_copy_69 : decode cX6_copy 69 = .ok (.iload_n 3, 1) := by decide +kernel
theorem dX6_copy_70 : decode cX6_copy 70 = .ok (.if_icmp .ge 25, 3) := by decide +kernel
theorem dX6_copy_73 : decode cX6_copy 73 = .ok (.aload_n 0, 1) := by decide +kernel
theorem dX6_copy_74 : decode cX6_copy 74 = .ok (.getfield 59, 3) := by decide +kernel
theorem dX6_copy_77 : decode cX6_copy 77 = .ok (.iload 4, 2) := by decide +kernel
theorem dX6_copy_79 : decode cX6_copy 79 = .ok (.aload_n 0, 1) := by decide +kernel
theorem dX6_copy_80 : decode cX6_copy 80 = .ok (.getfield 56, 3) := by decide +kernel
theorem dX6_copy_83 : decode cX6_copy 83 = .ok (.iload_n 1, 1) := by decide +kernel
theorem dX6_copy_84 : decode cX6_copy 84 = .ok (.iload 4, 2) := by decide +kernel
theorem dX6_copy_86 : decode cX6_copy 86 = .ok (.iadd, 1) := by decide +kernel
theorem dX6_copy_87 : decode cX6_copy 87 = .ok (.iaload, 1) := by decide +kernel
theorem dX6_copy_88 : decode cX6_copy 88 = .ok (.iastore, 1) := by decide +kernel
theorem dX6_copy_89 : decode cX6_copy 89 = .ok (.iinc 4 1, 3) := by decide +kernel
theorem dX6_copy_92 : decode cX6_copy 92 = .ok (.goto (-25), 3) := by decide +kernel
theorem dX6_copy_95 : decode cX6_copy 95 = .ok (.iconst 0, 1) := by decide +kernel
theorem dX6_copy_96 : decode cX6_copy 96 = .ok (.istore 4, 2) := by decide +kernel
theorem dX6_copy_98 : decode cX6_copy 98 = .ok (.iload 4, 2) := by decide +kernel
theorem dX6_copy_100 : decode cX6_copy 100 = .ok (.iload_n 3, 1) := by decide +kernel
theorem dX6_copy_101 : decode cX6_copy 101 = .ok (.if_icmp .ge 25, 3) := by decide +kernel
theorem dX6_copy_104 : decode cX6_copy 104 = .ok (.aload_n 0, 1) := by decide +kernel
theorem dX6_copy_105 : decode cX6_copy 105 = .ok (.getfield 56, 3) := by decide +kernel
theorem dX6_copy_108 : decode cX6_copy 108 = .ok (.iload_n 2, 1) := by decide +kernel
theorem dX6_copy_109 : decode cX6_copy 109 = .ok (.iload 4, 2) := by decide +kernel
theorem dX6_copy_111 : decode cX6_copy 111 = .ok (.iadd, 1) := by decide +kernel
theorem dX6_copy_112 : decode cX6_copy 112 = .ok (.aload_n 0, 1) := by decide +kernel
theorem dX6_copy_113 : decode cX6_copy 113 = .ok (.getfield 59, 3) := by decide +kernel
theorem dX6_copy_116 : decode cX6_copy 116 = .ok (.iload 4, 2) := by decide +kernel
theorem dX6_copy_118 : decode cX6_copy 118 = .ok (.iaload, 1) := by decide +kernel
theorem dX6_copy_119 : decode cX6_copy 119 = .ok (.iastore, 1) := by decide +kernel
theorem dX6_copy_120 : decode cX6_copy 120 = .ok (.iinc 4 1, 3) := by decide +kernel
theorem dX6_copy_123 : decode cX6_copy 123 = .ok (.goto (-25), 3) := by decide +kernel
theorem dX6_copy_126 : decode cX6_copy 126 = .ok (.iload_n 3, 1) := by decide +kernel
theorem dX6_copy_127 : decode cX6_copy 127 = .ok (.ireturn, 1) := by decide +kernel
theorem dX6_status_0 : decode cX6_status 0 = .ok (.iload_n 1, 1) := by decide +kernel
theorem dX6_status_1 : decode cX6_status 1 = .ok (.i2l, 1) := by decide +kernel
theorem dX6_status_2 : decode cX6_status 2 = .ok (.ldc2_w 244, 3) := by decide +kernel
theorem dX6_status_5 : decode cX6_status 5 = .ok (.ldc2_w 246, 3) := by decide +kernel
theorem dX6_status_8 : decode cX6_status 8 = .ok (.invokestatic 90, 3) := by decide +kernel
theorem dX6_status_11 : decode cX6_status 11 = .ok (.ifCond .eq 13, 3) := by decide +kernel
theorem dX6_status_14 : decode cX6_status 14 = .ok (.aload_n 0, 1) := by decide +kernel
theorem dX6_status_15 : decode cX6_status 15 = .ok (.getfield 40, 3) := by decide +kernel
theorem dX6_status_18 : decode cX6_status 18 = .ok (.iload_n 1, 1) := by decide +kernel
theorem dX6_status_19 : decode cX6_status 19 = .ok (.ineg, 1) := by decide +kernel
theorem dX6_status_20 : decode cX6_status 20 = .ok (.iaload, 1) := by decide +kernel
theorem dX6_status_21 : decode cX6_status 21 = .ok (.goto 9, 3) := by decide +kernel
theorem dX6_status_24 : decode cX6_status 24 = .ok (.aload_n 0, 1) := by decide +kernel
theorem dX6_status_25 : decode cX6_status 25 = .ok (.bipush (-7), 2) := by decide +kernel
theorem dX6_status_27 : decode cX6_status 27 = .ok (.invokevirtual 80, 3) := by decide +kernel
theorem dX6_status_30 : decode cX6_status 30 = .ok (.ireturn, 1) := by decide +kernel
