theorem dX7_init_0 : decode cX7_init 0 = .ok (.aload_n 0, 1) := by decide +kernel
theorem dX7_init_1 : decode cX7_init 1 = .ok (.invokespecial 1, 3) := by decide +kernel
theorem dX7_init_4 : decode cX7_init 4 = .ok (.aload_n 0, 1) := by decide +kernel
theorem dX7_init_5 : decode cX7_init 5 = .ok (.bipush 8, 2) := by decide +kernel
theorem dX7_init_7 : decode cX7_init 7 = .ok (.newarray .int, 2) := by decide +kernel
theorem dX7_init_9 : decode cX7_init 9 = .ok (.putfield 7, 3) := by decide +kernel
theorem dX7_init_12 : decode cX7_init 12 = .ok (.aload_n 0, 1) := by decide +kernel
theorem dX7_init_13 : decode cX7_init 13 = .ok (.bipush 8, 2) := by decide +kernel
theorem dX7_init_15 : decode cX7_init 15 = .ok (.newarray .int, 2) := by decide +kernel
theorem dX7_init_17 : decode cX7_init 17 = .ok (.putfield 13, 3) := by decide +kernel
theorem dX7_init_20 : decode cX7_init 20 = .ok (.aload_n 0, 1) := by decide +kernel
theorem dX7_init_21 : decode cX7_init 21 = .ok (.bipush 8, 2) := by decide +kernel
theorem dX7_init_23 : decode cX7_init 23 = .ok (.newarray .int, 2) := by decide +kernel
theorem dX7_init_25 : decode cX7_init 25 = .ok (.putfield 16, 3) := by decide +kernel
theorem dX7_init_28 : decode cX7_init 28 = .ok (.aload_n 0, 1) := by decide +kernel
theorem dX7_init_29 : decode cX7_init 29 = .ok (.bipush 8, 2) := by decide +kernel
theorem dX7_init_31 : decode cX7_init 31 = .ok (.newarray .int, 2) := by decide +kernel
theorem dX7_init_33 : decode cX7_init 33 = .ok (.putfield 19, 3) := by decide +kernel
theorem dX7_init_36 : decode cX7_init 36 = .ok (.aload_n 0, 1) := by decide +kernel
theorem dX7_init_37 : decode cX7_init 37 = .ok (.bipush 6, 2) := by decide +kernel
theorem dX7_init_39 : decode cX7_init 39 = .ok (.newarray .int, 2) := by decide +kernel
theorem dX7_init_41 : decode cX7_init 41 = .ok (.putfield 22, 3) := by decide +kernel
theorem dX7_init_44 : decode cX7_init 44 = .ok (.aload_n 0, 1) := by decide +kernel
theorem dX7_init_45 : decode cX7_init 45 = .ok (.bipush 6, 2) := by decide +kernel
theorem dX7_init_47 : decode cX7_init 47 = .ok (.newarray .int, 2) := by decide +kernel
theorem dX7_init_49 : decode cX7_init 49 = .ok (.putfield 25, 3) := by decide +kernel
theorem dX7_init_52 : decode cX7_init 52 = .ok (.aload_n 0, 1) := by decide +kernel
theorem dX7_init_53 : decode cX7_init 53 = .ok (.bipush 24, 2) := by decide +kernel
theorem dX7_init_55 : decode cX7_init 55 = .ok (.newarray .int, 2) := by decide +kernel
theorem dX7_init_57 : decode cX7_init 57 = .ok (.putfield 28, 3) := by decide +kernel
theorem dX7_init_60 : decode cX7_init 60 = .ok (.aload_n 0, 1) := by decide +kernel
theorem dX7_init_61 : decode cX7_init 61 = .ok (.bipush 24, 2) := by decide +kernel
theorem dX7_init_63 : decode cX7_init 63 = .ok (.newarray .int, 2) := by decide +kernel
theorem dX7_init_65 : decode cX7_init 65 = .ok (.putfield 31, 3) := by decide +kernel
theorem dX7_init_68 : decode cX7_init 68 = .ok (.aload_n 0, 1) := by decide +kernel
theorem dX7_init_69 : decode cX7_init 69 = .ok (.bipush 11, 2) := by decide +kernel
theorem dX7_init_71 : decode cX7_init 71 = .ok (.putfield 34, 3) := by decide +kernel
theorem dX7_init_74 : decode cX7_init 74 = .ok (.aload_n 0, 1) := by decide +kernel
theorem dX7_init_75 : decode cX7_init 75 = .ok (.iconst 1, 1) := by decide +kernel
theorem dX7_init_76 : decode cX7_init 76 = .ok (.putfield 38, 3) := by decide +kernel
theorem dX7_init_79 : decode cX7_init 79 = .ok (.aload_n 0, 1) := by decide +kernel
theorem dX7_init_80 : decode cX7_init 80 = .ok (.iconst 1, 1) := by decide +kernel
theorem dX7_init_81 : decode cX7_init 81 = .ok (.putfield 41, 3) := by decide +kernel
theorem dX7_init_84 : decode cX7_init 84 = .ok (.aload_n 0, 1) := by decide +kernel
theorem dX7_init_85 : decode cX7_init 85 = .ok (.sipush 140, 3) := by decide +kernel
theorem dX7_init_88 : decode cX7_init 88 = .ok (.newarray .int, 2) := by decide +kernel
theorem dX7_init_90 : decode cX7_init 90 = .ok (.putfield 44, 3) := by decide +kernel
theorem dX7_init_93 : decode cX7_init 93 = .ok (.aload_n 0, 1) := by decide +kernel
theorem dX7_init_94 : decode cX7_init 94 = .ok (.bipush 32, 2) := by decide +kernel
theorem dX7_init_96 : decode cX7_init 96 = .ok (.newarray .int, 2) := by decide +kernel
theorem dX7_init_98 : decode cX7_init 98 = .ok (.putfield 47, 3) := by decide +kernel
theorem dX7_init_101 : decode cX7_init 101 = .ok (.aload_n 0, 1) := by decide +kernel
theorem dX7_init_102 : decode cX7_init 102 = .ok (.sipush 192, 3) := by decide +kernel
theorem dX7_init_105 : decode cX7_init 105 = .ok (.newarray .int, 2) := by decide +kernel
theorem dX7_init_107 : decode cX7_init 107 = .ok (.putfield 50, 3) := by decide +kernel
theorem dX7_init_110 : decode cX7_init 110 = .ok (.aload_n 0, 1) := by decide +kernel
theorem dX7_init_111 : decode cX7_init 111 = .ok (.sipush 2500, 3) := by decide +kernel
theorem dX7_init_114 : decode cX7_init 114 = .ok (.newarray .int, 2) := by decide +kernel
theorem dX7_init_116 : decode cX7_init 116 = .ok (.putfield 53, 3) := by decide +kernel
theorem dX7_init_119 : decode cX7_init 119 = .ok (.aload_n 0, 1) := by decide +kernel
theorem dX7_init_120 : decode cX7_init 120 = .ok (.bipush 24, 2) := by decide +kernel
theorem dX7_init_122 : decode cX7_init 122 = .ok (.newarray .int, 2) := by decide +kernel
theorem dX7_init_124 : decode cX7_init 124 = .ok (.putfield 56, 3) := by decide +kernel
theorem dX7_init_127 : decode cX7_init 127 = .ok (.aload_n 0, 1) := by decide +kernel
theorem dX7_init_128 : decode cX7_init 128 = .ok (.bipush 101, 2) := by decide +kernel
theorem dX7_init_130 : decode cX7_init 130 = .ok (.newarray .int, 2) := by decide +kernel
theorem dX7_init_132 : decode cX7_init 132 = .ok (.putfield 59, 3) := by decide +kernel
theorem dX7_init_135 : decode cX7_init 135 = .ok (.aload_n 0, 1) := by decide +kernel
theorem dX7_init_136 : decode cX7_init 136 = .ok (.iconst 4, 1) := by decide +kernel
theorem dX7_init_137 : decode cX7_init 137 = .ok (.newarray .int, 2) := by decide +kernel
theorem dX7_init_139 : decode cX7_init 139 = .ok (.putfield 62, 3) := by decide +kernel
theorem dX7_init_142 : decode cX7_init 142 = .ok (.aload_n 0, 1) := by decide +kernel
theorem dX7_init_143 : decode cX7_init 143 = .ok (.iconst 4, 1) := by decide +kernel
theorem dX7_init_144 : decode cX7_init 144 = .ok (.newarray .int, 2) := by decide +kernel
theorem dX7_init_146 : decode cX7_init 146 = .ok (.putfield 65, 3) := by decide +kernel
theorem dX7_init_149 : decode cX7_init 149 = .ok (.aload_n 0, 1) := by decide +kernel
theorem dX7_init_150 : decode cX7_init 150 = .ok (.bipush 96, 2) := by decide +kernel
theorem dX7_init_152 : decode cX7_init 152 = .ok (.newarray .long, 2) := by decide +kernel
theorem dX7_init_154 : decode cX7_init 154 = .ok (.putfield 68, 3) := by decide +kernel
theorem dX7_init_157 : decode cX7_init 157 = .ok (.aload_n 0, 1) := by decide +kernel
theorem dX7_init_158 : decode cX7_init 158 = .ok (.bipush 49, 2) := by decide +kernel
theorem dX7_init_160 : decode cX7_init 160 = .ok (.newarray .long, 2) := by decide +kernel
theorem dX7_init_162 : decode cX7_init 162 = .ok (.putfield 72, 3) := by decide +kernel
theorem dX7_init_165 : decode cX7_init 165 = .ok (.aload_n 0, 1) := by decide +kernel
theorem dX7_init_166 : decode cX7_init 166 = .ok (.bipush 24, 2) := by decide +kernel
theorem dX7_init_168 : decode cX7_init 168 = .ok (.newarray .long, 2) := by decide +kernel
theorem dX7_init_170 : decode cX7_init 170 = .ok (.putfield 75, 3) := by decide +kernel
theorem dX7_init_173 : decode cX7_init 173 = .ok (.iconst 0, 1) := by decide +kernel
theorem dX7_init_174 : decode cX7_init 174 = .ok (.istore_n 1, 1) := by decide +kernel
theorem dX7_init_175 : decode cX7_init 175 = .ok (.iload_n 1, 1) := by decide +kernel
theorem dX7_init_176 : decode cX7_init 176 = .ok (.iconst 4, 1) := by decide +kernel
theorem dX7_init_177 : decode cX7_init 177 = .ok (.if_icmp .ge 16, 3) := by decide +kernel
theorem dX7_init_180 : decode cX7_init 180 = .ok (.aload_n 0, 1) := by decide +kernel
theorem dX7_init_181 : decode cX7_init 181 = .ok (.getfield 62, 3) := by decide +kernel
theorem dX7_init_184 : decode cX7_init 184 = .ok (.iload_n 1, 1) := by decide +kernel
theorem dX7_init_185 : decode cX7_init 185 = .ok (.iconst (-1), 1) := by decide +kernel
theorem dX7_init_186 : decode cX7_init 186 = .ok (.iastore, 1) := by decide +kernel
theorem dX7_init_187 : decode cX7_init 187 = .ok (.iinc 1 1, 3) := by decide +kernel
theorem dX7_init_190 : decode cX7_init 190 = .ok (.goto (-15), 3) := by decide +kernel
theorem dX7_init_193 : decode cX7_init 193 = .ok (.iconst 0, 1) := by decide +kernel
theorem dX7_init_194 : decode cX7_init 194 = .ok (.istore_n 1, 1) := by decide +kernel
theorem dX7_init_195 : decode cX7_init 195 = .ok (.iload_n 1, 1) := by decide +kernel
theorem dX7_init_196 : decode cX7_init 196 = .ok (.bipush 24, 2) := by decide +kernel
theorem dX7_init_198 : decode cX7_init 198 = .ok (.if_icmp .ge 16, 3) := by decide +kernel
theorem dX7_init_201 : decode cX7_init 201 = .ok (.aload_n 0, 1) := by decide +kernel
theorem dX7_init_202 : decode cX7_init 202 = .ok (.getfield 28, 3) := by decide +kernel
theorem dX7_init_205 : decode cX7_init 205 = .ok (.iload_n 1, 1) := by decide +kernel
theorem dX7_init_206 : decode cX7_init 206 = .ok (.iconst 5, 1) := by decide +kernel
theorem dX7_init_207 : decode cX7_init 207 = .ok (.iastore, 1) := by decide +kernel
theorem dX7_init_208 : decode cX7_init 208 = .ok (.iinc 1 1, 3) := by decide +kernel
theorem dX7_init_211 : decode cX7_init 211 = .ok (.goto (-16), 3) := by decide +kernel
theorem dX7_init_214 : decode cX7_init 214 = .ok (.return_, 1) := by decide +kernel
theorem dX7_in_0 : decode cX7_in 0 = .ok (.lload_n 0, 1) := by decide +kernel
theorem dX7_in_1 : decode cX7_in 1 = .ok (.lload_n 2, 1) := by decide +kernel
theorem dX7_in_2 : decode cX7_in 2 = .ok (.lcmp, 1) := by decide +kernel
theorem dX7_in_3 : decode cX7_in 3 = .ok (.ifCond .lt 14, 3) := by decide +kernel
theorem dX7_in_6 : decode cX7_in 6 = .ok (.lload_n 0, 1) := by decide +kernel
theorem dX7_in_7 : decode cX7_in 7 = .ok (.lload 4, 2) := by decide +kernel
theorem dX7_in_9 : decode cX7_in 9 = .ok (.lcmp, 1) := by decide +kernel
theorem dX7_in_10 : decode cX7_in 10 = .ok (.ifCond .gt 7, 3) := by decide +kernel
theorem dX7_in_13 : decode cX7_in 13 = .ok (.iconst 1, 1) := by decide +kernel
theorem dX7_in_14 : decode cX7_in 14 = .ok (.goto 4, 3) := by decide +kernel
theorem dX7_in_17 : decode cX7_in 17 = .ok (.iconst 0, 1) := by decide +kernel
theorem dX7_in_18 : decode cX7_in 18 = .ok (.ireturn, 1) := by decide +kernel
theorem dX7_isHour_0 : decode cX7_isHour 0 = .ok (.iload_n 0, 1) := by decide +kernel
theorem dX7_isHour_1 : decode cX7_isHour 1 = .ok (.i2l, 1) := by decide +kernel
theorem dX7_isHour_2 : decode cX7_isHour 2 = .ok (.lconst 0, 1) := by decide +kernel
theorem dX7_isHour_3 : decode cX7_isHour 3 = .ok (.ldc2_w 78, 3) := by decide +kernel
theorem dX7_isHour_6 : decode cX7_isHour 6 = .ok (.invokestatic 80, 3) := by decide +kernel
theorem dX7_isHour_9 : decode cX7_isHour 9 = .ok (.ireturn, 1) := by decide +kernel
theorem dX7_isOne_0 : decode cX7_isOne 0 = .ok (.iload_n 1, 1) := by decide +kernel
theorem dX7_isOne_1 : decode cX7_isOne 1 = .ok (.i2l, 1) := by decide +kernel
theorem dX7_isOne_2 : decode cX7_isOne 2 = .ok (.lconst 0, 1) := by decide +kernel
theorem dX7_isOne_3 : decode cX7_isOne 3 = .ok (.aload_n 0, 1) := by decide +kernel
theorem dX7_isOne_4 : decode cX7_isOne 4 = .ok (.getfield 84, 3) := by decide +kernel
theorem dX7_isOne_7 : decode cX7_isOne 7 = .ok (.iconst 1, 1) := by decide +kernel
theorem dX7_isOne_8 : decode cX7_isOne 8 = .ok (.isub, 1) := by decide +kernel
theorem dX7_isOne_9 : decode cX7_isOne 9 = .ok (.i2l, 1) := by decide +kernel
theorem dX7_isOne_10 : decode cX7_isOne 10 = .ok (.invokestatic 80, 3) := by decide +kernel
theorem dX7_isOne_13 : decode cX7_isOne 13 = .ok (.ireturn, 1) := by decide +kernel
theorem dX7_isNumber_0 : decode cX7_isNumber 0 = .ok (.lload_n 0, 1) := by decide +kernel
theorem dX7_isNumber_1 : decode cX7_isNumber 1 = .ok (.ldc2_w 87, 3) := by decide +kernel
theorem dX7_isNumber_4 : decode cX7_isNumber 4 = .ok (.ldc2_w 89, 3) := by decide +kernel
theorem dX7_isNumber_7 : decode cX7_isNumber 7 = .ok (.invokestatic 80, 3) := by decide +kernel
theorem dX7_isNumber_10 : decode cX7_isNumber 10 = .ok (.ireturn, 1) := by decide +kernel
theorem dX7_add_0 : decode cX7_add 0 = .ok (.aload_n 0, 1) := by decide +kernel
theorem dX7_add_1 : decode cX7_add 1 = .ok (.getfield 7, 3) := by decide +kernel
theorem dX7_add_4 : decode cX7_add 4 = .ok (.aload_n 0, 1) := by decide +kernel
theorem dX7_add_5 : decode cX7_add 5 = .ok (.getfield 84, 3) := by decide +kernel
theorem dX7_add_8 : decode cX7_add 8 = .ok (.iload_n 1, 1) := by decide +kernel
theorem dX7_add_9 : decode cX7_add 9 = .ok (.iastore, 1) := by decide +kernel
theorem dX7_add_10 : decode cX7_add 10 = .ok (.aload_n 0, 1) := by decide +kernel
theorem dX7_add_11 : decode cX7_add 11 = .ok (.getfield 13, 3) := by decide +kernel
theorem dX7_add_14 : decode cX7_add 14 = .ok (.aload_n 0, 1) := by decide +kernel
theorem dX7_add_15 : decode cX7_add 15 = .ok (.getfield 84, 3) := by decide +kernel
theorem dX7_add_18 : decode cX7_add 18 = .ok (.iload_n 2, 1) := by decide +kernel
theorem dX7_add_19 : decode cX7_add 19 = .ok (.iastore, 1) := by decide +kernel
theorem dX7_add_20 : decode cX7_add 20 = .ok (.aload_n 0, 1) := by decide +kernel
theorem dX7_add_21 : decode cX7_add 21 = .ok (.getfield 16, 3) := by decide +kernel
theorem dX7_add_24 : decode cX7_add 24 = .ok (.aload_n 0, 1) := by decide +kernel
theorem dX7_add_25 : decode cX7_add 25 = .ok (.getfield 84, 3) := by decide +kernel
theorem dX7_add_28 : decode cX7_add 28 = .ok (.iload_n 3, 1) := by decide +kernel
theorem dX7_add_29 : decode cX7_add 29 = .ok (.iastore, 1) := by decide +kernel
theorem dX7_add_30 : decode cX7_add 30 = .ok (.aload_n 0, 1) := by decide +kernel
theorem dX7_add_31 : decode cX7_add 31 = .ok (.getfield 19, 3) := by decide +kernel
theorem dX7_add_34 : decode cX7_add 34 = .ok (.aload_n 0, 1) := by decide +kernel
theorem dX7_add_35 : decode cX7_add 35 = .ok (.getfield 84, 3) := by decide +kernel
theorem dX7_add_38 : decode cX7_add 38 = .ok (.iload 4, 2) := by decide +kernel
theorem dX7_add_40 : decode cX7_add 40 = .ok (.iastore, 1) := by decide +kernel
theorem dX7_add_41 : decode cX7_add 41 = .ok (.aload_n 0, 1) := by decide +kernel
theorem dX7_add_42 : decode cX7_add 42 = .ok (.dup, 1) := by decide +kernel
theorem dX7_add_43 : decode cX7_add 43 = .ok (.getfield 84, 3) := by decide +kernel
theorem dX7_add_46 : decode cX7_add 46 = .ok (.iconst 1, 1) := by decide +kernel
theorem dX7_add_47 : decode cX7_add 47 = .ok (.iadd, 1) := by decide +kernel
theorem dX7_add_48 : decode cX7_add 48 = .ok (.putfield 84, 3) := by decide +kernel
theorem dX7_add_51 : decode cX7_add 51 = .ok (.return_, 1) := by decide +kernel
theorem dX7_person_0 : decode cX7_person 0 = .ok (.iload_n 1, 1) := by decide +kernel
theorem dX7_person_1 : decode cX7_person 1 = .ok (.i2l, 1) := by decide +kernel
theorem dX7_person_2 : decode cX7_person 2 = .ok (.lconst 0, 1) := by decide +kernel
theorem dX7_person_3 : decode cX7_person 3 = .ok (.ldc2_w 91, 3) := by decide +kernel
theorem dX7_person_6 : decode cX7_person 6 = .ok (.invokestatic 80, 3) := by decide +kernel
theorem dX7_person_9 : decode cX7_person 9 = .ok (.ifCond .eq 22, 3) := by decide +kernel
theorem dX7_person_12 : decode cX7_person 12 = .ok (.iload_n 2, 1) := by decide +kernel
theorem dX7_person_13 : decode cX7_person 13 = .ok (.invokestatic 93, 3) := by decide +kernel
theorem dX7_person_16 : decode cX7_person 16 = .ok (.ifCond .eq 15, 3) := by decide +kernel
theorem dX7_person_19 : decode cX7_person 19 = .ok (.iload_n 3, 1) := by decide +kernel
theorem dX7_person_20 : decode cX7_person 20 = .ok (.i2l, 1) := by decide +kernel
theorem dX7_person_21 : decode cX7_person 21 = .ok (.lconst 0, 1) := by decide +kernel
theorem dX7_person_22 : decode cX7_person 22 = .ok (.ldc2_w 97, 3) := by decide +kernel
theorem dX7_person_25 : decode cX7_person 25 = .ok (.invokestatic 80, 3) := by decide +kernel
theorem dX7_person_28 : decode cX7_person 28 = .ok (.ifCond .ne 5, 3) := by decide +kernel
theorem dX7_person_31 : decode cX7_person 31 = .ok (.iconst (-1), 1) := by decide +kernel
theorem dX7_person_32 : decode cX7_person 32 = .ok (.ireturn, 1) := by decide +kernel
theorem dX7_person_33 : decode cX7_person 33 = .ok (.aload_n 0, 1) := by decide +kernel
theorem dX7_person_34 : decode cX7_person 34 = .ok (.getfield 84, 3) := by decide +kernel
theorem dX7_person_37 : decode cX7_person 37 = .ok (.bipush 8, 2) := by decide +kernel
theorem dX7_person_39 : decode cX7_person 39 = .ok (.if_icmp .ne 6, 3) := by decide +kernel
theorem dX7_person_42 : decode cX7_person 42 = .ok (.bipush (-3), 2) := by decide +kernel
theorem dX7_person_44 : decode cX7_person 44 = .ok (.ireturn, 1) := by decide +kernel
theorem dX7_person_45 : decode cX7_person 45 = .ok (.aload_n 0, 1) := by decide +kernel
theorem dX7_person_46 : decode cX7_person 46 = .ok (.iload_n 1, 1) := by decide +kernel
theorem dX7_person_47 : decode cX7_person 47 = .ok (.iload_n 2, 1) := by decide +kernel
theorem dX7_person_48 : decode cX7_person 48 = .ok (.iload_n 3, 1) := by decide +kernel
theorem dX7_person_49 : decode cX7_person 49 = .ok (.iconst 1, 1) := by decide +kernel
theorem dX7_person_50 : decode cX7_person 50 = .ok (.invokevirtual 99, 3) := by decide +kernel
theorem dX7_person_53 : decode cX7_person 53 = .ok (.aload_n 0, 1) := by decide +kernel
theorem dX7_person_54 : decode cX7_person 54 = .ok (.getfield 84, 3) := by decide +kernel
theorem dX7_person_57 : decode cX7_person 57 = .ok (.iconst 1, 1) := by decide +kernel
theorem dX7_person_58 : decode cX7_person 58 = .ok (.isub, 1) := by decide +kernel
theorem dX7_person_59 : decode cX7_person 59 = .ok (.ireturn, 1) := by decide +kernel
theorem dX7_may_0 : decode cX7_may 0 = .ok (.aload_n 0, 1) := by decide +kernel
theorem dX7_may_1 : decode cX7_may 1 = .ok (.iload_n 1, 1) := by decide +kernel
theorem dX7_may_2 : decode cX7_may 2 = .ok (.invokevirtual 103, 3) := by decide +kernel
theorem dX7_may_5 : decode cX7_may 5 = .ok (.ifCond .eq 13, 3) := by decide +kernel
theorem dX7_may_8 : decode cX7_may 8 = .ok (.iload_n 2, 1) := by decide +kernel
theorem dX7_may_9 : decode cX7_may 9 = .ok (.i2l, 1) := by decide +kernel
theorem dX7_may_10 : decode cX7_may 10 = .ok (.lconst 0, 1) := by decide +kernel
theorem dX7_may_11 : decode cX7_may 11 = .ok (.lconst 1, 1) := by decide +kernel
theorem dX7_may_12 : decode cX7_may 12 = .ok (.invokestatic 80, 3) := by decide +kernel
theorem dX7_may_15 : decode cX7_may 15 = .ok (.ifCond .ne 5, 3) := by decide +kernel
theorem dX7_may_18 : decode cX7_may 18 = .ok (.iconst (-1), 1) := by decide +kernel
theorem dX7_may_19 : decode cX7_may 19 = .ok (.ireturn, 1) := by decide +kernel
theorem dX7_may_20 : decode cX7_may 20 = .ok (.aload_n 0, 1) := by decide +kernel
theorem dX7_may_21 : decode cX7_may 21 = .ok (.getfield 19, 3) := by decide +kernel
theorem dX7_may_24 : decode cX7_may 24 = .ok (.iload_n 1, 1) := by decide +kernel
theorem dX7_may_25 : decode cX7_may 25 = .ok (.iaload, 1) := by decide +kernel
theorem dX7_may_26 : decode cX7_may 26 = .ok (.istore_n 3, 1) := by decide +kernel
theorem dX7_may_27 : decode cX7_may 27 = .ok (.aload_n 0, 1) := by decide +kernel
theorem dX7_may_28 : decode cX7_may 28 = .ok (.getfield 19, 3) := by decide +kernel
theorem dX7_may_31 : decode cX7_may 31 = .ok (.iload_n 1, 1) := by decide +kernel
theorem dX7_may_32 : decode cX7_may 32 = .ok (.iload_n 2, 1) := by decide +kernel
theorem dX7_may_33 : decode cX7_may 33 = .ok (.iastore, 1) := by decide +kernel
theorem dX7_may_34 : decode cX7_may 34 = .ok (.iload_n 3, 1) := by decide +kernel
theorem dX7_may_35 : decode cX7_may 35 = .ok (.ireturn, 1) := by decide +kernel
theorem dX7_told_0 : decode cX7_told 0 = .ok (.aload_n 0, 1) := by decide +kernel
theorem dX7_told_1 : decode cX7_told 1 = .ok (.iload_n 1, 1) := by decide +kernel
theorem dX7_told_2 : decode cX7_told 2 = .ok (.invokevirtual 103, 3) := by decide +kernel
theorem dX7_told_5 : decode cX7_told 5 = .ok (.ifCond .eq 15, 3) := by decide +kernel
theorem dX7_told_8 : decode cX7_told 8 = .ok (.iload_n 2, 1) := by decide +kernel
theorem dX7_told_9 : decode cX7_told 9 = .ok (.i2l, 1) := by decide +kernel
theorem dX7_told_10 : decode cX7_told 10 = .ok (.lconst 0, 1) := by decide +kernel
theorem dX7_told_11 : decode cX7_told 11 = .ok (.ldc2_w 91, 3) := by decide +kernel
theorem dX7_told_14 : decode cX7_told 14 = .ok (.invokestatic 80, 3) := by decide +kernel
theorem dX7_told_17 : decode cX7_told 17 = .ok (.ifCond .ne 5, 3) := by decide +kernel
theorem dX7_told_20 : decode cX7_told 20 = .ok (.iconst (-1), 1) := by decide +kernel
theorem dX7_told_21 : decode cX7_told 21 = .ok (.ireturn, 1) := by decide +kernel
theorem dX7_told_22 : decode cX7_told 22 = .ok (.iload_n 2, 1) := by decide +kernel
theorem dX7_told_23 : decode cX7_told 23 = .ok (.ifCond .ne 12, 3) := by decide +kernel
theorem dX7_told_26 : decode cX7_told 26 = .ok (.aload_n 0, 1) := by decide +kernel
theorem dX7_told_27 : decode cX7_told 27 = .ok (.getfield 7, 3) := by decide +kernel
theorem dX7_told_30 : decode cX7_told 30 = .ok (.iload_n 1, 1) := by decide +kernel
theorem dX7_told_31 : decode cX7_told 31 = .ok (.iaload, 1) := by decide +kernel
theorem dX7_told_32 : decode cX7_told 32 = .ok (.goto 37, 3) := by decide +kernel
theorem dX7_told_35 : decode cX7_told 35 = .ok (.iload_n 2, 1) := by decide +kernel
theorem dX7_told_36 : decode cX7_told 36 = .ok (.iconst 1, 1) := by decide +kernel
theorem dX7_told_37 : decode cX7_told 37 = .ok (.if_icmp .ne 12, 3) := by decide +kernel
theorem dX7_told_40 : decode cX7_told 40 = .ok (.aload_n 0, 1) := by decide +kernel
theorem dX7_told_41 : decode cX7_told 41 = .ok (.getfield 13, 3) := by decide +kernel
theorem dX7_told_44 : decode cX7_told 44 = .ok (.iload_n 1, 1) := by decide +kernel
theorem dX7_told_45 : decode cX7_told 45 = .ok (.iaload, 1) := by decide +kernel
theorem dX7_told_46 : decode cX7_told 46 = .ok (.goto 23, 3) := by decide +kernel
theorem dX7_told_49 : decode cX7_told 49 = .ok (.iload_n 2, 1) := by decide +kernel
theorem dX7_told_50 : decode cX7_told 50 = .ok (.iconst 2, 1) := by decide +kernel
theorem dX7_told_51 : decode cX7_told 51 = .ok (.if_icmp .ne 12, 3) := by decide +kernel
theorem dX7_told_54 : decode cX7_told 54 = .ok (.aload_n 0, 1) := by decide +kernel
theorem dX7_told_55 : decode cX7_told 55 = .ok (.getfield 16, 3) := by decide +kernel
theorem dX7_told_58 : decode cX7_told 58 = .ok (.iload_n 1, 1) := by decide +kernel
theorem dX7_told_59 : decode cX7_told 59 = .ok (.iaload, 1) := by decide +kernel
theorem dX7_told_60 : decode cX7_told 60 = .ok (.goto 9, 3) := by decide +kernel
theorem dX7_told_63 : decode cX7_told 63 = .ok (.aload_n 0, 1) := by decide +kernel
theorem dX7_told_64 : decode cX7_told 64 = .ok (.getfield 19, 3) := by decide +kernel
theorem dX7_told_67 : decode cX7_told 67 = .ok (.iload_n 1, 1) := by decide +kernel
theorem dX7_told_68 : decode cX7_told 68 = .ok (.iaload, 1) := by decide +kernel
theorem dX7_told_69 : decode cX7_told 69 = .ok (.ireturn, 1) := by decide +kernel
theorem dX7_apart_0 : decode cX7_apart 0 = .ok (.iload_n 0, 1) := by decide +kernel
theorem dX7_apart_1 : decode cX7_apart 1 = .ok (.iload_n 1, 1) := by decide +kernel
theorem dX7_apart_2 : decode cX7_apart 2 = .ok (.if_icmp .le 9, 3) := by decide +kernel
theorem dX7_apart_5 : decode cX7_apart 5 = .ok (.iload_n 0, 1) := by decide +kernel
theorem dX7_apart_6 : decode cX7_apart 6 = .ok (.iload_n 1, 1) := by decide +kernel
theorem dX7_apart_7 : decode cX7_apart 7 = .ok (.isub, 1) := by decide +kernel
theorem dX7_apart_8 : decode cX7_apart 8 = .ok (.goto 6, 3) := by decide +kernel
theorem dX7_apart_11 : decode cX7_apart 11 = .ok (.iload_n 1, 1) := by decide +kernel
theorem dX7_apart_12 : decode cX7_apart 12 = .ok (.iload_n 0, 1) := by decide +kernel
theorem dX7_apart_13 : decode cX7_apart 13 = .ok (.isub, 1) := by decide +kernel
theorem dX7_apart_14 : decode cX7_apart 14 = .ok (.istore_n 2, 1) := by decide +kernel
theorem dX7_apart_15 : decode cX7_apart 15 = .ok (.iload_n 2, 1) := by decide +kernel
theorem dX7_apart_16 : decode cX7_apart 16 = .ok (.bipush 12, 2) := by decide +kernel
theorem dX7_apart_18 : decode cX7_apart 18 = .ok (.if_icmp .le 10, 3) := by decide +kernel
theorem dX7_apart_21 : decode cX7_apart 21 = .ok (.bipush 24, 2) := by decide +kernel
theorem dX7_apart_23 : decode cX7_apart 23 = .ok (.iload_n 2, 1) := by decide +kernel
theorem dX7_apart_24 : decode cX7_apart 24 = .ok (.isub, 1) := by decide +kernel
theorem dX7_apart_25 : decode cX7_apart 25 = .ok (.goto 4, 3) := by decide +kernel
theorem dX7_apart_28 : decode cX7_apart 28 = .ok (.iload_n 2, 1) := by decide +kernel
theorem dX7_apart_29 : decode cX7_apart 29 = .ok (.ireturn, 1) := by decide +kernel
theorem dX7_worthOf_0 : decode cX7_worthOf 0 = .ok (.aload_n 0, 1) := by decide +kernel
theorem dX7_worthOf_1 : decode cX7_worthOf 1 = .ok (.getfield 13, 3) := by decide +kernel
theorem dX7_worthOf_4 : decode cX7_worthOf 4 = .ok (.iload_n 1, 1) := by decide +kernel
theorem dX7_worthOf_5 : decode cX7_worthOf 5 = .ok (.iaload, 1) := by decide +kernel
theorem dX7_worthOf_6 : decode cX7_worthOf 6 = .ok (.iload_n 2, 1) := by decide +kernel
theorem dX7_worthOf_7 : decode cX7_worthOf 7 = .ok (.invokestatic 106, 3) := by decide +kernel
theorem dX7_worthOf_10 : decode cX7_worthOf 10 = .ok (.istore 4, 2) := by decide +kernel
theorem dX7_worthOf_12 : decode cX7_worthOf 12 = .ok (.aload_n 0, 1) := by decide +kernel
theorem dX7_worthOf_13 : decode cX7_worthOf 13 = .ok (.getfield 7, 3) := by decide +kernel
theorem dX7_worthOf_16 : decode cX7_worthOf 16 = .ok (.iload_n 1, 1) := by decide +kernel
theorem dX7_worthOf_17 : decode cX7_worthOf 17 = .ok (.iaload, 1) := by decide +kernel
theorem dX7_worthOf_18 : decode cX7_worthOf 18 = .ok (.iconst 2, 1) := by decide +kernel
theorem dX7_worthOf_19 : decode cX7_worthOf 19 = .ok (.if_icmp .ge 25, 3) := by decide +kernel
theorem dX7_worthOf_22 : decode cX7_worthOf 22 = .ok (.iload 4, 2) := by decide +kernel
theorem dX7_worthOf_24 : decode cX7_worthOf 24 = .ok (.aload_n 0, 1) := by decide +kernel
theorem dX7_worthOf_25 : decode cX7_worthOf 25 = .ok (.getfield 7, 3) := by decide +kernel
theorem dX7_worthOf_28 : decode cX7_worthOf 28 = .ok (.iload_n 1, 1) := by decide +kernel
theorem dX7_worthOf_29 : decode cX7_worthOf 29 = .ok (.iaload, 1) := by decide +kernel
theorem dX7_worthOf_30 : decode cX7_worthOf 30 = .ok (.if_icmp .gt 12, 3) := by decide +kernel
theorem dX7_worthOf_33 : decode cX7_worthOf 33 = .ok (.aload_n 0, 1) := by decide +kernel
theorem dX7_worthOf_34 : decode cX7_worthOf 34 = .ok (.getfield 16, 3) := by decide +kernel
theorem dX7_worthOf_37 : decode cX7_worthOf 37 = .ok (.iload_n 1, 1) := by decide +kernel
theorem dX7_worthOf_38 : decode cX7_worthOf 38 = .ok (.iaload, 1) := by decide +kernel
theorem dX7_worthOf_39 : decode cX7_worthOf 39 = .ok (.goto 4, 3) := by decide +kernel
theorem dX7_worthOf_42 : decode cX7_worthOf 42 = .ok (.iconst 0, 1) := by decide +kernel
theorem dX7_worthOf_43 : decode cX7_worthOf 43 = .ok (.ireturn, 1) := by decide +kernel
theorem dX7_worthOf_44 : decode cX7_worthOf 44 = .ok (.aload_n 0, 1) := by decide +kernel
theorem dX7_worthOf_45 : decode cX7_worthOf 45 = .ok (.getfield 16, 3) := by decide +kernel
theorem dX7_worthOf_48 : decode cX7_worthOf 48 = .ok (.iload_n 1, 1) := by decide +kernel
theorem dX7_worthOf_49 : decode cX7_worthOf 49 = .ok (.iaload, 1) := by decide +kernel
theorem dX7_worthOf_50 : decode cX7_worthOf 50 = .ok (.iconst 3, 1) := by decide +kernel
theorem dX7_worthOf_51 : decode cX7_worthOf 51 = .ok (.iload 4, 2) := by decide +kernel
theorem dX7_worthOf_53 : decode cX7_worthOf 53 = .ok (.imul, 1) := by decide +kernel
theorem dX7_worthOf_54 : decode cX7_worthOf 54 = .ok (.if_icmp .le 17, 3) := by decide +kernel
theorem dX7_worthOf_57 : decode cX7_worthOf 57 = .ok (.aload_n 0, 1) := by decide +kernel
theorem dX7_worthOf_58 : decode cX7_worthOf 58 = .ok (.getfield 16, 3) := by decide +kernel
theorem dX7_worthOf_61 : decode cX7_worthOf 61 = .ok (.iload_n 1, 1) := by decide +kernel
theorem dX7_worthOf_62 : decode cX7_worthOf 62 = .ok (.iaload, 1) := by decide +kernel
theorem dX7_worthOf_63 : decode cX7_worthOf 63 = .ok (.iconst 3, 1) := by decide +kernel
theorem dX7_worthOf_64 : decode cX7_worthOf 64 = .ok (.iload 4, 2) := by decide +kernel
theorem dX7_worthOf_66 : decode cX7_worthOf 66 = .ok (.imul, 1) := by decide +kernel
theorem dX7_worthOf_67 : decode cX7_worthOf 67 = .ok (.isub, 1) := by decide +kernel
theorem dX7_worthOf_68 : decode cX7_worthOf 68 = .ok (.goto 4, 3) := by decide +kernel
theorem dX7_worthOf_71 : decode cX7_worthOf 71 = .ok (.iconst 0, 1) := by decide +kernel
theorem dX7_worthOf_72 : decode cX7_worthOf 72 = .ok (.istore 5, 2) := by decide +kernel
theorem dX7_worthOf_74 : decode cX7_worthOf 74 = .ok (.iconst 0, 1) := by decide +kernel
theorem dX7_worthOf_75 : decode cX7_worthOf 75 = .ok (.istore 6, 2) := by decide +kernel
theorem dX7_worthOf_77 : decode cX7_worthOf 77 = .ok (.iload 6, 2) := by decide +kernel
theorem dX7_worthOf_79 : decode cX7_worthOf 79 = .ok (.iload_n 3, 1) := by decide +kernel
theorem dX7_worthOf_80 : decode cX7_worthOf 80 = .ok (.if_icmp .ge 25, 3) := by decide +kernel
theorem dX7_worthOf_83 : decode cX7_worthOf 83 = .ok (.aload_n 0, 1) := by decide +kernel
theorem dX7_worthOf_84 : decode cX7_worthOf 84 = .ok (.getfield 7, 3) := by decide +kernel
theorem dX7_worthOf_87 : decode cX7_worthOf 87 = .ok (.iload_n 1, 1) := by decide +kernel
theorem dX7_worthOf_88 : decode cX7_worthOf 88 = .ok (.iaload, 1) := by decide +kernel
theorem dX7_worthOf_89 : decode cX7_worthOf 89 = .ok (.iconst 3, 1) := by decide +kernel
theorem dX7_worthOf_90 : decode cX7_worthOf 90 = .ok (.if_icmp .ne 15, 3) := by decide +kernel
theorem dX7_worthOf_93 : decode cX7_worthOf 93 = .ok (.iload 5, 2) := by decide +kernel
theorem dX7_worthOf_95 : decode cX7_worthOf 95 = .ok (.iconst 2, 1) := by decide +kernel
theorem dX7_worthOf_96 : decode cX7_worthOf 96 = .ok (.idiv, 1) := by decide +kernel
theorem dX7_worthOf_97 : decode cX7_worthOf 97 = .ok (.istore 5, 2) := by decide +kernel
theorem dX7_worthOf_99 : decode cX7_worthOf 99 = .ok (.iinc 6 1, 3) := by decide +kernel
theorem dX7_worthOf_102 : decode cX7_worthOf 102 = .ok (.goto (-25), 3) := by decide +kernel
theorem dX7_worthOf_105 : decode cX7_worthOf 105 = .ok (.iload 5, 2) := by decide +kernel
theorem dX7_worthOf_107 : decode cX7_worthOf 107 = .ok (.ireturn, 1) := by decide +kernel
theorem dX7_worth_0 : decode cX7_worth 0 = .ok (.aload_n 0, 1) := by decide +kernel
theorem dX7_worth_1 : decode cX7_worth 1 = .ok (.iload_n 1, 1) := by decide +kernel
theorem dX7_worth_2 : decode cX7_worth 2 = .ok (.invokevirtual 103, 3) := by decide +kernel
theorem dX7_worth_5 : decode cX7_worth 5 = .ok (.ifCond .eq 32, 3) := by decide +kernel
theorem dX7_worth_8 : decode cX7_worth 8 = .ok (.iload_n 2, 1) := by decide +kernel
theorem dX7_worth_9 : decode cX7_worth 9 = .ok (.invokestatic 93, 3) := by decide +kernel
theorem dX7_worth_12 : decode cX7_worth 12 = .ok (.ifCond .eq 25, 3) := by decide +kernel
theorem dX7_worth_15 : decode cX7_worth 15 = .ok (.iload_n 3, 1) := by decide +kernel
theorem dX7_worth_16 : decode cX7_worth 16 = .ok (.i2l, 1) := by decide +kernel
theorem dX7_worth_17 : decode cX7_worth 17 = .ok (.lconst 0, 1) := by decide +kernel
theorem dX7_worth_18 : decode cX7_worth 18 = .ok (.ldc2_w 110, 3) := by decide +kernel
theorem dX7_worth_21 : decode cX7_worth 21 = .ok (.invokestatic 80, 3) := by decide +kernel
theorem dX7_worth_24 : decode cX7_worth 24 = .ok (.ifCond .eq 13, 3) := by decide +kernel
theorem dX7_worth_27 : decode cX7_worth 27 = .ok (.aload_n 0, 1) := by decide +kernel
theorem dX7_worth_28 : decode cX7_worth 28 = .ok (.iload_n 1, 1) := by decide +kernel
theorem dX7_worth_29 : decode cX7_worth 29 = .ok (.iload_n 2, 1) := by decide +kernel
theorem dX7_worth_30 : decode cX7_worth 30 = .ok (.iload_n 3, 1) := by decide +kernel
theorem dX7_worth_31 : decode cX7_worth 31 = .ok (.invokevirtual 112, 3) := by decide +kernel
theorem dX7_worth_34 : decode cX7_worth 34 = .ok (.goto 4, 3) := by decide +kernel
theorem dX7_worth_37 : decode cX7_worth 37 = .ok (.iconst (-1), 1) := by decide +kernel
theorem dX7_worth_38 : decode cX7_worth 38 = .ok (.ireturn, 1) := by decide +kernel
theorem dX7_train_0 : decode cX7_train 0 = .ok (.iload_n 1, 1) := by decide +kernel
theorem dX7_train_1 : decode cX7_train 1 = .ok (.invokestatic 93, 3) := by decide +kernel
theorem dX7_train_4 : decode cX7_train 4 = .ok (.ifCond .eq 15, 3) := by decide +kernel
theorem dX7_train_7 : decode cX7_train 7 = .ok (.iload_n 2, 1) := by decide +kernel
theorem dX7_train_8 : decode cX7_train 8 = .ok (.i2l, 1) := by decide +kernel
theorem dX7_train_9 : decode cX7_train 9 = .ok (.lconst 0, 1) := by decide +kernel
theorem dX7_train_10 : decode cX7_train 10 = .ok (.ldc2_w 97, 3) := by decide +kernel
theorem dX7_train_13 : decode cX7_train 13 = .ok (.invokestatic 80, 3) := by decide +kernel
theorem dX7_train_16 : decode cX7_train 16 = .ok (.ifCond .ne 5, 3) := by decide +kernel
theorem dX7_train_19 : decode cX7_train 19 = .ok (.iconst (-1), 1) := by decide +kernel
theorem dX7_train_20 : decode cX7_train 20 = .ok (.ireturn, 1) := by decide +kernel
theorem dX7_train_21 : decode cX7_train 21 = .ok (.aload_n 0, 1) := by decide +kernel
theorem dX7_train_22 : decode cX7_train 22 = .ok (.getfield 116, 3) := by decide +kernel
theorem dX7_train_25 : decode cX7_train 25 = .ok (.bipush 6, 2) := by decide +kernel
theorem dX7_train_27 : decode cX7_train 27 = .ok (.if_icmp .ne 6, 3) := by decide +kernel
theorem dX7_train_30 : decode cX7_train 30 = .ok (.bipush (-3), 2) := by decide +kernel
theorem dX7_train_32 : decode cX7_train 32 = .ok (.ireturn, 1) := by decide +kernel
theorem dX7_train_33 : decode cX7_train 33 = .ok (.aload_n 0, 1) := by decide +kernel
theorem dX7_train_34 : decode cX7_train 34 = .ok (.getfield 22, 3) := by decide +kernel
theorem dX7_train_37 : decode cX7_train 37 = .ok (.aload_n 0, 1) := by decide +kernel
theorem dX7_train_38 : decode cX7_train 38 = .ok (.getfield 116, 3) := by decide +kernel
theorem dX7_train_41 : decode cX7_train 41 = .ok (.iload_n 1, 1) := by decide +kernel
theorem dX7_train_42 : decode cX7_train 42 = .ok (.iastore, 1) := by decide +kernel
theorem dX7_train_43 : decode cX7_train 43 = .ok (.aload_n 0, 1) := by decide +kernel
theorem dX7_train_44 : decode cX7_train 44 = .ok (.getfield 25, 3) := by decide +kernel
theorem dX7_train_47 : decode cX7_train 47 = .ok (.aload_n 0, 1) := by decide +kernel
theorem dX7_train_48 : decode cX7_train 48 = .ok (.getfield 116, 3) := by decide +kernel
theorem dX7_train_51 : decode cX7_train 51 = .ok (.iload_n 2, 1) := by decide +kernel
theorem dX7_train_52 : decode cX7_train 52 = .ok (.iastore, 1) := by decide +kernel
theorem dX7_train_53 : decode cX7_train 53 = .ok (.aload_n 0, 1) := by decide +kernel
theorem dX7_train_54 : decode cX7_train 54 = .ok (.dup, 1) := by decide +kernel
theorem dX7_train_55 : decode cX7_train 55 = .ok (.getfield 116, 3) := by decide +kernel
theorem dX7_train_58 : decode cX7_train 58 = .ok (.iconst 1, 1) := by decide +kernel
theorem dX7_train_59 : decode cX7_train 59 = .ok (.iadd, 1) := by decide +kernel
theorem dX7_train_60 : decode cX7_train 60 = .ok (.putfield 116, 3) := by decide +kernel
theorem dX7_train_63 : decode cX7_train 63 = .ok (.aload_n 0, 1) := by decide +kernel
theorem dX7_train_64 : decode cX7_train 64 = .ok (.getfield 116, 3) := by decide +kernel
theorem dX7_train_67 : decode cX7_train 67 = .ok (.iconst 1, 1) := by decide +kernel
theorem dX7_train_68 : decode cX7_train 68 = .ok (.isub, 1) := by decide +kernel
theorem dX7_train_69 : decode cX7_train 69 = .ok (.ireturn, 1) := by decide +kernel
theorem dX7_strike_0 : decode cX7_strike 0 = .ok (.aload_n 0, 1) := by decide +kernel
theorem dX7_strike_1 : decode cX7_strike 1 = .ok (.getfield 116, 3) := by decide +kernel
theorem dX7_strike_4 : decode cX7_strike 4 = .ok (.ifCond .ne 6, 3) := by decide +kernel
theorem dX7_strike_7 : decode cX7_strike 7 = .ok (.bipush (-4), 2) := by decide +kernel
theorem dX7_strike_9 : decode cX7_strike 9 = .ok (.ireturn, 1) := by decide +kernel
theorem dX7_strike_10 : decode cX7_strike 10 = .ok (.aload_n 0, 1) := by decide +kernel
theorem dX7_strike_11 : decode cX7_strike 11 = .ok (.dup, 1) := by decide +kernel
theorem dX7_strike_12 : decode cX7_strike 12 = .ok (.getfield 116, 3) := by decide +kernel
theorem dX7_strike_15 : decode cX7_strike 15 = .ok (.iconst 1, 1) := by decide +kernel
theorem dX7_strike_16 : decode cX7_strike 16 = .ok (.isub, 1) := by decide +kernel
theorem dX7_strike_17 : decode cX7_strike 17 = .ok (.putfield 116, 3) := by decide +kernel
theorem dX7_strike_20 : decode cX7_strike 20 = .ok (.aload_n 0, 1) := by decide +kernel
theorem dX7_strike_21 : decode cX7_strike 21 = .ok (.getfield 116, 3) := by decide +kernel
theorem dX7_strike_24 : decode cX7_strike 24 = .ok (.ireturn, 1) := by decide +kernel
theorem dX7_set_0 : decode cX7_set 0 = .ok (.iload_n 1, 1) := by decide +kernel
theorem dX7_set_1 : decode cX7_set 1 = .ok (.i2l, 1) := by decide +kernel
theorem dX7_set_2 : decode cX7_set 2 = .ok (.lconst 0, 1) := by decide +kernel
theorem dX7_set_3 : decode cX7_set 3 = .ok (.ldc2_w 91, 3) := by decide +kernel
theorem dX7_set_6 : decode cX7_set 6 = .ok (.invokestatic 80, 3) := by decide +kernel
theorem dX7_set_9 : decode cX7_set 9 = .ok (.ifCond .eq 36, 3) := by decide +kernel
theorem dX7_set_12 : decode cX7_set 12 = .ok (.iload_n 2, 1) := by decide +kernel
theorem dX7_set_13 : decode cX7_set 13 = .ok (.i2l, 1) := by decide +kernel
theorem dX7_set_14 : decode cX7_set 14 = .ok (.lconst 0, 1) := by decide +kernel
theorem dX7_set_15 : decode cX7_set 15 = .ok (.iload_n 1, 1) := by decide +kernel
theorem dX7_set_16 : decode cX7_set 16 = .ok (.ifCond .ne 9, 3) := by decide +kernel
theorem dX7_set_19 : decode cX7_set 19 = .ok (.ldc2_w 97, 3) := by decide +kernel
theorem dX7_set_22 : decode cX7_set 22 = .ok (.goto 17, 3) := by decide +kernel
theorem dX7_set_25 : decode cX7_set 25 = .ok (.iload_n 1, 1) := by decide +kernel
theorem dX7_set_26 : decode cX7_set 26 = .ok (.iconst 3, 1) := by decide +kernel
theorem dX7_set_27 : decode cX7_set 27 = .ok (.if_icmp .ne 9, 3) := by decide +kernel
theorem dX7_set_30 : decode cX7_set 30 = .ok (.ldc2_w 119, 3) := by decide +kernel
theorem dX7_set_33 : decode cX7_set 33 = .ok (.goto 6, 3) := by decide +kernel
theorem dX7_set_36 : decode cX7_set 36 = .ok (.ldc2_w 121, 3) := by decide +kernel
theorem dX7_set_39 : decode cX7_set 39 = .ok (.invokestatic 80, 3) := by decide +kernel
theorem dX7_set_42 : decode cX7_set 42 = .ok (.ifCond .ne 5, 3) := by decide +kernel
theorem dX7_set_45 : decode cX7_set 45 = .ok (.iconst (-1), 1) := by decide +kernel
theorem dX7_set_46 : decode cX7_set 46 = .ok (.ireturn, 1) := by decide +kernel
theorem dX7_set_47 : decode cX7_set 47 = .ok (.iload_n 1, 1) := by decide +kernel
theorem dX7_set_48 : decode cX7_set 48 = .ok (.ifCond .ne 10, 3) := by decide +kernel
theorem dX7_set_51 : decode cX7_set 51 = .ok (.aload_n 0, 1) := by decide +kernel
theorem dX7_set_52 : decode cX7_set 52 = .ok (.getfield 34, 3) := by decide +kernel
theorem dX7_set_55 : decode cX7_set 55 = .ok (.goto 31, 3) := by decide +kernel
theorem dX7_set_58 : decode cX7_set 58 = .ok (.iload_n 1, 1) := by decide +kernel
theorem dX7_set_59 : decode cX7_set 59 = .ok (.iconst 1, 1) := by decide +kernel
theorem dX7_set_60 : decode cX7_set 60 = .ok (.if_icmp .ne 10, 3) := by decide +kernel
theorem dX7_set_63 : decode cX7_set 63 = .ok (.aload_n 0, 1) := by decide +kernel
theorem dX7_set_64 : decode cX7_set 64 = .ok (.getfield 123, 3) := by decide +kernel
theorem dX7_set_67 : decode cX7_set 67 = .ok (.goto 19, 3) := by decide +kernel
theorem dX7_set_70 : decode cX7_set 70 = .ok (.iload_n 1, 1) := by decide +kernel
theorem dX7_set_71 : decode cX7_set 71 = .ok (.iconst 2, 1) := by decide +kernel
theorem dX7_set_72 : decode cX7_set 72 = .ok (.if_icmp .ne 10, 3) := by decide +kernel
theorem dX7_set_75 : decode cX7_set 75 = .ok (.aload_n 0, 1) := by decide +kernel
theorem dX7_set_76 : decode cX7_set 76 = .ok (.getfield 126, 3) := by decide +kernel
theorem dX7_set_79 : decode cX7_set 79 = .ok (.goto 7, 3) := by decide +kernel
theorem dX7_set_82 : decode cX7_set 82 = .ok (.aload_n 0, 1) := by decide +kernel
theorem dX7_set_83 : decode cX7_set 83 = .ok (.getfield 38, 3) := by decide +kernel
theorem dX7_set_86 : decode cX7_set 86 = .ok (.istore_n 3, 1) := by decide +kernel
theorem dX7_set_87 : decode cX7_set 87 = .ok (.aload_n 0, 1) := by decide +kernel
theorem dX7_set_88 : decode cX7_set 88 = .ok (.iload_n 1, 1) := by decide +kernel
theorem dX7_set_89 : decode cX7_set 89 = .ok (.ifCond .ne 7, 3) := by decide +kernel
theorem dX7_set_92 : decode cX7_set 92 = .ok (.iload_n 2, 1) := by decide +kernel
theorem dX7_set_93 : decode cX7_set 93 = .ok (.goto 7, 3) := by decide +kernel
theorem dX7_set_96 : decode cX7_set 96 = .ok (.aload_n 0, 1) := by decide +kernel
theorem dX7_set_97 : decode cX7_set 97 = .ok (.getfield 34, 3) := by decide +kernel
theorem dX7_set_100 : decode cX7_set 100 = .ok (.putfield 34, 3) := by decide +kernel
theorem dX7_set_103 : decode cX7_set 103 = .ok (.aload_n 0, 1) := by decide +kernel
theorem dX7_set_104 : decode cX7_set 104 = .ok (.iload_n 1, 1) := by decide +kernel
theorem dX7_set_105 : decode cX7_set 105 = .ok (.iconst 1, 1) := by decide +kernel
theorem dX7_set_106 : decode cX7_set 106 = .ok (.if_icmp .ne 7, 3) := by decide +kernel
theorem dX7_set_109 : decode cX7_set 109 = .ok (.iload_n 2, 1) := by decide +kernel
theorem dX7_set_110 : decode cX7_set 110 = .ok (.goto 7, 3) := by decide +kernel
theorem dX7_set_113 : decode cX7_set 113 = .ok (.aload_n 0, 1) := by decide +kernel
theorem dX7_set_114 : decode cX7_set 114 = .ok (.getfield 123, 3) := by decide +kernel
theorem dX7_set_117 : decode cX7_set 117 = .ok (.putfield 123, 3) := by decide +kernel
theorem dX7_set_120 : decode cX7_set 120 = .ok (.aload_n 0, 1) := by decide +kernel
theorem dX7_set_121 : decode cX7_set 121 = .ok (.iload_n 1, 1) := by decide +kernel
theorem dX7_set_122 : decode cX7_set 122 = .ok (.iconst 2, 1) := by decide +kernel
theorem dX7_set_123 : decode cX7_set 123 = .ok (.if_icmp .ne 7, 3) := by decide +kernel
theorem dX7_set_126 : decode cX7_set 126 = .ok (.iload_n 2, 1) := by decide +kernel
theorem dX7_set_127 : decode cX7_set 127 = .ok (.goto 7, 3) := by decide +kernel
theorem dX7_set_130 : decode cX7_set 130 = .ok (.aload_n 0, 1) := by decide +kernel
theorem dX7_set_131 : decode cX7_set 131 = .ok (.getfield 126, 3) := by decide +kernel
theorem dX7_set_134 : decode cX7_set 134 = .ok (.putfield 126, 3) := by decide +kernel
theorem dX7_set_137 : decode cX7_set 137 = .ok (.aload_n 0, 1) := by decide +kernel
theorem dX7_set_138 : decode cX7_set 138 = .ok (.iload_n 1, 1) := by decide +kernel
theorem dX7_set_139 : decode cX7_set 139 = .ok (.iconst 3, 1) := by decide +kernel
theorem dX7_set_140 : decode cX7_set 140 = .ok (.if_icmp .ne 7, 3) := by decide +kernel
theorem dX7_set_143 : decode cX7_set 143 = .ok (.iload_n 2, 1) := by decide +kernel
theorem dX7_set_144 : decode cX7_set 144 = .ok (.goto 7, 3) := by decide +kernel
theorem dX7_set_147 : decode cX7_set 147 = .ok (.aload_n 0, 1) := by decide +kernel
theorem dX7_set_148 : decode cX7_set 148 = .ok (.getfield 38, 3) := by decide +kernel
theorem dX7_set_151 : decode cX7_set 151 = .ok (.putfield 38, 3) := by decide +kernel
theorem dX7_set_154 : decode cX7_set 154 = .ok (.iload_n 3, 1) := by decide +kernel
theorem dX7_set_155 : decode cX7_set 155 = .ok (.ireturn, 1) := by decide +kernel
theorem dX7_loss_0 : decode cX7_loss 0 = .ok (.iload_n 1, 1) := by decide +kernel
theorem dX7_loss_1 : decode cX7_loss 1 = .ok (.invokestatic 93, 3) := by decide +kernel
theorem dX7_loss_4 : decode cX7_loss 4 = .ok (.ifCond .eq 15, 3) := by decide +kernel
theorem dX7_loss_7 : decode cX7_loss 7 = .ok (.iload_n 2, 1) := by decide +kernel
theorem dX7_loss_8 : decode cX7_loss 8 = .ok (.i2l, 1) := by decide +kernel
theorem dX7_loss_9 : decode cX7_loss 9 = .ok (.lconst 0, 1) := by decide +kernel
theorem dX7_loss_10 : decode cX7_loss 10 = .ok (.ldc2_w 97, 3) := by decide +kernel
theorem dX7_loss_13 : decode cX7_loss 13 = .ok (.invokestatic 80, 3) := by decide +kernel
theorem dX7_loss_16 : decode cX7_loss 16 = .ok (.ifCond .ne 5, 3) := by decide +kernel
theorem dX7_loss_19 : decode cX7_loss 19 = .ok (.iconst (-1), 1) := by decide +kernel
theorem dX7_loss_20 : decode cX7_loss 20 = .ok (.ireturn, 1) := by decide +kernel
theorem dX7_loss_21 : decode cX7_loss 21 = .ok (.aload_n 0, 1) := by decide +kernel
theorem dX7_loss_22 : decode cX7_loss 22 = .ok (.getfield 28, 3) := by decide +kernel
theorem dX7_loss_25 : decode cX7_loss 25 = .ok (.iload_n 1, 1) := by decide +kernel
theorem dX7_loss_26 : decode cX7_loss 26 = .ok (.iaload, 1) := by decide +kernel
theorem dX7_loss_27 : decode cX7_loss 27 = .ok (.istore_n 3, 1) := by decide +kernel
theorem dX7_loss_28 : decode cX7_loss 28 = .ok (.aload_n 0, 1) := by decide +kernel
theorem dX7_loss_29 : decode cX7_loss 29 = .ok (.getfield 28, 3) := by decide +kernel
theorem dX7_loss_32 : decode cX7_loss 32 = .ok (.iload_n 1, 1) := by decide +kernel
theorem dX7_loss_33 : decode cX7_loss 33 = .ok (.iload_n 2, 1) := by decide +kernel
theorem dX7_loss_34 : decode cX7_loss 34 = .ok (.iastore, 1) := by decide +kernel
theorem dX7_loss_35 : decode cX7_loss 35 = .ok (.iload_n 3, 1) := by decide +kernel
theorem dX7_loss_36 : decode cX7_loss 36 = .ok (.ireturn, 1) := by decide +kernel
theorem dX7_is_0 : decode cX7_is 0 = .ok (.iload_n 1, 1) := by decide +kernel
theorem dX7_is_1 : decode cX7_is 1 = .ok (.tableswitch 87 0 7 #[47, 52, 57, 62, 67, 72, 77, 82], 47) := by decide +kernel
theorem dX7_is_48 : decode cX7_is 48 = .ok (.aload_n 0, 1) := by decide +kernel
theorem dX7_is_49 : decode cX7_is 49 = .ok (.getfield 34, 3) := by decide +kernel
theorem dX7_is_52 : decode cX7_is 52 = .ok (.ireturn, 1) := by decide +kernel
theorem dX7_is_53 : decode cX7_is 53 = .ok (.aload_n 0, 1) := by decide +kernel
theorem dX7_is_54 : decode cX7_is 54 = .ok (.getfield 123, 3) := by decide +kernel
theorem dX7_is_57 : decode cX7_is 57 = .ok (.ireturn, 1) := by decide +kernel
theorem dX7_is_58 : decode cX7_is 58 = .ok (.aload_n 0, 1) := by decide +kernel
theorem dX7_is_59 : decode cX7_is 59 = .ok (.getfield 126, 3) := by decide +kernel
theorem dX7_is_62 : decode cX7_is 62 = .ok (.ireturn, 1) := by decide +kernel
theorem dX7_is_63 : decode cX7_is 63 = .ok (.aload_n 0, 1) := by decide +kernel
theorem dX7_is_64 : decode cX7_is 64 = .ok (.getfield 38, 3) := by decide +kernel
theorem dX7_is_67 : decode cX7_is 67 = .ok (.ireturn, 1) := by decide +kernel
theorem dX7_is_68 : decode cX7_is 68 = .ok (.aload_n 0, 1) := by decide +kernel
theorem dX7_is_69 : decode cX7_is 69 = .ok (.getfield 84, 3) := by decide +kernel
theorem dX7_is_72 : decode cX7_is 72 = .ok (.ireturn, 1) := by decide +kernel
theorem dX7_is_73 : decode cX7_is 73 = .ok (.aload_n 0, 1) := by decide +kernel
theorem dX7_is_74 : decode cX7_is 74 = .ok (.getfield 116, 3) := by decide +kernel
theorem dX7_is_77 : decode cX7_is 77 = .ok (.ireturn, 1) := by decide +kernel
theorem dX7_is_78 : decode cX7_is 78 = .ok (.aload_n 0, 1) := by decide +kernel
theorem dX7_is_79 : decode cX7_is 79 = .ok (.getfield 129, 3) := by decide +kernel
theorem dX7_is_82 : decode cX7_is 82 = .ok (.ireturn, 1) := by decide +kernel
theorem dX7_is_83 : decode cX7_is 83 = .ok (.aload_n 0, 1) := by decide +kernel
theorem dX7_is_84 : decode cX7_is 84 = .ok (.getfield 132, 3) := by decide +kernel
theorem dX7_is_87 : decode cX7_is 87 = .ok (.ireturn, 1) := by decide +kernel
theorem dX7_is_88 : decode cX7_is 88 = .ok (.ldc 135, 2) := by decide +kernel
theorem dX7_is_90 : decode cX7_is 90 = .ok (.ireturn, 1) := by decide +kernel
theorem dX7_type_0 : decode cX7_type 0 = .ok (.iload_n 3, 1) := by decide +kernel
theorem dX7_type_1 : decode cX7_type 1 = .ok (.i2l, 1) := by decide +kernel
theorem dX7_type_2 : decode cX7_type 2 = .ok (.lconst 1, 1) := by decide +kernel
theorem dX7_type_3 : decode cX7_type 3 = .ok (.ldc2_w 136, 3) := by decide +kernel
theorem dX7_type_6 : decode cX7_type 6 = .ok (.invokestatic 80, 3) := by decide +kernel
theorem dX7_type_9 : decode cX7_type 9 = .ok (.ifCond .ne 5, 3) := by decide +kernel
theorem dX7_type_12 : decode cX7_type 12 = .ok (.iconst (-1), 1) := by decide +kernel
theorem dX7_type_13 : decode cX7_type 13 = .ok (.ireturn, 1) := by decide +kernel
theorem dX7_type_14 : decode cX7_type 14 = .ok (.iload_n 3, 1) := by decide +kernel
theorem dX7_type_15 : decode cX7_type 15 = .ok (.iconst 1, 1) := by decide +kernel
theorem dX7_type_16 : decode cX7_type 16 = .ok (.isub, 1) := by decide +kernel
theorem dX7_type_17 : decode cX7_type 17 = .ok (.istore 4, 2) := by decide +kernel
theorem dX7_type_19 : decode cX7_type 19 = .ok (.iload 4, 2) := by decide +kernel
theorem dX7_type_21 : decode cX7_type 21 = .ok (.ifCond .lt 34, 3) := by decide +kernel
theorem dX7_type_24 : decode cX7_type 24 = .ok (.lload_n 1, 1) := by decide +kernel
theorem dX7_type_25 : decode cX7_type 25 = .ok (.bipush 8, 2) := by decide +kernel
theorem dX7_type_27 : decode cX7_type 27 = .ok (.iload 4, 2) := by decide +kernel
theorem dX7_type_29 : decode cX7_type 29 = .ok (.imul, 1) := by decide +kernel
theorem dX7_type_30 : decode cX7_type 30 = .ok (.lshr, 1) := by decide +kernel
theorem dX7_type_31 : decode cX7_type 31 = .ok (.ldc2_w 138, 3) := by decide +kernel
theorem dX7_type_34 : decode cX7_type 34 = .ok (.land, 1) := by decide +kernel
theorem dX7_type_35 : decode cX7_type 35 = .ok (.ldc2_w 140, 3) := by decide +kernel
theorem dX7_type_38 : decode cX7_type 38 = .ok (.ldc2_w 142, 3) := by decide +kernel
theorem dX7_type_41 : decode cX7_type 41 = .ok (.invokestatic 80, 3) := by decide +kernel
theorem dX7_type_44 : decode cX7_type 44 = .ok (.ifCond .ne 5, 3) := by decide +kernel
theorem dX7_type_47 : decode cX7_type 47 = .ok (.iconst (-1), 1) := by decide +kernel
theorem dX7_type_48 : decode cX7_type 48 = .ok (.ireturn, 1) := by decide +kernel
theorem dX7_type_49 : decode cX7_type 49 = .ok (.iinc 4 (-1), 3) := by decide +kernel
theorem dX7_type_52 : decode cX7_type 52 = .ok (.goto (-33), 3) := by decide +kernel
theorem dX7_type_55 : decode cX7_type 55 = .ok (.aload_n 0, 1) := by decide +kernel
theorem dX7_type_56 : decode cX7_type 56 = .ok (.getfield 144, 3) := by decide +kernel
theorem dX7_type_59 : decode cX7_type 59 = .ok (.iload_n 3, 1) := by decide +kernel
theorem dX7_type_60 : decode cX7_type 60 = .ok (.iadd, 1) := by decide +kernel
theorem dX7_type_61 : decode cX7_type 61 = .ok (.sipush 140, 3) := by decide +kernel
theorem dX7_type_64 : decode cX7_type 64 = .ok (.if_icmp .le 6, 3) := by decide +kernel
theorem dX7_type_67 : decode cX7_type 67 = .ok (.bipush (-3), 2) := by decide +kernel
theorem dX7_type_69 : decode cX7_type 69 = .ok (.ireturn, 1) := by decide +kernel
theorem dX7_type_70 : decode cX7_type 70 = .ok (.iload_n 3, 1) := by decide +kernel
theorem dX7_type_71 : decode cX7_type 71 = .ok (.iconst 1, 1) := by decide +kernel
theorem dX7_type_72 : decode cX7_type 72 = .ok (.isub, 1) := by decide +kernel
theorem dX7_type_73 : decode cX7_type 73 = .ok (.istore 4, 2) := by decide +kernel
theorem dX7_type_75 : decode cX7_type 75 = .ok (.iload 4, 2) := by decide +kernel
theorem dX7_type_77 : decode cX7_type 77 = .ok (.ifCond .lt 40, 3) := by decide +kernel
theorem dX7_type_80 : decode cX7_type 80 = .ok (.aload_n 0, 1) := by decide +kernel
theorem dX7_type_81 : decode cX7_type 81 = .ok (.getfield 44, 3) := by decide +kernel
theorem dX7_type_84 : decode cX7_type 84 = .ok (.aload_n 0, 1) := by decide +kernel
theorem dX7_type_85 : decode cX7_type 85 = .ok (.getfield 144, 3) := by decide +kernel
theorem dX7_type_88 : decode cX7_type 88 = .ok (.lload_n 1, 1) := by decide +kernel
theorem dX7_type_89 : decode cX7_type 89 = .ok (.bipush 8, 2) := by decide +kernel
theorem dX7_type_91 : decode cX7_type 91 = .ok (.iload 4, 2) := by decide +kernel
theorem dX7_type_93 : decode cX7_type 93 = .ok (.imul, 1) := by decide +kernel
theorem dX7_type_94 : decode cX7_type 94 = .ok (.lshr, 1) := by decide +kernel
theorem dX7_type_95 : decode cX7_type 95 = .ok (.ldc2_w 138, 3) := by decide +kernel
theorem dX7_type_98 : decode cX7_type 98 = .ok (.land, 1) := by decide +kernel
theorem dX7_type_99 : decode cX7_type 99 = .ok (.l2i, 1) := by decide +kernel
theorem dX7_type_100 : decode cX7_type 100 = .ok (.iastore, 1) := by decide +kernel
theorem dX7_type_101 : decode cX7_type 101 = .ok (.aload_n 0, 1) := by decide +kernel
theorem dX7_type_102 : decode cX7_type 102 = .ok (.dup, 1) := by decide +kernel
theorem dX7_type_103 : decode cX7_type 103 = .ok (.getfield 144, 3) := by decide +kernel
theorem dX7_type_106 : decode cX7_type 106 = .ok (.iconst 1, 1) := by decide +kernel
theorem dX7_type_107 : decode cX7_type 107 = .ok (.iadd, 1) := by decide +kernel
theorem dX7_type_108 : decode cX7_type 108 = .ok (.putfield 144, 3) := by decide +kernel
theorem dX7_type_111 : decode cX7_type 111 = .ok (.iinc 4 (-1), 3) := by decide +kernel
theorem dX7_type_114 : decode cX7_type 114 = .ok (.goto (-39), 3) := by decide +kernel
theorem dX7_type_117 : decode cX7_type 117 = .ok (.aload_n 0, 1) := by decide +kernel
theorem dX7_type_118 : decode cX7_type 118 = .ok (.getfield 144, 3) := by decide +kernel
theorem dX7_type_121 : decode cX7_type 121 = .ok (.ireturn, 1) := by decide +kernel
theorem dX7_nextByte_0 : decode cX7_nextByte 0 = .ok (.aload_n 0, 1) := by decide +kernel
theorem dX7_nextByte_1 : decode cX7_nextByte 1 = .ok (.getfield 147, 3) := by decide +kernel
theorem dX7_nextByte_4 : decode cX7_nextByte 4 = .ok (.aload_n 0, 1) := by decide +kernel
theorem dX7_nextByte_5 : decode cX7_nextByte 5 = .ok (.getfield 144, 3) := by decide +kernel
theorem dX7_nextByte_8 : decode cX7_nextByte 8 = .ok (.if_icmp .ge 30, 3) := by decide +kernel
theorem dX7_nextByte_11 : decode cX7_nextByte 11 = .ok (.aload_n 0, 1) := by decide +kernel
theorem dX7_nextByte_12 : decode cX7_nextByte 12 = .ok (.getfield 44, 3) := by decide +kernel
theorem dX7_nextByte_15 : decode cX7_nextByte 15 = .ok (.aload_n 0, 1) := by decide +kernel
theorem dX7_nextByte_16 : decode cX7_nextByte 16 = .ok (.getfield 147, 3) := by decide +kernel
theorem dX7_nextByte_19 : decode cX7_nextByte 19 = .ok (.iaload, 1) := by decide +kernel
theorem dX7_nextByte_20 : decode cX7_nextByte 20 = .ok (.bipush 32, 2) := by decide +kernel
theorem dX7_nextByte_22 : decode cX7_nextByte 22 = .ok (.if_icmp .ne 16, 3) := by decide +kernel
theorem dX7_nextByte_25 : decode cX7_nextByte 25 = .ok (.aload_n 0, 1) := by decide +kernel
theorem dX7_nextByte_26 : decode cX7_nextByte 26 = .ok (.dup, 1) := by decide +kernel
theorem dX7_nextByte_27 : decode cX7_nextByte 27 = .ok (.getfield 147, 3) := by decide +kernel
theorem dX7_nextByte_30 : decode cX7_nextByte 30 = .ok (.iconst 1, 1) := by decide +kernel
theorem dX7_nextByte_31 : decode cX7_nextByte 31 = .ok (.iadd, 1) := by decide +kernel
theorem dX7_nextByte_32 : decode cX7_nextByte 32 = .ok (.putfield 147, 3) := by decide +kernel
theorem dX7_nextByte_35 : decode cX7_nextByte 35 = .ok (.goto (-35), 3) := by decide +kernel
theorem dX7_nextByte_38 : decode cX7_nextByte 38 = .ok (.aload_n 0, 1) := by decide +kernel
theorem dX7_nextByte_39 : decode cX7_nextByte 39 = .ok (.getfield 147, 3) := by decide +kernel
theorem dX7_nextByte_42 : decode cX7_nextByte 42 = .ok (.aload_n 0, 1) := by decide +kernel
theorem dX7_nextByte_43 : decode cX7_nextByte 43 = .ok (.getfield 144, 3) := by decide +kernel
theorem dX7_nextByte_46 : decode cX7_nextByte 46 = .ok (.if_icmp .ge 15, 3) := by decide +kernel
theorem dX7_nextByte_49 : decode cX7_nextByte 49 = .ok (.aload_n 0, 1) := by decide +kernel
theorem dX7_nextByte_50 : decode cX7_nextByte 50 = .ok (.getfield 44, 3) := by decide +kernel
theorem dX7_nextByte_53 : decode cX7_nextByte 53 = .ok (.aload_n 0, 1) := by decide +kernel
theorem dX7_nextByte_54 : decode cX7_nextByte 54 = .ok (.getfield 147, 3) := by decide +kernel
theorem dX7_nextByte_57 : decode cX7_nextByte 57 = .ok (.iaload, 1) := by decide +kernel
theorem dX7_nextByte_58 : decode cX7_nextByte 58 = .ok (.goto 4, 3) := by decide +kernel
theorem dX7_nextByte_61 : decode cX7_nextByte 61 = .ok (.iconst (-1), 1) := by decide +kernel
theorem dX7_nextByte_62 : decode cX7_nextByte 62 = .ok (.ireturn, 1) := by decide +kernel
theorem dX7_takes_0 : decode cX7_takes 0 = .ok (.aload_n 0, 1) := by decide +kernel
theorem dX7_takes_1 : decode cX7_takes 1 = .ok (.invokevirtual 150, 3) := by decide +kernel
theorem dX7_takes_4 : decode cX7_takes 4 = .ok (.iload_n 1, 1) := by decide +kernel
theorem dX7_takes_5 : decode cX7_takes 5 = .ok (.if_icmp .ne 7, 3) := by decide +kernel
theorem dX7_takes_8 : decode cX7_takes 8 = .ok (.iconst 1, 1) := by decide +kernel
theorem dX7_takes_9 : decode cX7_takes 9 = .ok (.goto 4, 3) := by decide +kernel
theorem dX7_takes_12 : decode cX7_takes 12 = .ok (.iconst 0, 1) := by decide +kernel
theorem dX7_takes_13 : decode cX7_takes 13 = .ok (.istore_n 2, 1) := by decide +kernel
theorem dX7_takes_14 : decode cX7_takes 14 = .ok (.aload_n 0, 1) := by decide +kernel
theorem dX7_takes_15 : decode cX7_takes 15 = .ok (.dup, 1) := by decide +kernel
theorem dX7_takes_16 : decode cX7_takes 16 = .ok (.getfield 147, 3) := by decide +kernel
theorem dX7_takes_19 : decode cX7_takes 19 = .ok (.iload_n 2, 1) := by decide +kernel
theorem dX7_takes_20 : decode cX7_takes 20 = .ok (.ifCond .eq 7, 3) := by decide +kernel
theorem dX7_takes_23 : decode cX7_takes 23 = .ok (.iconst 1, 1) := by decide +kernel
theorem dX7_takes_24 : decode cX7_takes 24 = .ok (.goto 4, 3) := by decide +kernel
theorem dX7_takes_27 : decode cX7_takes 27 = .ok (.iconst 0, 1) := by decide +kernel
theorem dX7_takes_28 : decode cX7_takes 28 = .ok (.iadd, 1) := by decide +kernel
theorem dX7_takes_29 : decode cX7_takes 29 = .ok (.putfield 147, 3) := by decide +kernel
theorem dX7_takes_32 : decode cX7_takes 32 = .ok (.iload_n 2, 1) := by decide +kernel
theorem dX7_takes_33 : decode cX7_takes 33 = .ok (.ireturn, 1) := by decide +kernel
theorem dX7_readNumber_0 : decode cX7_readNumber 0 = .ok (.aload_n 0, 1) := by decide +kernel
theorem dX7_readNumber_1 : decode cX7_readNumber 1 = .ok (.invokevirtual 150, 3) := by decide +kernel
theorem dX7_readNumber_4 : decode cX7_readNumber 4 = .ok (.pop, 1) := by decide +kernel
theorem dX7_readNumber_5 : decode cX7_readNumber 5 = .ok (.aload_n 0, 1) := by decide +kernel
theorem dX7_readNumber_6 : decode cX7_readNumber 6 = .ok (.getfield 147, 3) := by decide +kernel
theorem dX7_readNumber_9 : decode cX7_readNumber 9 = .ok (.istore_n 2, 1) := by decide +kernel
theorem dX7_readNumber_10 : decode cX7_readNumber 10 = .ok (.iconst 0, 1) := by decide +kernel
theorem dX7_readNumber_11 : decode cX7_readNumber 11 = .ok (.istore_n 3, 1) := by decide +kernel
theorem dX7_readNumber_12 : decode cX7_readNumber 12 = .ok (.aload_n 0, 1) := by decide +kernel
theorem dX7_readNumber_13 : decode cX7_readNumber 13 = .ok (.getfield 147, 3) := by decide +kernel
theorem dX7_readNumber_16 : decode cX7_readNumber 16 = .ok (.aload_n 0, 1) := by decide +kernel
theorem dX7_readNumber_17 : decode cX7_readNumber 17 = .ok (.getfield 144, 3) := by decide +kernel
theorem dX7_readNumber_20 : decode cX7_readNumber 20 = .ok (.if_icmp .ge 66, 3) := by decide +kernel
theorem dX7_readNumber_23 : decode cX7_readNumber 23 = .ok (.aload_n 0, 1) := by decide +kernel
theorem dX7_readNumber_24 : decode cX7_readNumber 24 = .ok (.getfield 44, 3) := by decide +kernel
theorem dX7_readNumber_27 : decode cX7_readNumber 27 = .ok (.aload_n 0, 1) := by decide +kernel
theorem dX7_readNumber_28 : decode cX7_readNumber 28 = .ok (.getfield 147, 3) := by decide +kernel
theorem dX7_readNumber_31 : decode cX7_readNumber 31 = .ok (.iaload, 1) := by decide +kernel
theorem dX7_readNumber_32 : decode cX7_readNumber 32 = .ok (.i2l, 1) := by decide +kernel
theorem dX7_readNumber_33 : decode cX7_readNumber 33 = .ok (.ldc2_w 154, 3) := by decide +kernel
theorem dX7_readNumber_36 : decode cX7_readNumber 36 = .ok (.ldc2_w 156, 3) := by decide +kernel
theorem dX7_readNumber_39 : decode cX7_readNumber 39 = .ok (.invokestatic 80, 3) := by decide +kernel
theorem dX7_readNumber_42 : decode cX7_readNumber 42 = .ok (.ifCond .eq 44, 3) := by decide +kernel
theorem dX7_readNumber_45 : decode cX7_readNumber 45 = .ok (.iload_n 3, 1) := by decide +kernel
theorem dX7_readNumber_46 : decode cX7_readNumber 46 = .ok (.ldc 158, 2) := by decide +kernel
theorem dX7_readNumber_48 : decode cX7_readNumber 48 = .ok (.if_icmp .le 7, 3) := by decide +kernel
theorem dX7_readNumber_51 : decode cX7_readNumber 51 = .ok (.iload_n 3, 1) := by decide +kernel
theorem dX7_readNumber_52 : decode cX7_readNumber 52 = .ok (.goto 20, 3) := by decide +kernel
theorem dX7_readNumber_55 : decode cX7_readNumber 55 = .ok (.bipush 10, 2) := by decide +kernel
theorem dX7_readNumber_57 : decode cX7_readNumber 57 = .ok (.iload_n 3, 1) := by decide +kernel
theorem dX7_readNumber_58 : decode cX7_readNumber 58 = .ok (.imul, 1) := by decide +kernel
theorem dX7_readNumber_59 : decode cX7_readNumber 59 = .ok (.aload_n 0, 1) := by decide +kernel
theorem dX7_readNumber_60 : decode cX7_readNumber 60 = .ok (.getfield 44, 3) := by decide +kernel
theorem dX7_readNumber_63 : decode cX7_readNumber 63 = .ok (.aload_n 0, 1) := by decide +kernel
theorem dX7_readNumber_64 : decode cX7_readNumber 64 = .ok (.getfield 147, 3) := by decide +kernel
theorem dX7_readNumber_67 : decode cX7_readNumber 67 = .ok (.iaload, 1) := by decide +kernel
theorem dX7_readNumber_68 : decode cX7_readNumber 68 = .ok (.iadd, 1) := by decide +kernel
theorem dX7_readNumber_69 : decode cX7_readNumber 69 = .ok (.bipush 48, 2) := by decide +kernel
theorem dX7_readNumber_71 : decode cX7_readNumber 71 = .ok (.isub, 1) := by decide +kernel
theorem dX7_readNumber_72 : decode cX7_readNumber 72 = .ok (.istore_n 3, 1) := by decide +kernel
theorem dX7_readNumber_73 : decode cX7_readNumber 73 = .ok (.aload_n 0, 1) := by decide +kernel
theorem dX7_readNumber_74 : decode cX7_readNumber 74 = .ok (.dup, 1) := by decide +kernel
theorem dX7_readNumber_75 : decode cX7_readNumber 75 = .ok (.getfield 147, 3) := by decide +kernel
theorem dX7_readNumber_78 : decode cX7_readNumber 78 = .ok (.iconst 1, 1) := by decide +kernel
theorem dX7_readNumber_79 : decode cX7_readNumber 79 = .ok (.iadd, 1) := by decide +kernel
theorem dX7_readNumber_80 : decode cX7_readNumber 80 = .ok (.putfield 147, 3) := by decide +kernel
theorem dX7_readNumber_83 : decode cX7_readNumber 83 = .ok (.goto (-71), 3) := by decide +kernel
theorem dX7_readNumber_86 : decode cX7_readNumber 86 = .ok (.aload_n 0, 1) := by decide +kernel
theorem dX7_readNumber_87 : decode cX7_readNumber 87 = .ok (.getfield 147, 3) := by decide +kernel
theorem dX7_readNumber_90 : decode cX7_readNumber 90 = .ok (.iload_n 2, 1) := by decide +kernel
theorem dX7_readNumber_91 : decode cX7_readNumber 91 = .ok (.if_icmp .ne 5, 3) := by decide +kernel
theorem dX7_readNumber_94 : decode cX7_readNumber 94 = .ok (.iconst (-1), 1) := by decide +kernel
theorem dX7_readNumber_95 : decode cX7_readNumber 95 = .ok (.ireturn, 1) := by decide +kernel
theorem dX7_readNumber_96 : decode cX7_readNumber 96 = .ok (.iload_n 3, 1) := by decide +kernel
theorem dX7_readNumber_97 : decode cX7_readNumber 97 = .ok (.iload_n 1, 1) := by decide +kernel
theorem dX7_readNumber_98 : decode cX7_readNumber 98 = .ok (.if_icmp .le 10, 3) := by decide +kernel
theorem dX7_readNumber_101 : decode cX7_readNumber 101 = .ok (.aload_n 0, 1) := by decide +kernel
theorem dX7_readNumber_102 : decode cX7_readNumber 102 = .ok (.iload_n 2, 1) := by decide +kernel
theorem dX7_readNumber_103 : decode cX7_readNumber 103 = .ok (.putfield 147, 3) := by decide +kernel
theorem dX7_readNumber_106 : decode cX7_readNumber 106 = .ok (.iconst (-1), 1) := by decide +kernel
theorem dX7_readNumber_107 : decode cX7_readNumber 107 = .ok (.ireturn, 1) := by decide +kernel
theorem dX7_readNumber_108 : decode cX7_readNumber 108 = .ok (.iload_n 3, 1) := by decide +kernel
theorem dX7_readNumber_109 : decode cX7_readNumber 109 = .ok (.ireturn, 1) := by decide +kernel
theorem dX7_readOne_0 : decode cX7_readOne 0 = .ok (.aload_n 0, 1) := by decide +kernel
theorem dX7_readOne_1 : decode cX7_readOne 1 = .ok (.invokevirtual 150, 3) := by decide +kernel
theorem dX7_readOne_4 : decode cX7_readOne 4 = .ok (.istore_n 2, 1) := by decide +kernel
theorem dX7_readOne_5 : decode cX7_readOne 5 = .ok (.aload_n 0, 1) := by decide +kernel
theorem dX7_readOne_6 : decode cX7_readOne 6 = .ok (.getfield 47, 3) := by decide +kernel
theorem dX7_readOne_9 : decode cX7_readOne 9 = .ok (.iload_n 1, 1) := by decide +kernel
theorem dX7_readOne_10 : decode cX7_readOne 10 = .ok (.iload_n 2, 1) := by decide +kernel
theorem dX7_readOne_11 : decode cX7_readOne 11 = .ok (.bipush 99, 2) := by decide +kernel
theorem dX7_readOne_13 : decode cX7_readOne 13 = .ok (.if_icmp .ne 7, 3) := by decide +kernel
theorem dX7_readOne_16 : decode cX7_readOne 16 = .ok (.iconst 0, 1) := by decide +kernel
theorem dX7_readOne_17 : decode cX7_readOne 17 = .ok (.goto 34, 3) := by decide +kernel
theorem dX7_readOne_20 : decode cX7_readOne 20 = .ok (.iload_n 2, 1) := by decide +kernel
theorem dX7_readOne_21 : decode cX7_readOne 21 = .ok (.bipush 108, 2) := by decide +kernel
theorem dX7_readOne_23 : decode cX7_readOne 23 = .ok (.if_icmp .ne 7, 3) := by decide +kernel
theorem dX7_readOne_26 : decode cX7_readOne 26 = .ok (.iconst 1, 1) := by decide +kernel
theorem dX7_readOne_27 : decode cX7_readOne 27 = .ok (.goto 24, 3) := by decide +kernel
theorem dX7_readOne_30 : decode cX7_readOne 30 = .ok (.iload_n 2, 1) := by decide +kernel
theorem dX7_readOne_31 : decode cX7_readOne 31 = .ok (.bipush 107, 2) := by decide +kernel
theorem dX7_readOne_33 : decode cX7_readOne 33 = .ok (.if_icmp .ne 7, 3) := by decide +kernel
theorem dX7_readOne_36 : decode cX7_readOne 36 = .ok (.iconst 2, 1) := by decide +kernel
theorem dX7_readOne_37 : decode cX7_readOne 37 = .ok (.goto 14, 3) := by decide +kernel
theorem dX7_readOne_40 : decode cX7_readOne 40 = .ok (.iload_n 2, 1) := by decide +kernel
theorem dX7_readOne_41 : decode cX7_readOne 41 = .ok (.bipush 112, 2) := by decide +kernel
theorem dX7_readOne_43 : decode cX7_readOne 43 = .ok (.if_icmp .ne 7, 3) := by decide +kernel
theorem dX7_readOne_46 : decode cX7_readOne 46 = .ok (.iconst 3, 1) := by decide +kernel
theorem dX7_readOne_47 : decode cX7_readOne 47 = .ok (.goto 4, 3) := by decide +kernel
theorem dX7_readOne_50 : decode cX7_readOne 50 = .ok (.iconst (-1), 1) := by decide +kernel
theorem dX7_readOne_51 : decode cX7_readOne 51 = .ok (.iastore, 1) := by decide +kernel
theorem dX7_readOne_52 : decode cX7_readOne 52 = .ok (.aload_n 0, 1) := by decide +kernel
theorem dX7_readOne_53 : decode cX7_readOne 53 = .ok (.getfield 47, 3) := by decide +kernel
theorem dX7_readOne_56 : decode cX7_readOne 56 = .ok (.iload_n 1, 1) := by decide +kernel
theorem dX7_readOne_57 : decode cX7_readOne 57 = .ok (.iaload, 1) := by decide +kernel
theorem dX7_readOne_58 : decode cX7_readOne 58 = .ok (.ifCond .ge 5, 3) := by decide +kernel
theorem dX7_readOne_61 : decode cX7_readOne 61 = .ok (.iconst 0, 1) := by decide +kernel
theorem dX7_readOne_62 : decode cX7_readOne 62 = .ok (.ireturn, 1) := by decide +kernel
theorem dX7_readOne_63 : decode cX7_readOne 63 = .ok (.aload_n 0, 1) := by decide +kernel
theorem dX7_readOne_64 : decode cX7_readOne 64 = .ok (.dup, 1) := by decide +kernel
theorem dX7_readOne_65 : decode cX7_readOne 65 = .ok (.getfield 147, 3) := by decide +kernel
theorem dX7_readOne_68 : decode cX7_readOne 68 = .ok (.iconst 1, 1) := by decide +kernel
theorem dX7_readOne_69 : decode cX7_readOne 69 = .ok (.iadd, 1) := by decide +kernel
theorem dX7_readOne_70 : decode cX7_readOne 70 = .ok (.putfield 147, 3) := by decide +kernel
theorem dX7_readOne_73 : decode cX7_readOne 73 = .ok (.aload_n 0, 1) := by decide +kernel
theorem dX7_readOne_74 : decode cX7_readOne 74 = .ok (.getfield 47, 3) := by decide +kernel
theorem dX7_readOne_77 : decode cX7_readOne 77 = .ok (.iload_n 1, 1) := by decide +kernel
theorem dX7_readOne_78 : decode cX7_readOne 78 = .ok (.iconst 1, 1) := by decide +kernel
theorem dX7_readOne_79 : decode cX7_readOne 79 = .ok (.iadd, 1) := by decide +kernel
theorem dX7_readOne_80 : decode cX7_readOne 80 = .ok (.aload_n 0, 1) := by decide +kernel
theorem dX7_readOne_81 : decode cX7_readOne 81 = .ok (.bipush 23, 2) := by decide +kernel
theorem dX7_readOne_83 : decode cX7_readOne 83 = .ok (.invokevirtual 159, 3) := by decide +kernel
theorem dX7_readOne_86 : decode cX7_readOne 86 = .ok (.iastore, 1) := by decide +kernel
theorem dX7_readOne_87 : decode cX7_readOne 87 = .ok (.aload_n 0, 1) := by decide +kernel
theorem dX7_readOne_88 : decode cX7_readOne 88 = .ok (.getfield 47, 3) := by decide +kernel
theorem dX7_readOne_91 : decode cX7_readOne 91 = .ok (.iload_n 1, 1) := by decide +kernel
theorem dX7_readOne_92 : decode cX7_readOne 92 = .ok (.iconst 1, 1) := by decide +kernel
theorem dX7_readOne_93 : decode cX7_readOne 93 = .ok (.iadd, 1) := by decide +kernel
theorem dX7_readOne_94 : decode cX7_readOne 94 = .ok (.iaload, 1) := by decide +kernel
theorem dX7_readOne_95 : decode cX7_readOne 95 = .ok (.ifCond .ge 5, 3) := by decide +kernel
theorem dX7_readOne_98 : decode cX7_readOne 98 = .ok (.iconst 0, 1) := by decide +kernel
theorem dX7_readOne_99 : decode cX7_readOne 99 = .ok (.ireturn, 1) := by decide +kernel
theorem dX7_readOne_100 : decode cX7_readOne 100 = .ok (.aload_n 0, 1) := by decide +kernel
theorem dX7_readOne_101 : decode cX7_readOne 101 = .ok (.getfield 47, 3) := by decide +kernel
theorem dX7_readOne_104 : decode cX7_readOne 104 = .ok (.iload_n 1, 1) := by decide +kernel
theorem dX7_readOne_105 : decode cX7_readOne 105 = .ok (.iconst 2, 1) := by decide +kernel
theorem dX7_readOne_106 : decode cX7_readOne 106 = .ok (.iadd, 1) := by decide +kernel
theorem dX7_readOne_107 : decode cX7_readOne 107 = .ok (.aload_n 0, 1) := by decide +kernel
theorem dX7_readOne_108 : decode cX7_readOne 108 = .ok (.bipush 119, 2) := by decide +kernel
theorem dX7_readOne_110 : decode cX7_readOne 110 = .ok (.invokevirtual 163, 3) := by decide +kernel
theorem dX7_readOne_113 : decode cX7_readOne 113 = .ok (.ifCond .eq 12, 3) := by decide +kernel
theorem dX7_readOne_116 : decode cX7_readOne 116 = .ok (.aload_n 0, 1) := by decide +kernel
theorem dX7_readOne_117 : decode cX7_readOne 117 = .ok (.bipush 99, 2) := by decide +kernel
theorem dX7_readOne_119 : decode cX7_readOne 119 = .ok (.invokevirtual 159, 3) := by decide +kernel
theorem dX7_readOne_122 : decode cX7_readOne 122 = .ok (.goto 4, 3) := by decide +kernel
theorem dX7_readOne_125 : decode cX7_readOne 125 = .ok (.iconst 1, 1) := by decide +kernel
theorem dX7_readOne_126 : decode cX7_readOne 126 = .ok (.iastore, 1) := by decide +kernel
theorem dX7_readOne_127 : decode cX7_readOne 127 = .ok (.aload_n 0, 1) := by decide +kernel
theorem dX7_readOne_128 : decode cX7_readOne 128 = .ok (.getfield 47, 3) := by decide +kernel
theorem dX7_readOne_131 : decode cX7_readOne 131 = .ok (.iload_n 1, 1) := by decide +kernel
theorem dX7_readOne_132 : decode cX7_readOne 132 = .ok (.iconst 2, 1) := by decide +kernel
theorem dX7_readOne_133 : decode cX7_readOne 133 = .ok (.iadd, 1) := by decide +kernel
theorem dX7_readOne_134 : decode cX7_readOne 134 = .ok (.iaload, 1) := by decide +kernel
theorem dX7_readOne_135 : decode cX7_readOne 135 = .ok (.ifCond .ge 5, 3) := by decide +kernel
theorem dX7_readOne_138 : decode cX7_readOne 138 = .ok (.iconst 0, 1) := by decide +kernel
theorem dX7_readOne_139 : decode cX7_readOne 139 = .ok (.ireturn, 1) := by decide +kernel
theorem dX7_readOne_140 : decode cX7_readOne 140 = .ok (.aload_n 0, 1) := by decide +kernel
theorem dX7_readOne_141 : decode cX7_readOne 141 = .ok (.getfield 47, 3) := by decide +kernel
theorem dX7_readOne_144 : decode cX7_readOne 144 = .ok (.iload_n 1, 1) := by decide +kernel
theorem dX7_readOne_145 : decode cX7_readOne 145 = .ok (.iconst 3, 1) := by decide +kernel
theorem dX7_readOne_146 : decode cX7_readOne 146 = .ok (.iadd, 1) := by decide +kernel
theorem dX7_readOne_147 : decode cX7_readOne 147 = .ok (.aload_n 0, 1) := by decide +kernel
theorem dX7_readOne_148 : decode cX7_readOne 148 = .ok (.bipush 45, 2) := by decide +kernel
theorem dX7_readOne_150 : decode cX7_readOne 150 = .ok (.invokevirtual 163, 3) := by decide +kernel
theorem dX7_readOne_153 : decode cX7_readOne 153 = .ok (.ifCond .eq 7, 3) := by decide +kernel
theorem dX7_readOne_156 : decode cX7_readOne 156 = .ok (.iconst 0, 1) := by decide +kernel
theorem dX7_readOne_157 : decode cX7_readOne 157 = .ok (.goto 4, 3) := by decide +kernel
theorem dX7_readOne_160 : decode cX7_readOne 160 = .ok (.iconst 1, 1) := by decide +kernel
theorem dX7_readOne_161 : decode cX7_readOne 161 = .ok (.iastore, 1) := by decide +kernel
theorem dX7_readOne_162 : decode cX7_readOne 162 = .ok (.iconst 1, 1) := by decide +kernel
theorem dX7_readOne_163 : decode cX7_readOne 163 = .ok (.ireturn, 1) := by decide +kernel
theorem dX7_readTown_0 : decode cX7_readTown 0 = .ok (.aload_n 0, 1) := by decide +kernel
theorem dX7_readTown_1 : decode cX7_readTown 1 = .ok (.iconst 0, 1) := by decide +kernel
theorem dX7_readTown_2 : decode cX7_readTown 2 = .ok (.putfield 147, 3) := by decide +kernel
theorem dX7_readTown_5 : decode cX7_readTown 5 = .ok (.iconst 0, 1) := by decide +kernel
theorem dX7_readTown_6 : decode cX7_readTown 6 = .ok (.istore_n 1, 1) := by decide +kernel
theorem dX7_readTown_7 : decode cX7_readTown 7 = .ok (.iload_n 1, 1) := by decide +kernel
theorem dX7_readTown_8 : decode cX7_readTown 8 = .ok (.bipush 8, 2) := by decide +kernel
theorem dX7_readTown_10 : decode cX7_readTown 10 = .ok (.if_icmp .ge 63, 3) := by decide +kernel
theorem dX7_readTown_13 : decode cX7_readTown 13 = .ok (.aload_n 0, 1) := by decide +kernel
theorem dX7_readTown_14 : decode cX7_readTown 14 = .ok (.iconst 4, 1) := by decide +kernel
theorem dX7_readTown_15 : decode cX7_readTown 15 = .ok (.iload_n 1, 1) := by decide +kernel
theorem dX7_readTown_16 : decode cX7_readTown 16 = .ok (.imul, 1) := by decide +kernel
theorem dX7_readTown_17 : decode cX7_readTown 17 = .ok (.invokevirtual 166, 3) := by decide +kernel
theorem dX7_readTown_20 : decode cX7_readTown 20 = .ok (.ifCond .ne 5, 3) := by decide +kernel
theorem dX7_readTown_23 : decode cX7_readTown 23 = .ok (.iconst 0, 1) := by decide +kernel
theorem dX7_readTown_24 : decode cX7_readTown 24 = .ok (.ireturn, 1) := by decide +kernel
theorem dX7_readTown_25 : decode cX7_readTown 25 = .ok (.aload_n 0, 1) := by decide +kernel
theorem dX7_readTown_26 : decode cX7_readTown 26 = .ok (.iload_n 1, 1) := by decide +kernel
theorem dX7_readTown_27 : decode cX7_readTown 27 = .ok (.iconst 1, 1) := by decide +kernel
theorem dX7_readTown_28 : decode cX7_readTown 28 = .ok (.iadd, 1) := by decide +kernel
theorem dX7_readTown_29 : decode cX7_readTown 29 = .ok (.putfield 169, 3) := by decide +kernel
theorem dX7_readTown_32 : decode cX7_readTown 32 = .ok (.aload_n 0, 1) := by decide +kernel
theorem dX7_readTown_33 : decode cX7_readTown 33 = .ok (.invokevirtual 150, 3) := by decide +kernel
theorem dX7_readTown_36 : decode cX7_readTown 36 = .ok (.istore_n 2, 1) := by decide +kernel
theorem dX7_readTown_37 : decode cX7_readTown 37 = .ok (.iload_n 2, 1) := by decide +kernel
theorem dX7_readTown_38 : decode cX7_readTown 38 = .ok (.ifCond .ge 5, 3) := by decide +kernel
theorem dX7_readTown_41 : decode cX7_readTown 41 = .ok (.iconst 1, 1) := by decide +kernel
theorem dX7_readTown_42 : decode cX7_readTown 42 = .ok (.ireturn, 1) := by decide +kernel
theorem dX7_readTown_43 : decode cX7_readTown 43 = .ok (.iload_n 2, 1) := by decide +kernel
theorem dX7_readTown_44 : decode cX7_readTown 44 = .ok (.bipush 44, 2) := by decide +kernel
theorem dX7_readTown_46 : decode cX7_readTown 46 = .ok (.if_icmp .ne 9, 3) := by decide +kernel
theorem dX7_readTown_49 : decode cX7_readTown 49 = .ok (.iload_n 1, 1) := by decide +kernel
theorem dX7_readTown_50 : decode cX7_readTown 50 = .ok (.bipush 7, 2) := by decide +kernel
theorem dX7_readTown_52 : decode cX7_readTown 52 = .ok (.if_icmp .ne 5, 3) := by decide +kernel
theorem dX7_readTown_55 : decode cX7_readTown 55 = .ok (.iconst 0, 1) := by decide +kernel
theorem dX7_readTown_56 : decode cX7_readTown 56 = .ok (.ireturn, 1) := by decide +kernel
theorem dX7_readTown_57 : decode cX7_readTown 57 = .ok (.aload_n 0, 1) := by decide +kernel
theorem dX7_readTown_58 : decode cX7_readTown 58 = .ok (.dup, 1) := by decide +kernel
theorem dX7_readTown_59 : decode cX7_readTown 59 = .ok (.getfield 147, 3) := by decide +kernel
theorem dX7_readTown_62 : decode cX7_readTown 62 = .ok (.iconst 1, 1) := by decide +kernel
theorem dX7_readTown_63 : decode cX7_readTown 63 = .ok (.iadd, 1) := by decide +kernel
theorem dX7_readTown_64 : decode cX7_readTown 64 = .ok (.putfield 147, 3) := by decide +kernel
theorem dX7_readTown_67 : decode cX7_readTown 67 = .ok (.iinc 1 1, 3) := by decide +kernel
theorem dX7_readTown_70 : decode cX7_readTown 70 = .ok (.goto (-63), 3) := by decide +kernel
theorem dX7_readTown_73 : decode cX7_readTown 73 = .ok (.iconst 0, 1) := by decide +kernel
theorem dX7_readTown_74 : decode cX7_readTown 74 = .ok (.ireturn, 1) := by decide +kernel
theorem dX7_end_0 : decode cX7_end 0 = .ok (.iload_n 1, 1) := by decide +kernel
theorem dX7_end_1 : decode cX7_end 1 = .ok (.ifCond .ne 8, 3) := by decide +kernel
theorem dX7_end_4 : decode cX7_end 4 = .ok (.aload_n 0, 1) := by decide +kernel
theorem dX7_end_5 : decode cX7_end 5 = .ok (.invokevirtual 150, 3) := by decide +kernel
theorem dX7_end_8 : decode cX7_end 8 = .ok (.pop, 1) := by decide +kernel
theorem dX7_end_9 : decode cX7_end 9 = .ok (.aload_n 0, 1) := by decide +kernel
theorem dX7_end_10 : decode cX7_end 10 = .ok (.iconst 0, 1) := by decide +kernel
theorem dX7_end_11 : decode cX7_end 11 = .ok (.putfield 144, 3) := by decide +kernel
theorem dX7_end_14 : decode cX7_end 14 = .ok (.iload_n 1, 1) := by decide +kernel
theorem dX7_end_15 : decode cX7_end 15 = .ok (.ifCond .eq 7, 3) := by decide +kernel
theorem dX7_end_18 : decode cX7_end 18 = .ok (.iconst 0, 1) := by decide +kernel
theorem dX7_end_19 : decode cX7_end 19 = .ok (.goto 10, 3) := by decide +kernel
theorem dX7_end_22 : decode cX7_end 22 = .ok (.bipush (-20), 2) := by decide +kernel
theorem dX7_end_24 : decode cX7_end 24 = .ok (.aload_n 0, 1) := by decide +kernel
theorem dX7_end_25 : decode cX7_end 25 = .ok (.getfield 147, 3) := by decide +kernel
theorem dX7_end_28 : decode cX7_end 28 = .ok (.isub, 1) := by decide +kernel
theorem dX7_end_29 : decode cX7_end 29 = .ok (.ireturn, 1) := by decide +kernel
theorem dX7_town_0 : decode cX7_town 0 = .ok (.aload_n 0, 1) := by decide +kernel
theorem dX7_town_1 : decode cX7_town 1 = .ok (.aload_n 0, 1) := by decide +kernel
theorem dX7_town_2 : decode cX7_town 2 = .ok (.invokevirtual 172, 3) := by decide +kernel
theorem dX7_town_5 : decode cX7_town 5 = .ok (.invokevirtual 176, 3) := by decide +kernel
theorem dX7_town_8 : decode cX7_town 8 = .ok (.istore_n 1, 1) := by decide +kernel
theorem dX7_town_9 : decode cX7_town 9 = .ok (.iload_n 1, 1) := by decide +kernel
theorem dX7_town_10 : decode cX7_town 10 = .ok (.ifCond .ge 5, 3) := by decide +kernel
theorem dX7_town_13 : decode cX7_town 13 = .ok (.iload_n 1, 1) := by decide +kernel
theorem dX7_town_14 : decode cX7_town 14 = .ok (.ireturn, 1) := by decide +kernel
theorem dX7_town_15 : decode cX7_town 15 = .ok (.aload_n 0, 1) := by decide +kernel
theorem dX7_town_16 : decode cX7_town 16 = .ok (.iconst 0, 1) := by decide +kernel
theorem dX7_town_17 : decode cX7_town 17 = .ok (.putfield 84, 3) := by decide +kernel
theorem dX7_town_20 : decode cX7_town 20 = .ok (.iconst 0, 1) := by decide +kernel
theorem dX7_town_21 : decode cX7_town 21 = .ok (.istore_n 2, 1) := by decide +kernel
theorem dX7_town_22 : decode cX7_town 22 = .ok (.iload_n 2, 1) := by decide +kernel
theorem dX7_town_23 : decode cX7_town 23 = .ok (.aload_n 0, 1) := by decide +kernel
theorem dX7_town_24 : decode cX7_town 24 = .ok (.getfield 169, 3) := by decide +kernel
theorem dX7_town_27 : decode cX7_town 27 = .ok (.if_icmp .ge 51, 3) := by decide +kernel
theorem dX7_town_30 : decode cX7_town 30 = .ok (.aload_n 0, 1) := by decide +kernel
theorem dX7_town_31 : decode cX7_town 31 = .ok (.aload_n 0, 1) := by decide +kernel
theorem dX7_town_32 : decode cX7_town 32 = .ok (.getfield 47, 3) := by decide +kernel
theorem dX7_town_35 : decode cX7_town 35 = .ok (.iconst 4, 1) := by decide +kernel
theorem dX7_town_36 : decode cX7_town 36 = .ok (.iload_n 2, 1) := by decide +kernel
theorem dX7_town_37 : decode cX7_town 37 = .ok (.imul, 1) := by decide +kernel
theorem dX7_town_38 : decode cX7_town 38 = .ok (.iaload, 1) := by decide +kernel
theorem dX7_town_39 : decode cX7_town 39 = .ok (.aload_n 0, 1) := by decide +kernel
theorem dX7_town_40 : decode cX7_town 40 = .ok (.getfield 47, 3) := by decide +kernel
theorem dX7_town_43 : decode cX7_town 43 = .ok (.iconst 4, 1) := by decide +kernel
theorem dX7_town_44 : decode cX7_town 44 = .ok (.iload_n 2, 1) := by decide +kernel
theorem dX7_town_45 : decode cX7_town 45 = .ok (.imul, 1) := by decide +kernel
theorem dX7_town_46 : decode cX7_town 46 = .ok (.iconst 1, 1) := by decide +kernel
theorem dX7_town_47 : decode cX7_town 47 = .ok (.iadd, 1) := by decide +kernel
theorem dX7_town_48 : decode cX7_town 48 = .ok (.iaload, 1) := by decide +kernel
theorem dX7_town_49 : decode cX7_town 49 = .ok (.aload_n 0, 1) := by decide +kernel
theorem dX7_town_50 : decode cX7_town 50 = .ok (.getfield 47, 3) := by decide +kernel
theorem dX7_town_53 : decode cX7_town 53 = .ok (.iconst 4, 1) := by decide +kernel
theorem dX7_town_54 : decode cX7_town 54 = .ok (.iload_n 2, 1) := by decide +kernel
theorem dX7_town_55 : decode cX7_town 55 = .ok (.imul, 1) := by decide +kernel
theorem dX7_town_56 : decode cX7_town 56 = .ok (.iconst 2, 1) := by decide +kernel
theorem dX7_town_57 : decode cX7_town 57 = .ok (.iadd, 1) := by decide +kernel
theorem dX7_town_58 : decode cX7_town 58 = .ok (.iaload, 1) := by decide +kernel
theorem dX7_town_59 : decode cX7_town 59 = .ok (.aload_n 0, 1) := by decide +kernel
theorem dX7_town_60 : decode cX7_town 60 = .ok (.getfield 47, 3) := by decide +kernel
theorem dX7_town_63 : decode cX7_town 63 = .ok (.iconst 4, 1) := by decide +kernel
theorem dX7_town_64 : decode cX7_town 64 = .ok (.iload_n 2, 1) := by decide +kernel
theorem dX7_town_65 : decode cX7_town 65 = .ok (.imul, 1) := by decide +kernel
theorem dX7_town_66 : decode cX7_town 66 = .ok (.iconst 3, 1) := by decide +kernel
theorem dX7_town_67 : decode cX7_town 67 = .ok (.iadd, 1) := by decide +kernel
theorem dX7_town_68 : decode cX7_town 68 = .ok (.iaload, 1) := by decide +kernel
theorem dX7_town_69 : decode cX7_town 69 = .ok (.invokevirtual 99, 3) := by decide +kernel
theorem dX7_town_72 : decode cX7_town 72 = .ok (.iinc 2 1, 3) := by decide +kernel
theorem dX7_town_75 : decode cX7_town 75 = .ok (.goto (-53), 3) := by decide +kernel
theorem dX7_town_78 : decode cX7_town 78 = .ok (.aload_n 0, 1) := by decide +kernel
theorem dX7_town_79 : decode cX7_town 79 = .ok (.getfield 84, 3) := by decide +kernel
theorem dX7_town_82 : decode cX7_town 82 = .ok (.ireturn, 1) := by decide +kernel
theorem dX7_readHour_0 : decode cX7_readHour 0 = .ok (.aload_n 0, 1) := by decide +kernel
theorem dX7_readHour_1 : decode cX7_readHour 1 = .ok (.invokevirtual 150, 3) := by decide +kernel
theorem dX7_readHour_4 : decode cX7_readHour 4 = .ok (.pop, 1) := by decide +kernel
theorem dX7_readHour_5 : decode cX7_readHour 5 = .ok (.aload_n 0, 1) := by decide +kernel
theorem dX7_readHour_6 : decode cX7_readHour 6 = .ok (.getfield 147, 3) := by decide +kernel
theorem dX7_readHour_9 : decode cX7_readHour 9 = .ok (.istore_n 1, 1) := by decide +kernel
theorem dX7_readHour_10 : decode cX7_readHour 10 = .ok (.aload_n 0, 1) := by decide +kernel
theorem dX7_readHour_11 : decode cX7_readHour 11 = .ok (.bipush 23, 2) := by decide +kernel
theorem dX7_readHour_13 : decode cX7_readHour 13 = .ok (.invokevirtual 159, 3) := by decide +kernel
theorem dX7_readHour_16 : decode cX7_readHour 16 = .ok (.istore_n 2, 1) := by decide +kernel
theorem dX7_readHour_17 : decode cX7_readHour 17 = .ok (.iload_n 2, 1) := by decide +kernel
theorem dX7_readHour_18 : decode cX7_readHour 18 = .ok (.ifCond .ge 5, 3) := by decide +kernel
theorem dX7_readHour_21 : decode cX7_readHour 21 = .ok (.iconst 0, 1) := by decide +kernel
theorem dX7_readHour_22 : decode cX7_readHour 22 = .ok (.ireturn, 1) := by decide +kernel
theorem dX7_readHour_23 : decode cX7_readHour 23 = .ok (.aload_n 0, 1) := by decide +kernel
theorem dX7_readHour_24 : decode cX7_readHour 24 = .ok (.getfield 180, 3) := by decide +kernel
theorem dX7_readHour_27 : decode cX7_readHour 27 = .ok (.iload_n 2, 1) := by decide +kernel
theorem dX7_readHour_28 : decode cX7_readHour 28 = .ok (.ishr, 1) := by decide +kernel
theorem dX7_readHour_29 : decode cX7_readHour 29 = .ok (.iconst 1, 1) := by decide +kernel
theorem dX7_readHour_30 : decode cX7_readHour 30 = .ok (.iand, 1) := by decide +kernel
theorem dX7_readHour_31 : decode cX7_readHour 31 = .ok (.iconst 1, 1) := by decide +kernel
theorem dX7_readHour_32 : decode cX7_readHour 32 = .ok (.if_icmp .ne 10, 3) := by decide +kernel
theorem dX7_readHour_35 : decode cX7_readHour 35 = .ok (.aload_n 0, 1) := by decide +kernel
theorem dX7_readHour_36 : decode cX7_readHour 36 = .ok (.iload_n 1, 1) := by decide +kernel
theorem dX7_readHour_37 : decode cX7_readHour 37 = .ok (.putfield 147, 3) := by decide +kernel
theorem dX7_readHour_40 : decode cX7_readHour 40 = .ok (.iconst 0, 1) := by decide +kernel
theorem dX7_readHour_41 : decode cX7_readHour 41 = .ok (.ireturn, 1) := by decide +kernel
theorem dX7_readHour_42 : decode cX7_readHour 42 = .ok (.aload_n 0, 1) := by decide +kernel
theorem dX7_readHour_43 : decode cX7_readHour 43 = .ok (.dup, 1) := by decide +kernel
theorem dX7_readHour_44 : decode cX7_readHour 44 = .ok (.getfield 180, 3) := by decide +kernel
theorem dX7_readHour_47 : decode cX7_readHour 47 = .ok (.iconst 1, 1) := by decide +kernel
theorem dX7_readHour_48 : decode cX7_readHour 48 = .ok (.iload_n 2, 1) := by decide +kernel
theorem dX7_readHour_49 : decode cX7_readHour 49 = .ok (.ishl, 1) := by decide +kernel
theorem dX7_readHour_50 : decode cX7_readHour 50 = .ok (.ior, 1) := by decide +kernel
theorem dX7_readHour_51 : decode cX7_readHour 51 = .ok (.putfield 180, 3) := by decide +kernel
theorem dX7_readHour_54 : decode cX7_readHour 54 = .ok (.aload_n 0, 1) := by decide +kernel
theorem dX7_readHour_55 : decode cX7_readHour 55 = .ok (.invokevirtual 150, 3) := by decide +kernel
theorem dX7_readHour_58 : decode cX7_readHour 58 = .ok (.istore_n 3, 1) := by decide +kernel
theorem dX7_readHour_59 : decode cX7_readHour 59 = .ok (.iload_n 3, 1) := by decide +kernel
theorem dX7_readHour_60 : decode cX7_readHour 60 = .ok (.bipush 43, 2) := by decide +kernel
theorem dX7_readHour_62 : decode cX7_readHour 62 = .ok (.if_icmp .eq 11, 3) := by decide +kernel
theorem dX7_readHour_65 : decode cX7_readHour 65 = .ok (.iload_n 3, 1) := by decide +kernel
theorem dX7_readHour_66 : decode cX7_readHour 66 = .ok (.bipush 45, 2) := by decide +kernel
theorem dX7_readHour_68 : decode cX7_readHour 68 = .ok (.if_icmp .eq 5, 3) := by decide +kernel
theorem dX7_readHour_71 : decode cX7_readHour 71 = .ok (.iconst 0, 1) := by decide +kernel
theorem dX7_readHour_72 : decode cX7_readHour 72 = .ok (.ireturn, 1) := by decide +kernel
theorem dX7_readHour_73 : decode cX7_readHour 73 = .ok (.aload_n 0, 1) := by decide +kernel
theorem dX7_readHour_74 : decode cX7_readHour 74 = .ok (.dup, 1) := by decide +kernel
theorem dX7_readHour_75 : decode cX7_readHour 75 = .ok (.getfield 147, 3) := by decide +kernel
theorem dX7_readHour_78 : decode cX7_readHour 78 = .ok (.iconst 1, 1) := by decide +kernel
theorem dX7_readHour_79 : decode cX7_readHour 79 = .ok (.iadd, 1) := by decide +kernel
theorem dX7_readHour_80 : decode cX7_readHour 80 = .ok (.putfield 147, 3) := by decide +kernel
theorem dX7_readHour_83 : decode cX7_readHour 83 = .ok (.aload_n 0, 1) := by decide +kernel
theorem dX7_readHour_84 : decode cX7_readHour 84 = .ok (.invokevirtual 150, 3) := by decide +kernel
theorem dX7_readHour_87 : decode cX7_readHour 87 = .ok (.bipush 48, 2) := by decide +kernel
theorem dX7_readHour_89 : decode cX7_readHour 89 = .ok (.isub, 1) := by decide +kernel
theorem dX7_readHour_90 : decode cX7_readHour 90 = .ok (.istore 4, 2) := by decide +kernel
theorem dX7_readHour_92 : decode cX7_readHour 92 = .ok (.iload 4, 2) := by decide +kernel
theorem dX7_readHour_94 : decode cX7_readHour 94 = .ok (.i2l, 1) := by decide +kernel
theorem dX7_readHour_95 : decode cX7_readHour 95 = .ok (.lconst 0, 1) := by decide +kernel
theorem dX7_readHour_96 : decode cX7_readHour 96 = .ok (.iload_n 3, 1) := by decide +kernel
theorem dX7_readHour_97 : decode cX7_readHour 97 = .ok (.bipush 43, 2) := by decide +kernel
theorem dX7_readHour_99 : decode cX7_readHour 99 = .ok (.if_icmp .ne 9, 3) := by decide +kernel
theorem dX7_readHour_102 : decode cX7_readHour 102 = .ok (.ldc2_w 89, 3) := by decide +kernel
theorem dX7_readHour_105 : decode cX7_readHour 105 = .ok (.goto 6, 3) := by decide +kernel
theorem dX7_readHour_108 : decode cX7_readHour 108 = .ok (.ldc2_w 183, 3) := by decide +kernel
theorem dX7_readHour_111 : decode cX7_readHour 111 = .ok (.invokestatic 80, 3) := by decide +kernel
theorem dX7_readHour_114 : decode cX7_readHour 114 = .ok (.ifCond .ne 5, 3) := by decide +kernel
theorem dX7_readHour_117 : decode cX7_readHour 117 = .ok (.iconst 0, 1) := by decide +kernel
theorem dX7_readHour_118 : decode cX7_readHour 118 = .ok (.ireturn, 1) := by decide +kernel
theorem dX7_readHour_119 : decode cX7_readHour 119 = .ok (.aload_n 0, 1) := by decide +kernel
theorem dX7_readHour_120 : decode cX7_readHour 120 = .ok (.dup, 1) := by decide +kernel
theorem dX7_readHour_121 : decode cX7_readHour 121 = .ok (.getfield 147, 3) := by decide +kernel
theorem dX7_readHour_124 : decode cX7_readHour 124 = .ok (.iconst 1, 1) := by decide +kernel
theorem dX7_readHour_125 : decode cX7_readHour 125 = .ok (.iadd, 1) := by decide +kernel
theorem dX7_readHour_126 : decode cX7_readHour 126 = .ok (.putfield 147, 3) := by decide +kernel
theorem dX7_readHour_129 : decode cX7_readHour 129 = .ok (.aload_n 0, 1) := by decide +kernel
theorem dX7_readHour_130 : decode cX7_readHour 130 = .ok (.getfield 47, 3) := by decide +kernel
theorem dX7_readHour_133 : decode cX7_readHour 133 = .ok (.iload_n 2, 1) := by decide +kernel
theorem dX7_readHour_134 : decode cX7_readHour 134 = .ok (.iload_n 3, 1) := by decide +kernel
theorem dX7_readHour_135 : decode cX7_readHour 135 = .ok (.bipush 43, 2) := by decide +kernel
theorem dX7_readHour_137 : decode cX7_readHour 137 = .ok (.if_icmp .ne 8, 3) := by decide +kernel
theorem dX7_readHour_140 : decode cX7_readHour 140 = .ok (.iload 4, 2) := by decide +kernel
theorem dX7_readHour_142 : decode cX7_readHour 142 = .ok (.goto 6, 3) := by decide +kernel
theorem dX7_readHour_145 : decode cX7_readHour 145 = .ok (.iload 4, 2) := by decide +kernel
theorem dX7_readHour_147 : decode cX7_readHour 147 = .ok (.ineg, 1) := by decide +kernel
theorem dX7_readHour_148 : decode cX7_readHour 148 = .ok (.iastore, 1) := by decide +kernel
theorem dX7_readHour_149 : decode cX7_readHour 149 = .ok (.iconst 1, 1) := by decide +kernel
theorem dX7_readHour_150 : decode cX7_readHour 150 = .ok (.ireturn, 1) := by decide +kernel
theorem dX7_readPlan_0 : decode cX7_readPlan 0 = .ok (.aload_n 0, 1) := by decide +kernel
theorem dX7_readPlan_1 : decode cX7_readPlan 1 = .ok (.iconst 0, 1) := by decide +kernel
theorem dX7_readPlan_2 : decode cX7_readPlan 2 = .ok (.putfield 147, 3) := by decide +kernel
theorem dX7_readPlan_5 : decode cX7_readPlan 5 = .ok (.aload_n 0, 1) := by decide +kernel
theorem dX7_readPlan_6 : decode cX7_readPlan 6 = .ok (.iconst 0, 1) := by decide +kernel
theorem dX7_readPlan_7 : decode cX7_readPlan 7 = .ok (.putfield 169, 3) := by decide +kernel
theorem dX7_readPlan_10 : decode cX7_readPlan 10 = .ok (.aload_n 0, 1) := by decide +kernel
theorem dX7_readPlan_11 : decode cX7_readPlan 11 = .ok (.iconst 0, 1) := by decide +kernel
theorem dX7_readPlan_12 : decode cX7_readPlan 12 = .ok (.putfield 180, 3) := by decide +kernel
theorem dX7_readPlan_15 : decode cX7_readPlan 15 = .ok (.iconst 0, 1) := by decide +kernel
theorem dX7_readPlan_16 : decode cX7_readPlan 16 = .ok (.istore_n 1, 1) := by decide +kernel
theorem dX7_readPlan_17 : decode cX7_readPlan 17 = .ok (.iload_n 1, 1) := by decide +kernel
theorem dX7_readPlan_18 : decode cX7_readPlan 18 = .ok (.bipush 24, 2) := by decide +kernel
theorem dX7_readPlan_20 : decode cX7_readPlan 20 = .ok (.if_icmp .ge 16, 3) := by decide +kernel
theorem dX7_readPlan_23 : decode cX7_readPlan 23 = .ok (.aload_n 0, 1) := by decide +kernel
theorem dX7_readPlan_24 : decode cX7_readPlan 24 = .ok (.getfield 47, 3) := by decide +kernel
theorem dX7_readPlan_27 : decode cX7_readPlan 27 = .ok (.iload_n 1, 1) := by decide +kernel
theorem dX7_readPlan_28 : decode cX7_readPlan 28 = .ok (.iconst 0, 1) := by decide +kernel
theorem dX7_readPlan_29 : decode cX7_readPlan 29 = .ok (.iastore, 1) := by decide +kernel
theorem dX7_readPlan_30 : decode cX7_readPlan 30 = .ok (.iinc 1 1, 3) := by decide +kernel
theorem dX7_readPlan_33 : decode cX7_readPlan 33 = .ok (.goto (-16), 3) := by decide +kernel
theorem dX7_readPlan_36 : decode cX7_readPlan 36 = .ok (.aload_n 0, 1) := by decide +kernel
theorem dX7_readPlan_37 : decode cX7_readPlan 37 = .ok (.invokevirtual 150, 3) := by decide +kernel
theorem dX7_readPlan_40 : decode cX7_readPlan 40 = .ok (.ifCond .ge 5, 3) := by decide +kernel
theorem dX7_readPlan_43 : decode cX7_readPlan 43 = .ok (.iconst 1, 1) := by decide +kernel
theorem dX7_readPlan_44 : decode cX7_readPlan 44 = .ok (.ireturn, 1) := by decide +kernel
theorem dX7_readPlan_45 : decode cX7_readPlan 45 = .ok (.iconst 1, 1) := by decide +kernel
theorem dX7_readPlan_46 : decode cX7_readPlan 46 = .ok (.istore_n 1, 1) := by decide +kernel
theorem dX7_readPlan_47 : decode cX7_readPlan 47 = .ok (.iload_n 1, 1) := by decide +kernel
theorem dX7_readPlan_48 : decode cX7_readPlan 48 = .ok (.ifCond .eq 49, 3) := by decide +kernel
theorem dX7_readPlan_51 : decode cX7_readPlan 51 = .ok (.aload_n 0, 1) := by decide +kernel
theorem dX7_readPlan_52 : decode cX7_readPlan 52 = .ok (.invokevirtual 185, 3) := by decide +kernel
theorem dX7_readPlan_55 : decode cX7_readPlan 55 = .ok (.ifCond .ne 5, 3) := by decide +kernel
theorem dX7_readPlan_58 : decode cX7_readPlan 58 = .ok (.iconst 0, 1) := by decide +kernel
theorem dX7_readPlan_59 : decode cX7_readPlan 59 = .ok (.ireturn, 1) := by decide +kernel
theorem dX7_readPlan_60 : decode cX7_readPlan 60 = .ok (.aload_n 0, 1) := by decide +kernel
theorem dX7_readPlan_61 : decode cX7_readPlan 61 = .ok (.dup, 1) := by decide +kernel
theorem dX7_readPlan_62 : decode cX7_readPlan 62 = .ok (.getfield 169, 3) := by decide +kernel
theorem dX7_readPlan_65 : decode cX7_readPlan 65 = .ok (.iconst 1, 1) := by decide +kernel
theorem dX7_readPlan_66 : decode cX7_readPlan 66 = .ok (.iadd, 1) := by decide +kernel
theorem dX7_readPlan_67 : decode cX7_readPlan 67 = .ok (.putfield 169, 3) := by decide +kernel
theorem dX7_readPlan_70 : decode cX7_readPlan 70 = .ok (.aload_n 0, 1) := by decide +kernel
theorem dX7_readPlan_71 : decode cX7_readPlan 71 = .ok (.getfield 169, 3) := by decide +kernel
theorem dX7_readPlan_74 : decode cX7_readPlan 74 = .ok (.bipush 24, 2) := by decide +kernel
theorem dX7_readPlan_76 : decode cX7_readPlan 76 = .ok (.if_icmp .ge 16, 3) := by decide +kernel
theorem dX7_readPlan_79 : decode cX7_readPlan 79 = .ok (.aload_n 0, 1) := by decide +kernel
theorem dX7_readPlan_80 : decode cX7_readPlan 80 = .ok (.bipush 44, 2) := by decide +kernel
theorem dX7_readPlan_82 : decode cX7_readPlan 82 = .ok (.invokevirtual 163, 3) := by decide +kernel
theorem dX7_readPlan_85 : decode cX7_readPlan 85 = .ok (.ifCond .eq 7, 3) := by decide +kernel
theorem dX7_readPlan_88 : decode cX7_readPlan 88 = .ok (.iconst 1, 1) := by decide +kernel
theorem dX7_readPlan_89 : decode cX7_readPlan 89 = .ok (.goto 4, 3) := by decide +kernel
theorem dX7_readPlan_92 : decode cX7_readPlan 92 = .ok (.iconst 0, 1) := by decide +kernel
theorem dX7_readPlan_93 : decode cX7_readPlan 93 = .ok (.istore_n 1, 1) := by decide +kernel
theorem dX7_readPlan_94 : decode cX7_readPlan 94 = .ok (.goto (-47), 3) := by decide +kernel
theorem dX7_readPlan_97 : decode cX7_readPlan 97 = .ok (.aload_n 0, 1) := by decide +kernel
theorem dX7_readPlan_98 : decode cX7_readPlan 98 = .ok (.invokevirtual 150, 3) := by decide +kernel
theorem dX7_readPlan_101 : decode cX7_readPlan 101 = .ok (.ifCond .ge 7, 3) := by decide +kernel
theorem dX7_readPlan_104 : decode cX7_readPlan 104 = .ok (.iconst 1, 1) := by decide +kernel
theorem dX7_readPlan_105 : decode cX7_readPlan 105 = .ok (.goto 4, 3) := by decide +kernel
theorem dX7_readPlan_108 : decode cX7_readPlan 108 = .ok (.iconst 0, 1) := by decide +kernel
theorem dX7_readPlan_109 : decode cX7_readPlan 109 = .ok (.ireturn, 1) := by decide +kernel
theorem dX7_plan_0 : decode cX7_plan 0 = .ok (.aload_n 0, 1) := by decide +kernel
theorem dX7_plan_1 : decode cX7_plan 1 = .ok (.aload_n 0, 1) := by decide +kernel
theorem dX7_plan_2 : decode cX7_plan 2 = .ok (.invokevirtual 188, 3) := by decide +kernel
theorem dX7_plan_5 : decode cX7_plan 5 = .ok (.invokevirtual 176, 3) := by decide +kernel
theorem dX7_plan_8 : decode cX7_plan 8 = .ok (.istore_n 1, 1) := by decide +kernel
theorem dX7_plan_9 : decode cX7_plan 9 = .ok (.iload_n 1, 1) := by decide +kernel
theorem dX7_plan_10 : decode cX7_plan 10 = .ok (.ifCond .ge 5, 3) := by decide +kernel
theorem dX7_plan_13 : decode cX7_plan 13 = .ok (.iload_n 1, 1) := by decide +kernel
theorem dX7_plan_14 : decode cX7_plan 14 = .ok (.ireturn, 1) := by decide +kernel
theorem dX7_plan_15 : decode cX7_plan 15 = .ok (.iconst 0, 1) := by decide +kernel
theorem dX7_plan_16 : decode cX7_plan 16 = .ok (.istore_n 2, 1) := by decide +kernel
theorem dX7_plan_17 : decode cX7_plan 17 = .ok (.iload_n 2, 1) := by decide +kernel
theorem dX7_plan_18 : decode cX7_plan 18 = .ok (.bipush 24, 2) := by decide +kernel
theorem dX7_plan_20 : decode cX7_plan 20 = .ok (.if_icmp .ge 21, 3) := by decide +kernel
theorem dX7_plan_23 : decode cX7_plan 23 = .ok (.aload_n 0, 1) := by decide +kernel
theorem dX7_plan_24 : decode cX7_plan 24 = .ok (.getfield 31, 3) := by decide +kernel
theorem dX7_plan_27 : decode cX7_plan 27 = .ok (.iload_n 2, 1) := by decide +kernel
theorem dX7_plan_28 : decode cX7_plan 28 = .ok (.aload_n 0, 1) := by decide +kernel
theorem dX7_plan_29 : decode cX7_plan 29 = .ok (.getfield 47, 3) := by decide +kernel
theorem dX7_plan_32 : decode cX7_plan 32 = .ok (.iload_n 2, 1) := by decide +kernel
theorem dX7_plan_33 : decode cX7_plan 33 = .ok (.iaload, 1) := by decide +kernel
theorem dX7_plan_34 : decode cX7_plan 34 = .ok (.iastore, 1) := by decide +kernel
theorem dX7_plan_35 : decode cX7_plan 35 = .ok (.iinc 2 1, 3) := by decide +kernel
theorem dX7_plan_38 : decode cX7_plan 38 = .ok (.goto (-21), 3) := by decide +kernel
theorem dX7_plan_41 : decode cX7_plan 41 = .ok (.aload_n 0, 1) := by decide +kernel
theorem dX7_plan_42 : decode cX7_plan 42 = .ok (.getfield 169, 3) := by decide +kernel
theorem dX7_plan_45 : decode cX7_plan 45 = .ok (.ireturn, 1) := by decide +kernel
theorem dX7_lay_0 : decode cX7_lay 0 = .ok (.iload_n 1, 1) := by decide +kernel
theorem dX7_lay_1 : decode cX7_lay 1 = .ok (.invokestatic 93, 3) := by decide +kernel
theorem dX7_lay_4 : decode cX7_lay 4 = .ok (.ifCond .eq 11, 3) := by decide +kernel
theorem dX7_lay_7 : decode cX7_lay 7 = .ok (.iload_n 2, 1) := by decide +kernel
theorem dX7_lay_8 : decode cX7_lay 8 = .ok (.i2l, 1) := by decide +kernel
theorem dX7_lay_9 : decode cX7_lay 9 = .ok (.invokestatic 191, 3) := by decide +kernel
theorem dX7_lay_12 : decode cX7_lay 12 = .ok (.ifCond .ne 6, 3) := by decide +kernel
theorem dX7_lay_15 : decode cX7_lay 15 = .ok (.ldc 135, 2) := by decide +kernel
theorem dX7_lay_17 : decode cX7_lay 17 = .ok (.ireturn, 1) := by decide +kernel
theorem dX7_lay_18 : decode cX7_lay 18 = .ok (.aload_n 0, 1) := by decide +kernel
theorem dX7_lay_19 : decode cX7_lay 19 = .ok (.getfield 31, 3) := by decide +kernel
theorem dX7_lay_22 : decode cX7_lay 22 = .ok (.iload_n 1, 1) := by decide +kernel
theorem dX7_lay_23 : decode cX7_lay 23 = .ok (.iaload, 1) := by decide +kernel
theorem dX7_lay_24 : decode cX7_lay 24 = .ok (.istore_n 3, 1) := by decide +kernel
theorem dX7_lay_25 : decode cX7_lay 25 = .ok (.aload_n 0, 1) := by decide +kernel
theorem dX7_lay_26 : decode cX7_lay 26 = .ok (.getfield 31, 3) := by decide +kernel
theorem dX7_lay_29 : decode cX7_lay 29 = .ok (.iload_n 1, 1) := by decide +kernel
theorem dX7_lay_30 : decode cX7_lay 30 = .ok (.iload_n 2, 1) := by decide +kernel
theorem dX7_lay_31 : decode cX7_lay 31 = .ok (.iastore, 1) := by decide +kernel
theorem dX7_lay_32 : decode cX7_lay 32 = .ok (.iload_n 3, 1) := by decide +kernel
theorem dX7_lay_33 : decode cX7_lay 33 = .ok (.ireturn, 1) := by decide +kernel
theorem dX7_lateBy_0 : decode cX7_lateBy 0 = .ok (.iconst 0, 1) := by decide +kernel
theorem dX7_lateBy_1 : decode cX7_lateBy 1 = .ok (.istore_n 2, 1) := by decide +kernel
theorem dX7_lateBy_2 : decode cX7_lateBy 2 = .ok (.iconst 0, 1) := by decide +kernel
theorem dX7_lateBy_3 : decode cX7_lateBy 3 = .ok (.istore_n 3, 1) := by decide +kernel
theorem dX7_lateBy_4 : decode cX7_lateBy 4 = .ok (.iload_n 3, 1) := by decide +kernel
theorem dX7_lateBy_5 : decode cX7_lateBy 5 = .ok (.iload_n 1, 1) := by decide +kernel
theorem dX7_lateBy_6 : decode cX7_lateBy 6 = .ok (.if_icmp .ge 15, 3) := by decide +kernel
theorem dX7_lateBy_9 : decode cX7_lateBy 9 = .ok (.iload_n 2, 1) := by decide +kernel
theorem dX7_lateBy_10 : decode cX7_lateBy 10 = .ok (.aload_n 0, 1) := by decide +kernel
theorem dX7_lateBy_11 : decode cX7_lateBy 11 = .ok (.iload_n 3, 1) := by decide +kernel
theorem dX7_lateBy_12 : decode cX7_lateBy 12 = .ok (.iaload, 1) := by decide +kernel
theorem dX7_lateBy_13 : decode cX7_lateBy 13 = .ok (.iadd, 1) := by decide +kernel
theorem dX7_lateBy_14 : decode cX7_lateBy 14 = .ok (.istore_n 2, 1) := by decide +kernel
theorem dX7_lateBy_15 : decode cX7_lateBy 15 = .ok (.iinc 3 1, 3) := by decide +kernel
theorem dX7_lateBy_18 : decode cX7_lateBy 18 = .ok (.goto (-14), 3) := by decide +kernel
theorem dX7_lateBy_21 : decode cX7_lateBy 21 = .ok (.iload_n 2, 1) := by decide +kernel
theorem dX7_lateBy_22 : decode cX7_lateBy 22 = .ok (.ireturn, 1) := by decide +kernel
theorem dX7_late_0 : decode cX7_late 0 = .ok (.iload_n 1, 1) := by decide +kernel
theorem dX7_late_1 : decode cX7_late 1 = .ok (.i2l, 1) := by decide +kernel
theorem dX7_late_2 : decode cX7_late 2 = .ok (.lconst 0, 1) := by decide +kernel
theorem dX7_late_3 : decode cX7_late 3 = .ok (.ldc2_w 195, 3) := by decide +kernel
theorem dX7_late_6 : decode cX7_late 6 = .ok (.invokestatic 80, 3) := by decide +kernel
theorem dX7_late_9 : decode cX7_late 9 = .ok (.ifCond .eq 14, 3) := by decide +kernel
theorem dX7_late_12 : decode cX7_late 12 = .ok (.aload_n 0, 1) := by decide +kernel
theorem dX7_late_13 : decode cX7_late 13 = .ok (.getfield 31, 3) := by decide +kernel
theorem dX7_late_16 : decode cX7_late 16 = .ok (.iload_n 1, 1) := by decide +kernel
theorem dX7_late_17 : decode cX7_late 17 = .ok (.invokestatic 197, 3) := by decide +kernel
theorem dX7_late_20 : decode cX7_late 20 = .ok (.goto 5, 3) := by decide +kernel
theorem dX7_late_23 : decode cX7_late 23 = .ok (.ldc 135, 2) := by decide +kernel
theorem dX7_late_25 : decode cX7_late 25 = .ok (.ireturn, 1) := by decide +kernel
theorem dX7_findGains_0 : decode cX7_findGains 0 = .ok (.iconst 0, 1) := by decide +kernel
theorem dX7_findGains_1 : decode cX7_findGains 1 = .ok (.istore_n 1, 1) := by decide +kernel
theorem dX7_findGains_2 : decode cX7_findGains 2 = .ok (.iload_n 1, 1) := by decide +kernel
theorem dX7_findGains_3 : decode cX7_findGains 3 = .ok (.bipush 24, 2) := by decide +kernel
theorem dX7_findGains_5 : decode cX7_findGains 5 = .ok (.if_icmp .ge 142, 3) := by decide +kernel
theorem dX7_findGains_8 : decode cX7_findGains 8 = .ok (.aload_n 0, 1) := by decide +kernel
theorem dX7_findGains_9 : decode cX7_findGains 9 = .ok (.getfield 50, 3) := by decide +kernel
theorem dX7_findGains_12 : decode cX7_findGains 12 = .ok (.bipush 8, 2) := by decide +kernel
theorem dX7_findGains_14 : decode cX7_findGains 14 = .ok (.iload_n 1, 1) := by decide +kernel
theorem dX7_findGains_15 : decode cX7_findGains 15 = .ok (.imul, 1) := by decide +kernel
theorem dX7_findGains_16 : decode cX7_findGains 16 = .ok (.iconst 2, 1) := by decide +kernel
theorem dX7_findGains_17 : decode cX7_findGains 17 = .ok (.iadd, 1) := by decide +kernel
theorem dX7_findGains_18 : decode cX7_findGains 18 = .ok (.iconst 0, 1) := by decide +kernel
theorem dX7_findGains_19 : decode cX7_findGains 19 = .ok (.iastore, 1) := by decide +kernel
theorem dX7_findGains_20 : decode cX7_findGains 20 = .ok (.aload_n 0, 1) := by decide +kernel
theorem dX7_findGains_21 : decode cX7_findGains 21 = .ok (.getfield 50, 3) := by decide +kernel
theorem dX7_findGains_24 : decode cX7_findGains 24 = .ok (.bipush 8, 2) := by decide +kernel
theorem dX7_findGains_26 : decode cX7_findGains 26 = .ok (.iload_n 1, 1) := by decide +kernel
theorem dX7_findGains_27 : decode cX7_findGains 27 = .ok (.imul, 1) := by decide +kernel
theorem dX7_findGains_28 : decode cX7_findGains 28 = .ok (.iconst 1, 1) := by decide +kernel
theorem dX7_findGains_29 : decode cX7_findGains 29 = .ok (.iadd, 1) := by decide +kernel
theorem dX7_findGains_30 : decode cX7_findGains 30 = .ok (.aload_n 0, 1) := by decide +kernel
theorem dX7_findGains_31 : decode cX7_findGains 31 = .ok (.getfield 28, 3) := by decide +kernel
theorem dX7_findGains_34 : decode cX7_findGains 34 = .ok (.iload_n 1, 1) := by decide +kernel
theorem dX7_findGains_35 : decode cX7_findGains 35 = .ok (.iaload, 1) := by decide +kernel
theorem dX7_findGains_36 : decode cX7_findGains 36 = .ok (.ineg, 1) := by decide +kernel
theorem dX7_findGains_37 : decode cX7_findGains 37 = .ok (.iastore, 1) := by decide +kernel
theorem dX7_findGains_38 : decode cX7_findGains 38 = .ok (.aload_n 0, 1) := by decide +kernel
theorem dX7_findGains_39 : decode cX7_findGains 39 = .ok (.getfield 50, 3) := by decide +kernel
theorem dX7_findGains_42 : decode cX7_findGains 42 = .ok (.bipush 8, 2) := by decide +kernel
theorem dX7_findGains_44 : decode cX7_findGains 44 = .ok (.iload_n 1, 1) := by decide +kernel
theorem dX7_findGains_45 : decode cX7_findGains 45 = .ok (.imul, 1) := by decide +kernel
theorem dX7_findGains_46 : decode cX7_findGains 46 = .ok (.bipush (-2), 2) := by decide +kernel
theorem dX7_findGains_48 : decode cX7_findGains 48 = .ok (.aload_n 0, 1) := by decide +kernel
theorem dX7_findGains_49 : decode cX7_findGains 49 = .ok (.getfield 28, 3) := by decide +kernel
theorem dX7_findGains_52 : decode cX7_findGains 52 = .ok (.iload_n 1, 1) := by decide +kernel
theorem dX7_findGains_53 : decode cX7_findGains 53 = .ok (.iaload, 1) := by decide +kernel
theorem dX7_findGains_54 : decode cX7_findGains 54 = .ok (.imul, 1) := by decide +kernel
theorem dX7_findGains_55 : decode cX7_findGains 55 = .ok (.iastore, 1) := by decide +kernel
theorem dX7_findGains_56 : decode cX7_findGains 56 = .ok (.iconst 0, 1) := by decide +kernel
theorem dX7_findGains_57 : decode cX7_findGains 57 = .ok (.istore_n 2, 1) := by decide +kernel
theorem dX7_findGains_58 : decode cX7_findGains 58 = .ok (.iload_n 2, 1) := by decide +kernel
theorem dX7_findGains_59 : decode cX7_findGains 59 = .ok (.iconst 5, 1) := by decide +kernel
theorem dX7_findGains_60 : decode cX7_findGains 60 = .ok (.if_icmp .ge 81, 3) := by decide +kernel
theorem dX7_findGains_63 : decode cX7_findGains 63 = .ok (.aload_n 0, 1) := by decide +kernel
theorem dX7_findGains_64 : decode cX7_findGains 64 = .ok (.getfield 50, 3) := by decide +kernel
theorem dX7_findGains_67 : decode cX7_findGains 67 = .ok (.bipush 8, 2) := by decide +kernel
theorem dX7_findGains_69 : decode cX7_findGains 69 = .ok (.iload_n 1, 1) := by decide +kernel
theorem dX7_findGains_70 : decode cX7_findGains 70 = .ok (.imul, 1) := by decide +kernel
theorem dX7_findGains_71 : decode cX7_findGains 71 = .ok (.iconst 2, 1) := by decide +kernel
theorem dX7_findGains_72 : decode cX7_findGains 72 = .ok (.iadd, 1) := by decide +kernel
theorem dX7_findGains_73 : decode cX7_findGains 73 = .ok (.iload_n 2, 1) := by decide +kernel
theorem dX7_findGains_74 : decode cX7_findGains 74 = .ok (.iadd, 1) := by decide +kernel
theorem dX7_findGains_75 : decode cX7_findGains 75 = .ok (.iaload, 1) := by decide +kernel
theorem dX7_findGains_76 : decode cX7_findGains 76 = .ok (.istore_n 3, 1) := by decide +kernel
theorem dX7_findGains_77 : decode cX7_findGains 77 = .ok (.iconst 0, 1) := by decide +kernel
theorem dX7_findGains_78 : decode cX7_findGains 78 = .ok (.istore 4, 2) := by decide +kernel
theorem dX7_findGains_80 : decode cX7_findGains 80 = .ok (.iload 4, 2) := by decide +kernel
theorem dX7_findGains_82 : decode cX7_findGains 82 = .ok (.aload_n 0, 1) := by decide +kernel
theorem dX7_findGains_83 : decode cX7_findGains 83 = .ok (.getfield 84, 3) := by decide +kernel
theorem dX7_findGains_86 : decode cX7_findGains 86 = .ok (.if_icmp .ge 35, 3) := by decide +kernel
theorem dX7_findGains_89 : decode cX7_findGains 89 = .ok (.iload_n 3, 1) := by decide +kernel
theorem dX7_findGains_90 : decode cX7_findGains 90 = .ok (.aload_n 0, 1) := by decide +kernel
theorem dX7_findGains_91 : decode cX7_findGains 91 = .ok (.getfield 19, 3) := by decide +kernel
theorem dX7_findGains_94 : decode cX7_findGains 94 = .ok (.iload 4, 2) := by decide +kernel
theorem dX7_findGains_96 : decode cX7_findGains 96 = .ok (.iaload, 1) := by decide +kernel
theorem dX7_findGains_97 : decode cX7_findGains 97 = .ok (.iconst 1, 1) := by decide +kernel
theorem dX7_findGains_98 : decode cX7_findGains 98 = .ok (.if_icmp .ne 14, 3) := by decide +kernel
theorem dX7_findGains_101 : decode cX7_findGains 101 = .ok (.aload_n 0, 1) := by decide +kernel
theorem dX7_findGains_102 : decode cX7_findGains 102 = .ok (.iload 4, 2) := by decide +kernel
theorem dX7_findGains_104 : decode cX7_findGains 104 = .ok (.iload_n 1, 1) := by decide +kernel
theorem dX7_findGains_105 : decode cX7_findGains 105 = .ok (.iload_n 2, 1) := by decide +kernel
theorem dX7_findGains_106 : decode cX7_findGains 106 = .ok (.invokevirtual 112, 3) := by decide +kernel
theorem dX7_findGains_109 : decode cX7_findGains 109 = .ok (.goto 4, 3) := by decide +kernel
theorem dX7_findGains_112 : decode cX7_findGains 112 = .ok (.iconst 0, 1) := by decide +kernel
theorem dX7_findGains_113 : decode cX7_findGains 113 = .ok (.iadd, 1) := by decide +kernel
theorem dX7_findGains_114 : decode cX7_findGains 114 = .ok (.istore_n 3, 1) := by decide +kernel
theorem dX7_findGains_115 : decode cX7_findGains 115 = .ok (.iinc 4 1, 3) := by decide +kernel
theorem dX7_findGains_118 : decode cX7_findGains 118 = .ok (.goto (-38), 3) := by decide +kernel
theorem dX7_findGains_121 : decode cX7_findGains 121 = .ok (.aload_n 0, 1) := by decide +kernel
theorem dX7_findGains_122 : decode cX7_findGains 122 = .ok (.getfield 50, 3) := by decide +kernel
theorem dX7_findGains_125 : decode cX7_findGains 125 = .ok (.bipush 8, 2) := by decide +kernel
theorem dX7_findGains_127 : decode cX7_findGains 127 = .ok (.iload_n 1, 1) := by decide +kernel
theorem dX7_findGains_128 : decode cX7_findGains 128 = .ok (.imul, 1) := by decide +kernel
theorem dX7_findGains_129 : decode cX7_findGains 129 = .ok (.iconst 3, 1) := by decide +kernel
theorem dX7_findGains_130 : decode cX7_findGains 130 = .ok (.iadd, 1) := by decide +kernel
theorem dX7_findGains_131 : decode cX7_findGains 131 = .ok (.iload_n 2, 1) := by decide +kernel
theorem dX7_findGains_132 : decode cX7_findGains 132 = .ok (.iadd, 1) := by decide +kernel
theorem dX7_findGains_133 : decode cX7_findGains 133 = .ok (.iload_n 3, 1) := by decide +kernel
theorem dX7_findGains_134 : decode cX7_findGains 134 = .ok (.iastore, 1) := by decide +kernel
theorem dX7_findGains_135 : decode cX7_findGains 135 = .ok (.iinc 2 1, 3) := by decide +kernel
theorem dX7_findGains_138 : decode cX7_findGains 138 = .ok (.goto (-80), 3) := by decide +kernel
theorem dX7_findGains_141 : decode cX7_findGains 141 = .ok (.iinc 1 1, 3) := by decide +kernel
theorem dX7_findGains_144 : decode cX7_findGains 144 = .ok (.goto (-142), 3) := by decide +kernel
theorem dX7_findGains_147 : decode cX7_findGains 147 = .ok (.return_, 1) := by decide +kernel
theorem dX7_gainOf_0 : decode cX7_gainOf 0 = .ok (.aload_n 0, 1) := by decide +kernel
theorem dX7_gainOf_1 : decode cX7_gainOf 1 = .ok (.invokevirtual 201, 3) := by decide +kernel
theorem dX7_gainOf_4 : decode cX7_gainOf 4 = .ok (.iconst 0, 1) := by decide +kernel
theorem dX7_gainOf_5 : decode cX7_gainOf 5 = .ok (.istore_n 2, 1) := by decide +kernel
theorem dX7_gainOf_6 : decode cX7_gainOf 6 = .ok (.iconst 0, 1) := by decide +kernel
theorem dX7_gainOf_7 : decode cX7_gainOf 7 = .ok (.istore_n 3, 1) := by decide +kernel
theorem dX7_gainOf_8 : decode cX7_gainOf 8 = .ok (.iload_n 3, 1) := by decide +kernel
theorem dX7_gainOf_9 : decode cX7_gainOf 9 = .ok (.bipush 24, 2) := by decide +kernel
theorem dX7_gainOf_11 : decode cX7_gainOf 11 = .ok (.if_icmp .ge 28, 3) := by decide +kernel
theorem dX7_gainOf_14 : decode cX7_gainOf 14 = .ok (.iload_n 2, 1) := by decide +kernel
theorem dX7_gainOf_15 : decode cX7_gainOf 15 = .ok (.aload_n 0, 1) := by decide +kernel
theorem dX7_gainOf_16 : decode cX7_gainOf 16 = .ok (.getfield 50, 3) := by decide +kernel
theorem dX7_gainOf_19 : decode cX7_gainOf 19 = .ok (.bipush 8, 2) := by decide +kernel
theorem dX7_gainOf_21 : decode cX7_gainOf 21 = .ok (.iload_n 3, 1) := by decide +kernel
theorem dX7_gainOf_22 : decode cX7_gainOf 22 = .ok (.imul, 1) := by decide +kernel
theorem dX7_gainOf_23 : decode cX7_gainOf 23 = .ok (.aload_n 1, 1) := by decide +kernel
theorem dX7_gainOf_24 : decode cX7_gainOf 24 = .ok (.iload_n 3, 1) := by decide +kernel
theorem dX7_gainOf_25 : decode cX7_gainOf 25 = .ok (.iaload, 1) := by decide +kernel
theorem dX7_gainOf_26 : decode cX7_gainOf 26 = .ok (.iadd, 1) := by decide +kernel
theorem dX7_gainOf_27 : decode cX7_gainOf 27 = .ok (.bipush (-2), 2) := by decide +kernel
theorem dX7_gainOf_29 : decode cX7_gainOf 29 = .ok (.isub, 1) := by decide +kernel
theorem dX7_gainOf_30 : decode cX7_gainOf 30 = .ok (.iaload, 1) := by decide +kernel
theorem dX7_gainOf_31 : decode cX7_gainOf 31 = .ok (.iadd, 1) := by decide +kernel
theorem dX7_gainOf_32 : decode cX7_gainOf 32 = .ok (.istore_n 2, 1) := by decide +kernel
theorem dX7_gainOf_33 : decode cX7_gainOf 33 = .ok (.iinc 3 1, 3) := by decide +kernel
theorem dX7_gainOf_36 : decode cX7_gainOf 36 = .ok (.goto (-28), 3) := by decide +kernel
theorem dX7_gainOf_39 : decode cX7_gainOf 39 = .ok (.iload_n 2, 1) := by decide +kernel
theorem dX7_gainOf_40 : decode cX7_gainOf 40 = .ok (.ireturn, 1) := by decide +kernel
theorem dX7_gain_0 : decode cX7_gain 0 = .ok (.aload_n 0, 1) := by decide +kernel
theorem dX7_gain_1 : decode cX7_gain 1 = .ok (.aload_n 0, 1) := by decide +kernel
theorem dX7_gain_2 : decode cX7_gain 2 = .ok (.getfield 31, 3) := by decide +kernel
theorem dX7_gain_5 : decode cX7_gain 5 = .ok (.invokevirtual 204, 3) := by decide +kernel
theorem dX7_gain_8 : decode cX7_gain 8 = .ok (.ireturn, 1) := by decide +kernel
theorem dX7_areCaught_0 : decode cX7_areCaught 0 = .ok (.iconst 1, 1) := by decide +kernel
theorem dX7_areCaught_1 : decode cX7_areCaught 1 = .ok (.istore_n 3, 1) := by decide +kernel
theorem dX7_areCaught_2 : decode cX7_areCaught 2 = .ok (.iconst 0, 1) := by decide +kernel
theorem dX7_areCaught_3 : decode cX7_areCaught 3 = .ok (.istore 4, 2) := by decide +kernel
theorem dX7_areCaught_5 : decode cX7_areCaught 5 = .ok (.iload 4, 2) := by decide +kernel
theorem dX7_areCaught_7 : decode cX7_areCaught 7 = .ok (.aload_n 0, 1) := by decide +kernel
theorem dX7_areCaught_8 : decode cX7_areCaught 8 = .ok (.getfield 116, 3) := by decide +kernel
theorem dX7_areCaught_11 : decode cX7_areCaught 11 = .ok (.if_icmp .ge 41, 3) := by decide +kernel
theorem dX7_areCaught_14 : decode cX7_areCaught 14 = .ok (.iload_n 3, 1) := by decide +kernel
theorem dX7_areCaught_15 : decode cX7_areCaught 15 = .ok (.ifCond .eq 29, 3) := by decide +kernel
theorem dX7_areCaught_18 : decode cX7_areCaught 18 = .ok (.aload_n 0, 1) := by decide +kernel
theorem dX7_areCaught_19 : decode cX7_areCaught 19 = .ok (.getfield 22, 3) := by decide +kernel
theorem dX7_areCaught_22 : decode cX7_areCaught 22 = .ok (.iload 4, 2) := by decide +kernel
theorem dX7_areCaught_24 : decode cX7_areCaught 24 = .ok (.iaload, 1) := by decide +kernel
theorem dX7_areCaught_25 : decode cX7_areCaught 25 = .ok (.iload_n 1, 1) := by decide +kernel
theorem dX7_areCaught_26 : decode cX7_areCaught 26 = .ok (.if_icmp .ne 14, 3) := by decide +kernel
theorem dX7_areCaught_29 : decode cX7_areCaught 29 = .ok (.iload_n 2, 1) := by decide +kernel
theorem dX7_areCaught_30 : decode cX7_areCaught 30 = .ok (.aload_n 0, 1) := by decide +kernel
theorem dX7_areCaught_31 : decode cX7_areCaught 31 = .ok (.getfield 25, 3) := by decide +kernel
theorem dX7_areCaught_34 : decode cX7_areCaught 34 = .ok (.iload 4, 2) := by decide +kernel
theorem dX7_areCaught_36 : decode cX7_areCaught 36 = .ok (.iaload, 1) := by decide +kernel
theorem dX7_areCaught_37 : decode cX7_areCaught 37 = .ok (.if_icmp .gt 7, 3) := by decide +kernel
theorem dX7_areCaught_40 : decode cX7_areCaught 40 = .ok (.iconst 1, 1) := by decide +kernel
theorem dX7_areCaught_41 : decode cX7_areCaught 41 = .ok (.goto 4, 3) := by decide +kernel
theorem dX7_areCaught_44 : decode cX7_areCaught 44 = .ok (.iconst 0, 1) := by decide +kernel
theorem dX7_areCaught_45 : decode cX7_areCaught 45 = .ok (.istore_n 3, 1) := by decide +kernel
theorem dX7_areCaught_46 : decode cX7_areCaught 46 = .ok (.iinc 4 1, 3) := by decide +kernel
theorem dX7_areCaught_49 : decode cX7_areCaught 49 = .ok (.goto (-44), 3) := by decide +kernel
theorem dX7_areCaught_52 : decode cX7_areCaught 52 = .ok (.iload_n 3, 1) := by decide +kernel
theorem dX7_areCaught_53 : decode cX7_areCaught 53 = .ok (.ireturn, 1) := by decide +kernel
theorem dX7_wrongOf_0 : decode cX7_wrongOf 0 = .ok (.iconst 0, 1) := by decide +kernel
theorem dX7_wrongOf_1 : decode cX7_wrongOf 1 = .ok (.istore_n 2, 1) := by decide +kernel
theorem dX7_wrongOf_2 : decode cX7_wrongOf 2 = .ok (.iload_n 2, 1) := by decide +kernel
theorem dX7_wrongOf_3 : decode cX7_wrongOf 3 = .ok (.bipush 24, 2) := by decide +kernel
theorem dX7_wrongOf_5 : decode cX7_wrongOf 5 = .ok (.if_icmp .ge 44, 3) := by decide +kernel
theorem dX7_wrongOf_8 : decode cX7_wrongOf 8 = .ok (.aload_n 0, 1) := by decide +kernel
theorem dX7_wrongOf_9 : decode cX7_wrongOf 9 = .ok (.iload_n 2, 1) := by decide +kernel
theorem dX7_wrongOf_10 : decode cX7_wrongOf 10 = .ok (.aload_n 1, 1) := by decide +kernel
theorem dX7_wrongOf_11 : decode cX7_wrongOf 11 = .ok (.iload_n 2, 1) := by decide +kernel
theorem dX7_wrongOf_12 : decode cX7_wrongOf 12 = .ok (.invokestatic 197, 3) := by decide +kernel
theorem dX7_wrongOf_15 : decode cX7_wrongOf 15 = .ok (.invokevirtual 208, 3) := by decide +kernel
theorem dX7_wrongOf_18 : decode cX7_wrongOf 18 = .ok (.ifCond .eq 23, 3) := by decide +kernel
theorem dX7_wrongOf_21 : decode cX7_wrongOf 21 = .ok (.aload_n 1, 1) := by decide +kernel
theorem dX7_wrongOf_22 : decode cX7_wrongOf 22 = .ok (.iload_n 2, 1) := by decide +kernel
theorem dX7_wrongOf_23 : decode cX7_wrongOf 23 = .ok (.iconst 1, 1) := by decide +kernel
theorem dX7_wrongOf_24 : decode cX7_wrongOf 24 = .ok (.iadd, 1) := by decide +kernel
theorem dX7_wrongOf_25 : decode cX7_wrongOf 25 = .ok (.invokestatic 197, 3) := by decide +kernel
theorem dX7_wrongOf_28 : decode cX7_wrongOf 28 = .ok (.i2l, 1) := by decide +kernel
theorem dX7_wrongOf_29 : decode cX7_wrongOf 29 = .ok (.lconst 0, 1) := by decide +kernel
theorem dX7_wrongOf_30 : decode cX7_wrongOf 30 = .ok (.aload_n 0, 1) := by decide +kernel
theorem dX7_wrongOf_31 : decode cX7_wrongOf 31 = .ok (.getfield 34, 3) := by decide +kernel
theorem dX7_wrongOf_34 : decode cX7_wrongOf 34 = .ok (.i2l, 1) := by decide +kernel
theorem dX7_wrongOf_35 : decode cX7_wrongOf 35 = .ok (.invokestatic 80, 3) := by decide +kernel
theorem dX7_wrongOf_38 : decode cX7_wrongOf 38 = .ok (.ifCond .ne 5, 3) := by decide +kernel
theorem dX7_wrongOf_41 : decode cX7_wrongOf 41 = .ok (.iload_n 2, 1) := by decide +kernel
theorem dX7_wrongOf_42 : decode cX7_wrongOf 42 = .ok (.ireturn, 1) := by decide +kernel
theorem dX7_wrongOf_43 : decode cX7_wrongOf 43 = .ok (.iinc 2 1, 3) := by decide +kernel
theorem dX7_wrongOf_46 : decode cX7_wrongOf 46 = .ok (.goto (-44), 3) := by decide +kernel
theorem dX7_wrongOf_49 : decode cX7_wrongOf 49 = .ok (.bipush (-4), 2) := by decide +kernel
theorem dX7_wrongOf_51 : decode cX7_wrongOf 51 = .ok (.ireturn, 1) := by decide +kernel
theorem dX7_wrong_0 : decode cX7_wrong 0 = .ok (.aload_n 0, 1) := by decide +kernel
theorem dX7_wrong_1 : decode cX7_wrong 1 = .ok (.aload_n 0, 1) := by decide +kernel
theorem dX7_wrong_2 : decode cX7_wrong 2 = .ok (.getfield 31, 3) := by decide +kernel
theorem dX7_wrong_5 : decode cX7_wrong 5 = .ok (.invokevirtual 212, 3) := by decide +kernel
theorem dX7_wrong_8 : decode cX7_wrong 8 = .ok (.ireturn, 1) := by decide +kernel
theorem dX7_missed_0 : decode cX7_missed 0 = .ok (.iconst 0, 1) := by decide +kernel
theorem dX7_missed_1 : decode cX7_missed 1 = .ok (.istore_n 1, 1) := by decide +kernel
theorem dX7_missed_2 : decode cX7_missed 2 = .ok (.iconst 0, 1) := by decide +kernel
theorem dX7_missed_3 : decode cX7_missed 3 = .ok (.istore_n 2, 1) := by decide +kernel
theorem dX7_missed_4 : decode cX7_missed 4 = .ok (.iload_n 2, 1) := by decide +kernel
theorem dX7_missed_5 : decode cX7_missed 5 = .ok (.aload_n 0, 1) := by decide +kernel
theorem dX7_missed_6 : decode cX7_missed 6 = .ok (.getfield 116, 3) := by decide +kernel
theorem dX7_missed_9 : decode cX7_missed 9 = .ok (.if_icmp .ge 41, 3) := by decide +kernel
theorem dX7_missed_12 : decode cX7_missed 12 = .ok (.iload_n 1, 1) := by decide +kernel
theorem dX7_missed_13 : decode cX7_missed 13 = .ok (.aload_n 0, 1) := by decide +kernel
theorem dX7_missed_14 : decode cX7_missed 14 = .ok (.getfield 31, 3) := by decide +kernel
theorem dX7_missed_17 : decode cX7_missed 17 = .ok (.aload_n 0, 1) := by decide +kernel
theorem dX7_missed_18 : decode cX7_missed 18 = .ok (.getfield 22, 3) := by decide +kernel
theorem dX7_missed_21 : decode cX7_missed 21 = .ok (.iload_n 2, 1) := by decide +kernel
theorem dX7_missed_22 : decode cX7_missed 22 = .ok (.iaload, 1) := by decide +kernel
theorem dX7_missed_23 : decode cX7_missed 23 = .ok (.invokestatic 197, 3) := by decide +kernel
theorem dX7_missed_26 : decode cX7_missed 26 = .ok (.aload_n 0, 1) := by decide +kernel
theorem dX7_missed_27 : decode cX7_missed 27 = .ok (.getfield 25, 3) := by decide +kernel
theorem dX7_missed_30 : decode cX7_missed 30 = .ok (.iload_n 2, 1) := by decide +kernel
theorem dX7_missed_31 : decode cX7_missed 31 = .ok (.iaload, 1) := by decide +kernel
theorem dX7_missed_32 : decode cX7_missed 32 = .ok (.if_icmp .le 9, 3) := by decide +kernel
theorem dX7_missed_35 : decode cX7_missed 35 = .ok (.iconst 1, 1) := by decide +kernel
theorem dX7_missed_36 : decode cX7_missed 36 = .ok (.iload_n 2, 1) := by decide +kernel
theorem dX7_missed_37 : decode cX7_missed 37 = .ok (.ishl, 1) := by decide +kernel
theorem dX7_missed_38 : decode cX7_missed 38 = .ok (.goto 4, 3) := by decide +kernel
theorem dX7_missed_41 : decode cX7_missed 41 = .ok (.iconst 0, 1) := by decide +kernel
theorem dX7_missed_42 : decode cX7_missed 42 = .ok (.ior, 1) := by decide +kernel
theorem dX7_missed_43 : decode cX7_missed 43 = .ok (.istore_n 1, 1) := by decide +kernel
theorem dX7_missed_44 : decode cX7_missed 44 = .ok (.iinc 2 1, 3) := by decide +kernel
theorem dX7_missed_47 : decode cX7_missed 47 = .ok (.goto (-43), 3) := by decide +kernel
theorem dX7_missed_50 : decode cX7_missed 50 = .ok (.iload_n 1, 1) := by decide +kernel
theorem dX7_missed_51 : decode cX7_missed 51 = .ok (.ireturn, 1) := by decide +kernel
theorem dX7_dayBy_0 : decode cX7_dayBy 0 = .ok (.aload_n 0, 1) := by decide +kernel
theorem dX7_dayBy_1 : decode cX7_dayBy 1 = .ok (.aload_n 1, 1) := by decide +kernel
theorem dX7_dayBy_2 : decode cX7_dayBy 2 = .ok (.invokevirtual 204, 3) := by decide +kernel
theorem dX7_dayBy_5 : decode cX7_dayBy 5 = .ok (.istore_n 2, 1) := by decide +kernel
theorem dX7_dayBy_6 : decode cX7_dayBy 6 = .ok (.aload_n 0, 1) := by decide +kernel
theorem dX7_dayBy_7 : decode cX7_dayBy 7 = .ok (.dup, 1) := by decide +kernel
theorem dX7_dayBy_8 : decode cX7_dayBy 8 = .ok (.getfield 34, 3) := by decide +kernel
theorem dX7_dayBy_11 : decode cX7_dayBy 11 = .ok (.aload_n 1, 1) := by decide +kernel
theorem dX7_dayBy_12 : decode cX7_dayBy 12 = .ok (.bipush 24, 2) := by decide +kernel
theorem dX7_dayBy_14 : decode cX7_dayBy 14 = .ok (.invokestatic 197, 3) := by decide +kernel
theorem dX7_dayBy_17 : decode cX7_dayBy 17 = .ok (.isub, 1) := by decide +kernel
theorem dX7_dayBy_18 : decode cX7_dayBy 18 = .ok (.putfield 34, 3) := by decide +kernel
theorem dX7_dayBy_21 : decode cX7_dayBy 21 = .ok (.aload_n 0, 1) := by decide +kernel
theorem dX7_dayBy_22 : decode cX7_dayBy 22 = .ok (.dup, 1) := by decide +kernel
theorem dX7_dayBy_23 : decode cX7_dayBy 23 = .ok (.getfield 132, 3) := by decide +kernel
theorem dX7_dayBy_26 : decode cX7_dayBy 26 = .ok (.iload_n 2, 1) := by decide +kernel
theorem dX7_dayBy_27 : decode cX7_dayBy 27 = .ok (.iadd, 1) := by decide +kernel
theorem dX7_dayBy_28 : decode cX7_dayBy 28 = .ok (.putfield 132, 3) := by decide +kernel
theorem dX7_dayBy_31 : decode cX7_dayBy 31 = .ok (.aload_n 0, 1) := by decide +kernel
theorem dX7_dayBy_32 : decode cX7_dayBy 32 = .ok (.dup, 1) := by decide +kernel
theorem dX7_dayBy_33 : decode cX7_dayBy 33 = .ok (.getfield 129, 3) := by decide +kernel
theorem dX7_dayBy_36 : decode cX7_dayBy 36 = .ok (.iconst 1, 1) := by decide +kernel
theorem dX7_dayBy_37 : decode cX7_dayBy 37 = .ok (.iadd, 1) := by decide +kernel
theorem dX7_dayBy_38 : decode cX7_dayBy 38 = .ok (.putfield 129, 3) := by decide +kernel
theorem dX7_dayBy_41 : decode cX7_dayBy 41 = .ok (.aload_n 0, 1) := by decide +kernel
theorem dX7_dayBy_42 : decode cX7_dayBy 42 = .ok (.getfield 123, 3) := by decide +kernel
theorem dX7_dayBy_45 : decode cX7_dayBy 45 = .ok (.ifCond .le 36, 3) := by decide +kernel
theorem dX7_dayBy_48 : decode cX7_dayBy 48 = .ok (.aload_n 0, 1) := by decide +kernel
theorem dX7_dayBy_49 : decode cX7_dayBy 49 = .ok (.getfield 129, 3) := by decide +kernel
theorem dX7_dayBy_52 : decode cX7_dayBy 52 = .ok (.aload_n 0, 1) := by decide +kernel
theorem dX7_dayBy_53 : decode cX7_dayBy 53 = .ok (.getfield 123, 3) := by decide +kernel
theorem dX7_dayBy_56 : decode cX7_dayBy 56 = .ok (.irem, 1) := by decide +kernel
theorem dX7_dayBy_57 : decode cX7_dayBy 57 = .ok (.ifCond .ne 24, 3) := by decide +kernel
theorem dX7_dayBy_60 : decode cX7_dayBy 60 = .ok (.aload_n 0, 1) := by decide +kernel
theorem dX7_dayBy_61 : decode cX7_dayBy 61 = .ok (.aload_n 0, 1) := by decide +kernel
theorem dX7_dayBy_62 : decode cX7_dayBy 62 = .ok (.getfield 34, 3) := by decide +kernel
theorem dX7_dayBy_65 : decode cX7_dayBy 65 = .ok (.ifCond .le 12, 3) := by decide +kernel
theorem dX7_dayBy_68 : decode cX7_dayBy 68 = .ok (.aload_n 0, 1) := by decide +kernel
theorem dX7_dayBy_69 : decode cX7_dayBy 69 = .ok (.getfield 34, 3) := by decide +kernel
theorem dX7_dayBy_72 : decode cX7_dayBy 72 = .ok (.iconst 1, 1) := by decide +kernel
theorem dX7_dayBy_73 : decode cX7_dayBy 73 = .ok (.isub, 1) := by decide +kernel
theorem dX7_dayBy_74 : decode cX7_dayBy 74 = .ok (.goto 4, 3) := by decide +kernel
theorem dX7_dayBy_77 : decode cX7_dayBy 77 = .ok (.iconst 0, 1) := by decide +kernel
theorem dX7_dayBy_78 : decode cX7_dayBy 78 = .ok (.putfield 34, 3) := by decide +kernel
theorem dX7_dayBy_81 : decode cX7_dayBy 81 = .ok (.aload_n 0, 1) := by decide +kernel
theorem dX7_dayBy_82 : decode cX7_dayBy 82 = .ok (.getfield 126, 3) := by decide +kernel
theorem dX7_dayBy_85 : decode cX7_dayBy 85 = .ok (.ifCond .le 47, 3) := by decide +kernel
theorem dX7_dayBy_88 : decode cX7_dayBy 88 = .ok (.aload_n 0, 1) := by decide +kernel
theorem dX7_dayBy_89 : decode cX7_dayBy 89 = .ok (.getfield 129, 3) := by decide +kernel
theorem dX7_dayBy_92 : decode cX7_dayBy 92 = .ok (.aload_n 0, 1) := by decide +kernel
theorem dX7_dayBy_93 : decode cX7_dayBy 93 = .ok (.getfield 126, 3) := by decide +kernel
theorem dX7_dayBy_96 : decode cX7_dayBy 96 = .ok (.irem, 1) := by decide +kernel
theorem dX7_dayBy_97 : decode cX7_dayBy 97 = .ok (.ifCond .ne 35, 3) := by decide +kernel
theorem dX7_dayBy_100 : decode cX7_dayBy 100 = .ok (.aload_n 0, 1) := by decide +kernel
theorem dX7_dayBy_101 : decode cX7_dayBy 101 = .ok (.aload_n 0, 1) := by decide +kernel
theorem dX7_dayBy_102 : decode cX7_dayBy 102 = .ok (.getfield 34, 3) := by decide +kernel
theorem dX7_dayBy_105 : decode cX7_dayBy 105 = .ok (.aload_n 0, 1) := by decide +kernel
theorem dX7_dayBy_106 : decode cX7_dayBy 106 = .ok (.getfield 38, 3) := by decide +kernel
theorem dX7_dayBy_109 : decode cX7_dayBy 109 = .ok (.iadd, 1) := by decide +kernel
theorem dX7_dayBy_110 : decode cX7_dayBy 110 = .ok (.bipush 99, 2) := by decide +kernel
theorem dX7_dayBy_112 : decode cX7_dayBy 112 = .ok (.if_icmp .le 8, 3) := by decide +kernel
theorem dX7_dayBy_115 : decode cX7_dayBy 115 = .ok (.bipush 99, 2) := by decide +kernel
theorem dX7_dayBy_117 : decode cX7_dayBy 117 = .ok (.goto 12, 3) := by decide +kernel
theorem dX7_dayBy_120 : decode cX7_dayBy 120 = .ok (.aload_n 0, 1) := by decide +kernel
theorem dX7_dayBy_121 : decode cX7_dayBy 121 = .ok (.getfield 34, 3) := by decide +kernel
theorem dX7_dayBy_124 : decode cX7_dayBy 124 = .ok (.aload_n 0, 1) := by decide +kernel
theorem dX7_dayBy_125 : decode cX7_dayBy 125 = .ok (.getfield 38, 3) := by decide +kernel
theorem dX7_dayBy_128 : decode cX7_dayBy 128 = .ok (.iadd, 1) := by decide +kernel
theorem dX7_dayBy_129 : decode cX7_dayBy 129 = .ok (.putfield 34, 3) := by decide +kernel
theorem dX7_dayBy_132 : decode cX7_dayBy 132 = .ok (.iload_n 2, 1) := by decide +kernel
theorem dX7_dayBy_133 : decode cX7_dayBy 133 = .ok (.ireturn, 1) := by decide +kernel
theorem dX7_day_0 : decode cX7_day 0 = .ok (.aload_n 0, 1) := by decide +kernel
theorem dX7_day_1 : decode cX7_day 1 = .ok (.aload_n 0, 1) := by decide +kernel
theorem dX7_day_2 : decode cX7_day 2 = .ok (.getfield 31, 3) := by decide +kernel
theorem dX7_day_5 : decode cX7_day 5 = .ok (.invokevirtual 212, 3) := by decide +kernel
theorem dX7_day_8 : decode cX7_day 8 = .ok (.ifCond .lt 6, 3) := by decide +kernel
theorem dX7_day_11 : decode cX7_day 11 = .ok (.ldc 215, 2) := by decide +kernel
theorem dX7_day_13 : decode cX7_day 13 = .ok (.ireturn, 1) := by decide +kernel
theorem dX7_day_14 : decode cX7_day 14 = .ok (.aload_n 0, 1) := by decide +kernel
theorem dX7_day_15 : decode cX7_day 15 = .ok (.getfield 129, 3) := by decide +kernel
theorem dX7_day_18 : decode cX7_day 18 = .ok (.sipush 9999, 3) := by decide +kernel
theorem dX7_day_21 : decode cX7_day 21 = .ok (.if_icmp .ne 8, 3) := by decide +kernel
theorem dX7_day_24 : decode cX7_day 24 = .ok (.ldc 216, 2) := by decide +kernel
theorem dX7_day_26 : decode cX7_day 26 = .ok (.goto 11, 3) := by decide +kernel
theorem dX7_day_29 : decode cX7_day 29 = .ok (.aload_n 0, 1) := by decide +kernel
theorem dX7_day_30 : decode cX7_day 30 = .ok (.aload_n 0, 1) := by decide +kernel
theorem dX7_day_31 : decode cX7_day 31 = .ok (.getfield 31, 3) := by decide +kernel
theorem dX7_day_34 : decode cX7_day 34 = .ok (.invokevirtual 217, 3) := by decide +kernel
theorem dX7_day_37 : decode cX7_day 37 = .ok (.ireturn, 1) := by decide +kernel
theorem dX7_findBest_0 : decode cX7_findBest 0 = .ok (.aload_n 0, 1) := by decide +kernel
theorem dX7_findBest_1 : decode cX7_findBest 1 = .ok (.invokevirtual 201, 3) := by decide +kernel
theorem dX7_findBest_4 : decode cX7_findBest 4 = .ok (.iconst 0, 1) := by decide +kernel
theorem dX7_findBest_5 : decode cX7_findBest 5 = .ok (.istore_n 2, 1) := by decide +kernel
theorem dX7_findBest_6 : decode cX7_findBest 6 = .ok (.iload_n 2, 1) := by decide +kernel
theorem dX7_findBest_7 : decode cX7_findBest 7 = .ok (.aload_n 0, 1) := by decide +kernel
theorem dX7_findBest_8 : decode cX7_findBest 8 = .ok (.getfield 34, 3) := by decide +kernel
theorem dX7_findBest_11 : decode cX7_findBest 11 = .ok (.if_icmp .gt 33, 3) := by decide +kernel
theorem dX7_findBest_14 : decode cX7_findBest 14 = .ok (.aload_n 0, 1) := by decide +kernel
theorem dX7_findBest_15 : decode cX7_findBest 15 = .ok (.getfield 53, 3) := by decide +kernel
theorem dX7_findBest_18 : decode cX7_findBest 18 = .ok (.sipush 2400, 3) := by decide +kernel
theorem dX7_findBest_21 : decode cX7_findBest 21 = .ok (.iload_n 2, 1) := by decide +kernel
theorem dX7_findBest_22 : decode cX7_findBest 22 = .ok (.iadd, 1) := by decide +kernel
theorem dX7_findBest_23 : decode cX7_findBest 23 = .ok (.iload_n 1, 1) := by decide +kernel
theorem dX7_findBest_24 : decode cX7_findBest 24 = .ok (.ifCond .eq 7, 3) := by decide +kernel
theorem dX7_findBest_27 : decode cX7_findBest 27 = .ok (.iload_n 2, 1) := by decide +kernel
theorem dX7_findBest_28 : decode cX7_findBest 28 = .ok (.ifCond .ne 7, 3) := by decide +kernel
theorem dX7_findBest_31 : decode cX7_findBest 31 = .ok (.iconst 0, 1) := by decide +kernel
theorem dX7_findBest_32 : decode cX7_findBest 32 = .ok (.goto 5, 3) := by decide +kernel
theorem dX7_findBest_35 : decode cX7_findBest 35 = .ok (.ldc 220, 2) := by decide +kernel
theorem dX7_findBest_37 : decode cX7_findBest 37 = .ok (.iastore, 1) := by decide +kernel
theorem dX7_findBest_38 : decode cX7_findBest 38 = .ok (.iinc 2 1, 3) := by decide +kernel
theorem dX7_findBest_41 : decode cX7_findBest 41 = .ok (.goto (-35), 3) := by decide +kernel
theorem dX7_findBest_44 : decode cX7_findBest 44 = .ok (.bipush 23, 2) := by decide +kernel
theorem dX7_findBest_46 : decode cX7_findBest 46 = .ok (.istore_n 2, 1) := by decide +kernel
theorem dX7_findBest_47 : decode cX7_findBest 47 = .ok (.iload_n 2, 1) := by decide +kernel
theorem dX7_findBest_48 : decode cX7_findBest 48 = .ok (.ifCond .lt 155, 3) := by decide +kernel
theorem dX7_findBest_51 : decode cX7_findBest 51 = .ok (.iconst 0, 1) := by decide +kernel
theorem dX7_findBest_52 : decode cX7_findBest 52 = .ok (.istore_n 3, 1) := by decide +kernel
theorem dX7_findBest_53 : decode cX7_findBest 53 = .ok (.iload_n 3, 1) := by decide +kernel
theorem dX7_findBest_54 : decode cX7_findBest 54 = .ok (.aload_n 0, 1) := by decide +kernel
theorem dX7_findBest_55 : decode cX7_findBest 55 = .ok (.getfield 34, 3) := by decide +kernel
theorem dX7_findBest_58 : decode cX7_findBest 58 = .ok (.if_icmp .gt 139, 3) := by decide +kernel
theorem dX7_findBest_61 : decode cX7_findBest 61 = .ok (.ldc 220, 2) := by decide +kernel
theorem dX7_findBest_63 : decode cX7_findBest 63 = .ok (.istore 4, 2) := by decide +kernel
theorem dX7_findBest_65 : decode cX7_findBest 65 = .ok (.bipush (-2), 2) := by decide +kernel
theorem dX7_findBest_67 : decode cX7_findBest 67 = .ok (.istore 5, 2) := by decide +kernel
theorem dX7_findBest_69 : decode cX7_findBest 69 = .ok (.iload 5, 2) := by decide +kernel
theorem dX7_findBest_71 : decode cX7_findBest 71 = .ok (.iconst 5, 1) := by decide +kernel
theorem dX7_findBest_72 : decode cX7_findBest 72 = .ok (.if_icmp .gt 106, 3) := by decide +kernel
theorem dX7_findBest_75 : decode cX7_findBest 75 = .ok (.aload_n 0, 1) := by decide +kernel
theorem dX7_findBest_76 : decode cX7_findBest 76 = .ok (.iload_n 2, 1) := by decide +kernel
theorem dX7_findBest_77 : decode cX7_findBest 77 = .ok (.iload_n 3, 1) := by decide +kernel
theorem dX7_findBest_78 : decode cX7_findBest 78 = .ok (.invokevirtual 208, 3) := by decide +kernel
theorem dX7_findBest_81 : decode cX7_findBest 81 = .ok (.ifCond .eq 97, 3) := by decide +kernel
theorem dX7_findBest_84 : decode cX7_findBest 84 = .ok (.iload_n 3, 1) := by decide +kernel
theorem dX7_findBest_85 : decode cX7_findBest 85 = .ok (.iload 5, 2) := by decide +kernel
theorem dX7_findBest_87 : decode cX7_findBest 87 = .ok (.iadd, 1) := by decide +kernel
theorem dX7_findBest_88 : decode cX7_findBest 88 = .ok (.i2l, 1) := by decide +kernel
theorem dX7_findBest_89 : decode cX7_findBest 89 = .ok (.lconst 0, 1) := by decide +kernel
theorem dX7_findBest_90 : decode cX7_findBest 90 = .ok (.aload_n 0, 1) := by decide +kernel
theorem dX7_findBest_91 : decode cX7_findBest 91 = .ok (.getfield 34, 3) := by decide +kernel
theorem dX7_findBest_94 : decode cX7_findBest 94 = .ok (.i2l, 1) := by decide +kernel
theorem dX7_findBest_95 : decode cX7_findBest 95 = .ok (.invokestatic 80, 3) := by decide +kernel
theorem dX7_findBest_98 : decode cX7_findBest 98 = .ok (.ifCond .eq 74, 3) := by decide +kernel
theorem dX7_findBest_101 : decode cX7_findBest 101 = .ok (.aload_n 0, 1) := by decide +kernel
theorem dX7_findBest_102 : decode cX7_findBest 102 = .ok (.getfield 53, 3) := by decide +kernel
theorem dX7_findBest_105 : decode cX7_findBest 105 = .ok (.bipush 100, 2) := by decide +kernel
theorem dX7_findBest_107 : decode cX7_findBest 107 = .ok (.iload_n 2, 1) := by decide +kernel
theorem dX7_findBest_108 : decode cX7_findBest 108 = .ok (.iconst 1, 1) := by decide +kernel
theorem dX7_findBest_109 : decode cX7_findBest 109 = .ok (.iadd, 1) := by decide +kernel
theorem dX7_findBest_110 : decode cX7_findBest 110 = .ok (.imul, 1) := by decide +kernel
theorem dX7_findBest_111 : decode cX7_findBest 111 = .ok (.iload_n 3, 1) := by decide +kernel
theorem dX7_findBest_112 : decode cX7_findBest 112 = .ok (.iadd, 1) := by decide +kernel
theorem dX7_findBest_113 : decode cX7_findBest 113 = .ok (.iload 5, 2) := by decide +kernel
theorem dX7_findBest_115 : decode cX7_findBest 115 = .ok (.iadd, 1) := by decide +kernel
theorem dX7_findBest_116 : decode cX7_findBest 116 = .ok (.iaload, 1) := by decide +kernel
theorem dX7_findBest_117 : decode cX7_findBest 117 = .ok (.ldc 220, 2) := by decide +kernel
theorem dX7_findBest_119 : decode cX7_findBest 119 = .ok (.if_icmp .le 53, 3) := by decide +kernel
theorem dX7_findBest_122 : decode cX7_findBest 122 = .ok (.aload_n 0, 1) := by decide +kernel
theorem dX7_findBest_123 : decode cX7_findBest 123 = .ok (.getfield 50, 3) := by decide +kernel
theorem dX7_findBest_126 : decode cX7_findBest 126 = .ok (.bipush 8, 2) := by decide +kernel
theorem dX7_findBest_128 : decode cX7_findBest 128 = .ok (.iload_n 2, 1) := by decide +kernel
theorem dX7_findBest_129 : decode cX7_findBest 129 = .ok (.imul, 1) := by decide +kernel
theorem dX7_findBest_130 : decode cX7_findBest 130 = .ok (.iload 5, 2) := by decide +kernel
theorem dX7_findBest_132 : decode cX7_findBest 132 = .ok (.iadd, 1) := by decide +kernel
theorem dX7_findBest_133 : decode cX7_findBest 133 = .ok (.bipush (-2), 2) := by decide +kernel
theorem dX7_findBest_135 : decode cX7_findBest 135 = .ok (.isub, 1) := by decide +kernel
theorem dX7_findBest_136 : decode cX7_findBest 136 = .ok (.iaload, 1) := by decide +kernel
theorem dX7_findBest_137 : decode cX7_findBest 137 = .ok (.aload_n 0, 1) := by decide +kernel
theorem dX7_findBest_138 : decode cX7_findBest 138 = .ok (.getfield 53, 3) := by decide +kernel
theorem dX7_findBest_141 : decode cX7_findBest 141 = .ok (.bipush 100, 2) := by decide +kernel
theorem dX7_findBest_143 : decode cX7_findBest 143 = .ok (.iload_n 2, 1) := by decide +kernel
theorem dX7_findBest_144 : decode cX7_findBest 144 = .ok (.iconst 1, 1) := by decide +kernel
theorem dX7_findBest_145 : decode cX7_findBest 145 = .ok (.iadd, 1) := by decide +kernel
theorem dX7_findBest_146 : decode cX7_findBest 146 = .ok (.imul, 1) := by decide +kernel
theorem dX7_findBest_147 : decode cX7_findBest 147 = .ok (.iload_n 3, 1) := by decide +kernel
theorem dX7_findBest_148 : decode cX7_findBest 148 = .ok (.iadd, 1) := by decide +kernel
theorem dX7_findBest_149 : decode cX7_findBest 149 = .ok (.iload 5, 2) := by decide +kernel
theorem dX7_findBest_151 : decode cX7_findBest 151 = .ok (.iadd, 1) := by decide +kernel
theorem dX7_findBest_152 : decode cX7_findBest 152 = .ok (.iaload, 1) := by decide +kernel
theorem dX7_findBest_153 : decode cX7_findBest 153 = .ok (.iadd, 1) := by decide +kernel
theorem dX7_findBest_154 : decode cX7_findBest 154 = .ok (.istore 6, 2) := by decide +kernel
theorem dX7_findBest_156 : decode cX7_findBest 156 = .ok (.iload 6, 2) := by decide +kernel
theorem dX7_findBest_158 : decode cX7_findBest 158 = .ok (.iload 4, 2) := by decide +kernel
theorem dX7_findBest_160 : decode cX7_findBest 160 = .ok (.if_icmp .le 8, 3) := by decide +kernel
theorem dX7_findBest_163 : decode cX7_findBest 163 = .ok (.iload 6, 2) := by decide +kernel
theorem dX7_findBest_165 : decode cX7_findBest 165 = .ok (.goto 5, 3) := by decide +kernel
theorem dX7_findBest_168 : decode cX7_findBest 168 = .ok (.iload 4, 2) := by decide +kernel
theorem dX7_findBest_170 : decode cX7_findBest 170 = .ok (.istore 4, 2) := by decide +kernel
theorem dX7_findBest_172 : decode cX7_findBest 172 = .ok (.iinc 5 1, 3) := by decide +kernel
theorem dX7_findBest_175 : decode cX7_findBest 175 = .ok (.goto (-106), 3) := by decide +kernel
theorem dX7_findBest_178 : decode cX7_findBest 178 = .ok (.aload_n 0, 1) := by decide +kernel
theorem dX7_findBest_179 : decode cX7_findBest 179 = .ok (.getfield 53, 3) := by decide +kernel
theorem dX7_findBest_182 : decode cX7_findBest 182 = .ok (.bipush 100, 2) := by decide +kernel
theorem dX7_findBest_184 : decode cX7_findBest 184 = .ok (.iload_n 2, 1) := by decide +kernel
theorem dX7_findBest_185 : decode cX7_findBest 185 = .ok (.imul, 1) := by decide +kernel
theorem dX7_findBest_186 : decode cX7_findBest 186 = .ok (.iload_n 3, 1) := by decide +kernel
theorem dX7_findBest_187 : decode cX7_findBest 187 = .ok (.iadd, 1) := by decide +kernel
theorem dX7_findBest_188 : decode cX7_findBest 188 = .ok (.iload 4, 2) := by decide +kernel
theorem dX7_findBest_190 : decode cX7_findBest 190 = .ok (.iastore, 1) := by decide +kernel
theorem dX7_findBest_191 : decode cX7_findBest 191 = .ok (.iinc 3 1, 3) := by decide +kernel
theorem dX7_findBest_194 : decode cX7_findBest 194 = .ok (.goto (-141), 3) := by decide +kernel
theorem dX7_findBest_197 : decode cX7_findBest 197 = .ok (.iinc 2 (-1), 3) := by decide +kernel
theorem dX7_findBest_200 : decode cX7_findBest 200 = .ok (.goto (-153), 3) := by decide +kernel
theorem dX7_findBest_203 : decode cX7_findBest 203 = .ok (.iconst 0, 1) := by decide +kernel
theorem dX7_findBest_204 : decode cX7_findBest 204 = .ok (.istore_n 2, 1) := by decide +kernel
theorem dX7_findBest_205 : decode cX7_findBest 205 = .ok (.iconst 0, 1) := by decide +kernel
theorem dX7_findBest_206 : decode cX7_findBest 206 = .ok (.istore_n 3, 1) := by decide +kernel
theorem dX7_findBest_207 : decode cX7_findBest 207 = .ok (.iload_n 3, 1) := by decide +kernel
theorem dX7_findBest_208 : decode cX7_findBest 208 = .ok (.bipush 24, 2) := by decide +kernel
theorem dX7_findBest_210 : decode cX7_findBest 210 = .ok (.if_icmp .ge 116, 3) := by decide +kernel
theorem dX7_findBest_213 : decode cX7_findBest 213 = .ok (.bipush (-2), 2) := by decide +kernel
theorem dX7_findBest_215 : decode cX7_findBest 215 = .ok (.istore 4, 2) := by decide +kernel
theorem dX7_findBest_217 : decode cX7_findBest 217 = .ok (.iload_n 2, 1) := by decide +kernel
theorem dX7_findBest_218 : decode cX7_findBest 218 = .ok (.iload 4, 2) := by decide +kernel
theorem dX7_findBest_220 : decode cX7_findBest 220 = .ok (.iadd, 1) := by decide +kernel
theorem dX7_findBest_221 : decode cX7_findBest 221 = .ok (.i2l, 1) := by decide +kernel
theorem dX7_findBest_222 : decode cX7_findBest 222 = .ok (.lconst 0, 1) := by decide +kernel
theorem dX7_findBest_223 : decode cX7_findBest 223 = .ok (.aload_n 0, 1) := by decide +kernel
theorem dX7_findBest_224 : decode cX7_findBest 224 = .ok (.getfield 34, 3) := by decide +kernel
theorem dX7_findBest_227 : decode cX7_findBest 227 = .ok (.i2l, 1) := by decide +kernel
theorem dX7_findBest_228 : decode cX7_findBest 228 = .ok (.invokestatic 80, 3) := by decide +kernel
theorem dX7_findBest_231 : decode cX7_findBest 231 = .ok (.ifCond .eq 70, 3) := by decide +kernel
theorem dX7_findBest_234 : decode cX7_findBest 234 = .ok (.aload_n 0, 1) := by decide +kernel
theorem dX7_findBest_235 : decode cX7_findBest 235 = .ok (.getfield 53, 3) := by decide +kernel
theorem dX7_findBest_238 : decode cX7_findBest 238 = .ok (.bipush 100, 2) := by decide +kernel
theorem dX7_findBest_240 : decode cX7_findBest 240 = .ok (.iload_n 3, 1) := by decide +kernel
theorem dX7_findBest_241 : decode cX7_findBest 241 = .ok (.iconst 1, 1) := by decide +kernel
theorem dX7_findBest_242 : decode cX7_findBest 242 = .ok (.iadd, 1) := by decide +kernel
theorem dX7_findBest_243 : decode cX7_findBest 243 = .ok (.imul, 1) := by decide +kernel
theorem dX7_findBest_244 : decode cX7_findBest 244 = .ok (.iload_n 2, 1) := by decide +kernel
theorem dX7_findBest_245 : decode cX7_findBest 245 = .ok (.iadd, 1) := by decide +kernel
theorem dX7_findBest_246 : decode cX7_findBest 246 = .ok (.iload 4, 2) := by decide +kernel
theorem dX7_findBest_248 : decode cX7_findBest 248 = .ok (.iadd, 1) := by decide +kernel
theorem dX7_findBest_249 : decode cX7_findBest 249 = .ok (.iaload, 1) := by decide +kernel
theorem dX7_findBest_250 : decode cX7_findBest 250 = .ok (.ldc 220, 2) := by decide +kernel
theorem dX7_findBest_252 : decode cX7_findBest 252 = .ok (.if_icmp .eq 49, 3) := by decide +kernel
theorem dX7_findBest_255 : decode cX7_findBest 255 = .ok (.aload_n 0, 1) := by decide +kernel
theorem dX7_findBest_256 : decode cX7_findBest 256 = .ok (.getfield 50, 3) := by decide +kernel
theorem dX7_findBest_259 : decode cX7_findBest 259 = .ok (.bipush 8, 2) := by decide +kernel
theorem dX7_findBest_261 : decode cX7_findBest 261 = .ok (.iload_n 3, 1) := by decide +kernel
theorem dX7_findBest_262 : decode cX7_findBest 262 = .ok (.imul, 1) := by decide +kernel
theorem dX7_findBest_263 : decode cX7_findBest 263 = .ok (.iload 4, 2) := by decide +kernel
theorem dX7_findBest_265 : decode cX7_findBest 265 = .ok (.iadd, 1) := by decide +kernel
theorem dX7_findBest_266 : decode cX7_findBest 266 = .ok (.bipush (-2), 2) := by decide +kernel
theorem dX7_findBest_268 : decode cX7_findBest 268 = .ok (.isub, 1) := by decide +kernel
theorem dX7_findBest_269 : decode cX7_findBest 269 = .ok (.iaload, 1) := by decide +kernel
theorem dX7_findBest_270 : decode cX7_findBest 270 = .ok (.aload_n 0, 1) := by decide +kernel
theorem dX7_findBest_271 : decode cX7_findBest 271 = .ok (.getfield 53, 3) := by decide +kernel
theorem dX7_findBest_274 : decode cX7_findBest 274 = .ok (.bipush 100, 2) := by decide +kernel
theorem dX7_findBest_276 : decode cX7_findBest 276 = .ok (.iload_n 3, 1) := by decide +kernel
theorem dX7_findBest_277 : decode cX7_findBest 277 = .ok (.iconst 1, 1) := by decide +kernel
theorem dX7_findBest_278 : decode cX7_findBest 278 = .ok (.iadd, 1) := by decide +kernel
theorem dX7_findBest_279 : decode cX7_findBest 279 = .ok (.imul, 1) := by decide +kernel
theorem dX7_findBest_280 : decode cX7_findBest 280 = .ok (.iload_n 2, 1) := by decide +kernel
theorem dX7_findBest_281 : decode cX7_findBest 281 = .ok (.iadd, 1) := by decide +kernel
theorem dX7_findBest_282 : decode cX7_findBest 282 = .ok (.iload 4, 2) := by decide +kernel
theorem dX7_findBest_284 : decode cX7_findBest 284 = .ok (.iadd, 1) := by decide +kernel
theorem dX7_findBest_285 : decode cX7_findBest 285 = .ok (.iaload, 1) := by decide +kernel
theorem dX7_findBest_286 : decode cX7_findBest 286 = .ok (.iadd, 1) := by decide +kernel
theorem dX7_findBest_287 : decode cX7_findBest 287 = .ok (.aload_n 0, 1) := by decide +kernel
theorem dX7_findBest_288 : decode cX7_findBest 288 = .ok (.getfield 53, 3) := by decide +kernel
theorem dX7_findBest_291 : decode cX7_findBest 291 = .ok (.bipush 100, 2) := by decide +kernel
theorem dX7_findBest_293 : decode cX7_findBest 293 = .ok (.iload_n 3, 1) := by decide +kernel
theorem dX7_findBest_294 : decode cX7_findBest 294 = .ok (.imul, 1) := by decide +kernel
theorem dX7_findBest_295 : decode cX7_findBest 295 = .ok (.iload_n 2, 1) := by decide +kernel
theorem dX7_findBest_296 : decode cX7_findBest 296 = .ok (.iadd, 1) := by decide +kernel
theorem dX7_findBest_297 : decode cX7_findBest 297 = .ok (.iaload, 1) := by decide +kernel
theorem dX7_findBest_298 : decode cX7_findBest 298 = .ok (.if_icmp .eq 9, 3) := by decide +kernel
theorem dX7_findBest_301 : decode cX7_findBest 301 = .ok (.iinc 4 1, 3) := by decide +kernel
theorem dX7_findBest_304 : decode cX7_findBest 304 = .ok (.goto (-87), 3) := by decide +kernel
theorem dX7_findBest_307 : decode cX7_findBest 307 = .ok (.aload_n 0, 1) := by decide +kernel
theorem dX7_findBest_308 : decode cX7_findBest 308 = .ok (.getfield 56, 3) := by decide +kernel
theorem dX7_findBest_311 : decode cX7_findBest 311 = .ok (.iload_n 3, 1) := by decide +kernel
theorem dX7_findBest_312 : decode cX7_findBest 312 = .ok (.iload 4, 2) := by decide +kernel
theorem dX7_findBest_314 : decode cX7_findBest 314 = .ok (.iastore, 1) := by decide +kernel
theorem dX7_findBest_315 : decode cX7_findBest 315 = .ok (.iload_n 2, 1) := by decide +kernel
theorem dX7_findBest_316 : decode cX7_findBest 316 = .ok (.iload 4, 2) := by decide +kernel
theorem dX7_findBest_318 : decode cX7_findBest 318 = .ok (.iadd, 1) := by decide +kernel
theorem dX7_findBest_319 : decode cX7_findBest 319 = .ok (.istore_n 2, 1) := by decide +kernel
theorem dX7_findBest_320 : decode cX7_findBest 320 = .ok (.iinc 3 1, 3) := by decide +kernel
theorem dX7_findBest_323 : decode cX7_findBest 323 = .ok (.goto (-116), 3) := by decide +kernel
theorem dX7_findBest_326 : decode cX7_findBest 326 = .ok (.aload_n 0, 1) := by decide +kernel
theorem dX7_findBest_327 : decode cX7_findBest 327 = .ok (.getfield 53, 3) := by decide +kernel
theorem dX7_findBest_330 : decode cX7_findBest 330 = .ok (.iconst 0, 1) := by decide +kernel
theorem dX7_findBest_331 : decode cX7_findBest 331 = .ok (.iaload, 1) := by decide +kernel
theorem dX7_findBest_332 : decode cX7_findBest 332 = .ok (.ireturn, 1) := by decide +kernel
theorem dX7_best_0 : decode cX7_best 0 = .ok (.iload_n 1, 1) := by decide +kernel
theorem dX7_best_1 : decode cX7_best 1 = .ok (.i2l, 1) := by decide +kernel
theorem dX7_best_2 : decode cX7_best 2 = .ok (.lconst 0, 1) := by decide +kernel
theorem dX7_best_3 : decode cX7_best 3 = .ok (.lconst 1, 1) := by decide +kernel
theorem dX7_best_4 : decode cX7_best 4 = .ok (.invokestatic 80, 3) := by decide +kernel
theorem dX7_best_7 : decode cX7_best 7 = .ok (.ifCond .eq 17, 3) := by decide +kernel
theorem dX7_best_10 : decode cX7_best 10 = .ok (.iload_n 2, 1) := by decide +kernel
theorem dX7_best_11 : decode cX7_best 11 = .ok (.i2l, 1) := by decide +kernel
theorem dX7_best_12 : decode cX7_best 12 = .ok (.ldc2_w 221, 3) := by decide +kernel
theorem dX7_best_15 : decode cX7_best 15 = .ok (.ldc2_w 78, 3) := by decide +kernel
theorem dX7_best_18 : decode cX7_best 18 = .ok (.invokestatic 80, 3) := by decide +kernel
theorem dX7_best_21 : decode cX7_best 21 = .ok (.ifCond .ne 6, 3) := by decide +kernel
theorem dX7_best_24 : decode cX7_best 24 = .ok (.ldc 135, 2) := by decide +kernel
theorem dX7_best_26 : decode cX7_best 26 = .ok (.ireturn, 1) := by decide +kernel
theorem dX7_best_27 : decode cX7_best 27 = .ok (.aload_n 0, 1) := by decide +kernel
theorem dX7_best_28 : decode cX7_best 28 = .ok (.iload_n 1, 1) := by decide +kernel
theorem dX7_best_29 : decode cX7_best 29 = .ok (.iconst 1, 1) := by decide +kernel
theorem dX7_best_30 : decode cX7_best 30 = .ok (.if_icmp .ne 7, 3) := by decide +kernel
theorem dX7_best_33 : decode cX7_best 33 = .ok (.iconst 1, 1) := by decide +kernel
theorem dX7_best_34 : decode cX7_best 34 = .ok (.goto 4, 3) := by decide +kernel
theorem dX7_best_37 : decode cX7_best 37 = .ok (.iconst 0, 1) := by decide +kernel
theorem dX7_best_38 : decode cX7_best 38 = .ok (.invokevirtual 223, 3) := by decide +kernel
theorem dX7_best_41 : decode cX7_best 41 = .ok (.istore_n 3, 1) := by decide +kernel
theorem dX7_best_42 : decode cX7_best 42 = .ok (.iload_n 2, 1) := by decide +kernel
theorem dX7_best_43 : decode cX7_best 43 = .ok (.ifCond .ge 7, 3) := by decide +kernel
theorem dX7_best_46 : decode cX7_best 46 = .ok (.iload_n 3, 1) := by decide +kernel
theorem dX7_best_47 : decode cX7_best 47 = .ok (.goto 9, 3) := by decide +kernel
theorem dX7_best_50 : decode cX7_best 50 = .ok (.aload_n 0, 1) := by decide +kernel
theorem dX7_best_51 : decode cX7_best 51 = .ok (.getfield 56, 3) := by decide +kernel
theorem dX7_best_54 : decode cX7_best 54 = .ok (.iload_n 2, 1) := by decide +kernel
theorem dX7_best_55 : decode cX7_best 55 = .ok (.iaload, 1) := by decide +kernel
theorem dX7_best_56 : decode cX7_best 56 = .ok (.ireturn, 1) := by decide +kernel
theorem dX7_spend_0 : decode cX7_spend 0 = .ok (.iload_n 1, 1) := by decide +kernel
theorem dX7_spend_1 : decode cX7_spend 1 = .ok (.i2l, 1) := by decide +kernel
theorem dX7_spend_2 : decode cX7_spend 2 = .ok (.lconst 1, 1) := by decide +kernel
theorem dX7_spend_3 : decode cX7_spend 3 = .ok (.ldc2_w 226, 3) := by decide +kernel
theorem dX7_spend_6 : decode cX7_spend 6 = .ok (.invokestatic 80, 3) := by decide +kernel
theorem dX7_spend_9 : decode cX7_spend 9 = .ok (.ifCond .ne 6, 3) := by decide +kernel
theorem dX7_spend_12 : decode cX7_spend 12 = .ok (.ldc 135, 2) := by decide +kernel
theorem dX7_spend_14 : decode cX7_spend 14 = .ok (.ireturn, 1) := by decide +kernel
theorem dX7_spend_15 : decode cX7_spend 15 = .ok (.aload_n 0, 1) := by decide +kernel
theorem dX7_spend_16 : decode cX7_spend 16 = .ok (.getfield 129, 3) := by decide +kernel
theorem dX7_spend_19 : decode cX7_spend 19 = .ok (.iload_n 1, 1) := by decide +kernel
theorem dX7_spend_20 : decode cX7_spend 20 = .ok (.iadd, 1) := by decide +kernel
theorem dX7_spend_21 : decode cX7_spend 21 = .ok (.sipush 9999, 3) := by decide +kernel
theorem dX7_spend_24 : decode cX7_spend 24 = .ok (.if_icmp .le 6, 3) := by decide +kernel
theorem dX7_spend_27 : decode cX7_spend 27 = .ok (.ldc 216, 2) := by decide +kernel
theorem dX7_spend_29 : decode cX7_spend 29 = .ok (.ireturn, 1) := by decide +kernel
theorem dX7_spend_30 : decode cX7_spend 30 = .ok (.iconst 0, 1) := by decide +kernel
theorem dX7_spend_31 : decode cX7_spend 31 = .ok (.istore_n 2, 1) := by decide +kernel
theorem dX7_spend_32 : decode cX7_spend 32 = .ok (.iconst 0, 1) := by decide +kernel
theorem dX7_spend_33 : decode cX7_spend 33 = .ok (.istore_n 3, 1) := by decide +kernel
theorem dX7_spend_34 : decode cX7_spend 34 = .ok (.iload_n 3, 1) := by decide +kernel
theorem dX7_spend_35 : decode cX7_spend 35 = .ok (.iload_n 1, 1) := by decide +kernel
theorem dX7_spend_36 : decode cX7_spend 36 = .ok (.if_icmp .ge 26, 3) := by decide +kernel
theorem dX7_spend_39 : decode cX7_spend 39 = .ok (.aload_n 0, 1) := by decide +kernel
theorem dX7_spend_40 : decode cX7_spend 40 = .ok (.iconst 0, 1) := by decide +kernel
theorem dX7_spend_41 : decode cX7_spend 41 = .ok (.invokevirtual 223, 3) := by decide +kernel
theorem dX7_spend_44 : decode cX7_spend 44 = .ok (.pop, 1) := by decide +kernel
theorem dX7_spend_45 : decode cX7_spend 45 = .ok (.iload_n 2, 1) := by decide +kernel
theorem dX7_spend_46 : decode cX7_spend 46 = .ok (.aload_n 0, 1) := by decide +kernel
theorem dX7_spend_47 : decode cX7_spend 47 = .ok (.aload_n 0, 1) := by decide +kernel
theorem dX7_spend_48 : decode cX7_spend 48 = .ok (.getfield 56, 3) := by decide +kernel
theorem dX7_spend_51 : decode cX7_spend 51 = .ok (.invokevirtual 217, 3) := by decide +kernel
theorem dX7_spend_54 : decode cX7_spend 54 = .ok (.iadd, 1) := by decide +kernel
theorem dX7_spend_55 : decode cX7_spend 55 = .ok (.istore_n 2, 1) := by decide +kernel
theorem dX7_spend_56 : decode cX7_spend 56 = .ok (.iinc 3 1, 3) := by decide +kernel
theorem dX7_spend_59 : decode cX7_spend 59 = .ok (.goto (-25), 3) := by decide +kernel
theorem dX7_spend_62 : decode cX7_spend 62 = .ok (.iload_n 2, 1) := by decide +kernel
theorem dX7_spend_63 : decode cX7_spend 63 = .ok (.ireturn, 1) := by decide +kernel
theorem dX7_share_0 : decode cX7_share 0 = .ok (.aload_n 0, 1) := by decide +kernel
theorem dX7_share_1 : decode cX7_share 1 = .ok (.iload_n 1, 1) := by decide +kernel
theorem dX7_share_2 : decode cX7_share 2 = .ok (.invokevirtual 103, 3) := by decide +kernel
theorem dX7_share_5 : decode cX7_share 5 = .ok (.ifCond .ne 5, 3) := by decide +kernel
theorem dX7_share_8 : decode cX7_share 8 = .ok (.iconst (-1), 1) := by decide +kernel
theorem dX7_share_9 : decode cX7_share 9 = .ok (.ireturn, 1) := by decide +kernel
theorem dX7_share_10 : decode cX7_share 10 = .ok (.aload_n 0, 1) := by decide +kernel
theorem dX7_share_11 : decode cX7_share 11 = .ok (.iconst 0, 1) := by decide +kernel
theorem dX7_share_12 : decode cX7_share 12 = .ok (.invokevirtual 223, 3) := by decide +kernel
theorem dX7_share_15 : decode cX7_share 15 = .ok (.istore_n 2, 1) := by decide +kernel
theorem dX7_share_16 : decode cX7_share 16 = .ok (.aload_n 0, 1) := by decide +kernel
theorem dX7_share_17 : decode cX7_share 17 = .ok (.getfield 19, 3) := by decide +kernel
theorem dX7_share_20 : decode cX7_share 20 = .ok (.iload_n 1, 1) := by decide +kernel
theorem dX7_share_21 : decode cX7_share 21 = .ok (.iaload, 1) := by decide +kernel
theorem dX7_share_22 : decode cX7_share 22 = .ok (.istore_n 3, 1) := by decide +kernel
theorem dX7_share_23 : decode cX7_share 23 = .ok (.aload_n 0, 1) := by decide +kernel
theorem dX7_share_24 : decode cX7_share 24 = .ok (.getfield 19, 3) := by decide +kernel
theorem dX7_share_27 : decode cX7_share 27 = .ok (.iload_n 1, 1) := by decide +kernel
theorem dX7_share_28 : decode cX7_share 28 = .ok (.iconst 0, 1) := by decide +kernel
theorem dX7_share_29 : decode cX7_share 29 = .ok (.iastore, 1) := by decide +kernel
theorem dX7_share_30 : decode cX7_share 30 = .ok (.aload_n 0, 1) := by decide +kernel
theorem dX7_share_31 : decode cX7_share 31 = .ok (.iconst 0, 1) := by decide +kernel
theorem dX7_share_32 : decode cX7_share 32 = .ok (.invokevirtual 223, 3) := by decide +kernel
theorem dX7_share_35 : decode cX7_share 35 = .ok (.istore 4, 2) := by decide +kernel
theorem dX7_share_37 : decode cX7_share 37 = .ok (.aload_n 0, 1) := by decide +kernel
theorem dX7_share_38 : decode cX7_share 38 = .ok (.getfield 19, 3) := by decide +kernel
theorem dX7_share_41 : decode cX7_share 41 = .ok (.iload_n 1, 1) := by decide +kernel
theorem dX7_share_42 : decode cX7_share 42 = .ok (.iload_n 3, 1) := by decide +kernel
theorem dX7_share_43 : decode cX7_share 43 = .ok (.iastore, 1) := by decide +kernel
theorem dX7_share_44 : decode cX7_share 44 = .ok (.iload_n 2, 1) := by decide +kernel
theorem dX7_share_45 : decode cX7_share 45 = .ok (.iload 4, 2) := by decide +kernel
theorem dX7_share_47 : decode cX7_share 47 = .ok (.isub, 1) := by decide +kernel
theorem dX7_share_48 : decode cX7_share 48 = .ok (.ireturn, 1) := by decide +kernel
theorem dX7_choiceOf_0 : decode cX7_choiceOf 0 = .ok (.bipush (-4), 2) := by decide +kernel
theorem dX7_choiceOf_2 : decode cX7_choiceOf 2 = .ok (.istore_n 2, 1) := by decide +kernel
theorem dX7_choiceOf_3 : decode cX7_choiceOf 3 = .ok (.iconst 0, 1) := by decide +kernel
theorem dX7_choiceOf_4 : decode cX7_choiceOf 4 = .ok (.istore_n 3, 1) := by decide +kernel
theorem dX7_choiceOf_5 : decode cX7_choiceOf 5 = .ok (.iconst 0, 1) := by decide +kernel
theorem dX7_choiceOf_6 : decode cX7_choiceOf 6 = .ok (.istore 4, 2) := by decide +kernel
theorem dX7_choiceOf_8 : decode cX7_choiceOf 8 = .ok (.iload 4, 2) := by decide +kernel
theorem dX7_choiceOf_10 : decode cX7_choiceOf 10 = .ok (.bipush 24, 2) := by decide +kernel
theorem dX7_choiceOf_12 : decode cX7_choiceOf 12 = .ok (.if_icmp .ge 55, 3) := by decide +kernel
theorem dX7_choiceOf_15 : decode cX7_choiceOf 15 = .ok (.aload_n 0, 1) := by decide +kernel
theorem dX7_choiceOf_16 : decode cX7_choiceOf 16 = .ok (.getfield 19, 3) := by decide +kernel
theorem dX7_choiceOf_19 : decode cX7_choiceOf 19 = .ok (.iload_n 1, 1) := by decide +kernel
theorem dX7_choiceOf_20 : decode cX7_choiceOf 20 = .ok (.iaload, 1) := by decide +kernel
theorem dX7_choiceOf_21 : decode cX7_choiceOf 21 = .ok (.iconst 1, 1) := by decide +kernel
theorem dX7_choiceOf_22 : decode cX7_choiceOf 22 = .ok (.if_icmp .ne 45, 3) := by decide +kernel
theorem dX7_choiceOf_25 : decode cX7_choiceOf 25 = .ok (.aload_n 0, 1) := by decide +kernel
theorem dX7_choiceOf_26 : decode cX7_choiceOf 26 = .ok (.iload_n 1, 1) := by decide +kernel
theorem dX7_choiceOf_27 : decode cX7_choiceOf 27 = .ok (.iload 4, 2) := by decide +kernel
theorem dX7_choiceOf_29 : decode cX7_choiceOf 29 = .ok (.iconst 0, 1) := by decide +kernel
theorem dX7_choiceOf_30 : decode cX7_choiceOf 30 = .ok (.invokevirtual 112, 3) := by decide +kernel
theorem dX7_choiceOf_33 : decode cX7_choiceOf 33 = .ok (.istore 5, 2) := by decide +kernel
theorem dX7_choiceOf_35 : decode cX7_choiceOf 35 = .ok (.iload 5, 2) := by decide +kernel
theorem dX7_choiceOf_37 : decode cX7_choiceOf 37 = .ok (.iload_n 3, 1) := by decide +kernel
theorem dX7_choiceOf_38 : decode cX7_choiceOf 38 = .ok (.if_icmp .le 8, 3) := by decide +kernel
theorem dX7_choiceOf_41 : decode cX7_choiceOf 41 = .ok (.iload 4, 2) := by decide +kernel
theorem dX7_choiceOf_43 : decode cX7_choiceOf 43 = .ok (.goto 4, 3) := by decide +kernel
theorem dX7_choiceOf_46 : decode cX7_choiceOf 46 = .ok (.iload_n 2, 1) := by decide +kernel
theorem dX7_choiceOf_47 : decode cX7_choiceOf 47 = .ok (.istore_n 2, 1) := by decide +kernel
theorem dX7_choiceOf_48 : decode cX7_choiceOf 48 = .ok (.iload 5, 2) := by decide +kernel
theorem dX7_choiceOf_50 : decode cX7_choiceOf 50 = .ok (.iload_n 3, 1) := by decide +kernel
theorem dX7_choiceOf_51 : decode cX7_choiceOf 51 = .ok (.if_icmp .le 8, 3) := by decide +kernel
theorem dX7_choiceOf_54 : decode cX7_choiceOf 54 = .ok (.iload 5, 2) := by decide +kernel
theorem dX7_choiceOf_56 : decode cX7_choiceOf 56 = .ok (.goto 4, 3) := by decide +kernel
theorem dX7_choiceOf_59 : decode cX7_choiceOf 59 = .ok (.iload_n 3, 1) := by decide +kernel
theorem dX7_choiceOf_60 : decode cX7_choiceOf 60 = .ok (.istore_n 3, 1) := by decide +kernel
theorem dX7_choiceOf_61 : decode cX7_choiceOf 61 = .ok (.iinc 4 1, 3) := by decide +kernel
theorem dX7_choiceOf_64 : decode cX7_choiceOf 64 = .ok (.goto (-56), 3) := by decide +kernel
theorem dX7_choiceOf_67 : decode cX7_choiceOf 67 = .ok (.iload_n 2, 1) := by decide +kernel
theorem dX7_choiceOf_68 : decode cX7_choiceOf 68 = .ok (.ireturn, 1) := by decide +kernel
theorem dX7_choice_0 : decode cX7_choice 0 = .ok (.aload_n 0, 1) := by decide +kernel
theorem dX7_choice_1 : decode cX7_choice 1 = .ok (.iload_n 1, 1) := by decide +kernel
theorem dX7_choice_2 : decode cX7_choice 2 = .ok (.invokevirtual 103, 3) := by decide +kernel
theorem dX7_choice_5 : decode cX7_choice 5 = .ok (.ifCond .eq 11, 3) := by decide +kernel
theorem dX7_choice_8 : decode cX7_choice 8 = .ok (.aload_n 0, 1) := by decide +kernel
theorem dX7_choice_9 : decode cX7_choice 9 = .ok (.iload_n 1, 1) := by decide +kernel
theorem dX7_choice_10 : decode cX7_choice 10 = .ok (.invokevirtual 228, 3) := by decide +kernel
theorem dX7_choice_13 : decode cX7_choice 13 = .ok (.goto 4, 3) := by decide +kernel
theorem dX7_choice_16 : decode cX7_choice 16 = .ok (.iconst (-1), 1) := by decide +kernel
theorem dX7_choice_17 : decode cX7_choice 17 = .ok (.ireturn, 1) := by decide +kernel
theorem dX7_vote_0 : decode cX7_vote 0 = .ok (.iload_n 1, 1) := by decide +kernel
theorem dX7_vote_1 : decode cX7_vote 1 = .ok (.i2l, 1) := by decide +kernel
theorem dX7_vote_2 : decode cX7_vote 2 = .ok (.lconst 0, 1) := by decide +kernel
theorem dX7_vote_3 : decode cX7_vote 3 = .ok (.ldc2_w 183, 3) := by decide +kernel
theorem dX7_vote_6 : decode cX7_vote 6 = .ok (.invokestatic 80, 3) := by decide +kernel
theorem dX7_vote_9 : decode cX7_vote 9 = .ok (.ifCond .ne 5, 3) := by decide +kernel
theorem dX7_vote_12 : decode cX7_vote 12 = .ok (.iconst (-1), 1) := by decide +kernel
theorem dX7_vote_13 : decode cX7_vote 13 = .ok (.ireturn, 1) := by decide +kernel
theorem dX7_vote_14 : decode cX7_vote 14 = .ok (.bipush (-4), 2) := by decide +kernel
theorem dX7_vote_16 : decode cX7_vote 16 = .ok (.istore_n 2, 1) := by decide +kernel
theorem dX7_vote_17 : decode cX7_vote 17 = .ok (.iconst 0, 1) := by decide +kernel
theorem dX7_vote_18 : decode cX7_vote 18 = .ok (.istore_n 3, 1) := by decide +kernel
theorem dX7_vote_19 : decode cX7_vote 19 = .ok (.iconst 0, 1) := by decide +kernel
theorem dX7_vote_20 : decode cX7_vote 20 = .ok (.istore 4, 2) := by decide +kernel
theorem dX7_vote_22 : decode cX7_vote 22 = .ok (.iload 4, 2) := by decide +kernel
theorem dX7_vote_24 : decode cX7_vote 24 = .ok (.bipush 24, 2) := by decide +kernel
theorem dX7_vote_26 : decode cX7_vote 26 = .ok (.if_icmp .ge 135, 3) := by decide +kernel
theorem dX7_vote_29 : decode cX7_vote 29 = .ok (.iconst 0, 1) := by decide +kernel
theorem dX7_vote_30 : decode cX7_vote 30 = .ok (.istore 5, 2) := by decide +kernel
theorem dX7_vote_32 : decode cX7_vote 32 = .ok (.iconst 0, 1) := by decide +kernel
theorem dX7_vote_33 : decode cX7_vote 33 = .ok (.istore 6, 2) := by decide +kernel
theorem dX7_vote_35 : decode cX7_vote 35 = .ok (.iload 6, 2) := by decide +kernel
theorem dX7_vote_37 : decode cX7_vote 37 = .ok (.aload_n 0, 1) := by decide +kernel
theorem dX7_vote_38 : decode cX7_vote 38 = .ok (.getfield 84, 3) := by decide +kernel
theorem dX7_vote_41 : decode cX7_vote 41 = .ok (.if_icmp .ge 88, 3) := by decide +kernel
theorem dX7_vote_44 : decode cX7_vote 44 = .ok (.aload_n 0, 1) := by decide +kernel
theorem dX7_vote_45 : decode cX7_vote 45 = .ok (.iload 6, 2) := by decide +kernel
theorem dX7_vote_47 : decode cX7_vote 47 = .ok (.invokevirtual 228, 3) := by decide +kernel
theorem dX7_vote_50 : decode cX7_vote 50 = .ok (.iload 4, 2) := by decide +kernel
theorem dX7_vote_52 : decode cX7_vote 52 = .ok (.if_icmp .ne 7, 3) := by decide +kernel
theorem dX7_vote_55 : decode cX7_vote 55 = .ok (.iconst 1, 1) := by decide +kernel
theorem dX7_vote_56 : decode cX7_vote 56 = .ok (.goto 4, 3) := by decide +kernel
theorem dX7_vote_59 : decode cX7_vote 59 = .ok (.iconst 0, 1) := by decide +kernel
theorem dX7_vote_60 : decode cX7_vote 60 = .ok (.istore 7, 2) := by decide +kernel
theorem dX7_vote_62 : decode cX7_vote 62 = .ok (.iload 5, 2) := by decide +kernel
theorem dX7_vote_64 : decode cX7_vote 64 = .ok (.iload_n 1, 1) := by decide +kernel
theorem dX7_vote_65 : decode cX7_vote 65 = .ok (.iconst 2, 1) := by decide +kernel
theorem dX7_vote_66 : decode cX7_vote 66 = .ok (.if_icmp .ne 30, 3) := by decide +kernel
theorem dX7_vote_69 : decode cX7_vote 69 = .ok (.aload_n 0, 1) := by decide +kernel
theorem dX7_vote_70 : decode cX7_vote 70 = .ok (.getfield 19, 3) := by decide +kernel
theorem dX7_vote_73 : decode cX7_vote 73 = .ok (.iload 6, 2) := by decide +kernel
theorem dX7_vote_75 : decode cX7_vote 75 = .ok (.iaload, 1) := by decide +kernel
theorem dX7_vote_76 : decode cX7_vote 76 = .ok (.iconst 1, 1) := by decide +kernel
theorem dX7_vote_77 : decode cX7_vote 77 = .ok (.if_icmp .ne 15, 3) := by decide +kernel
theorem dX7_vote_80 : decode cX7_vote 80 = .ok (.aload_n 0, 1) := by decide +kernel
theorem dX7_vote_81 : decode cX7_vote 81 = .ok (.iload 6, 2) := by decide +kernel
theorem dX7_vote_83 : decode cX7_vote 83 = .ok (.iload 4, 2) := by decide +kernel
theorem dX7_vote_85 : decode cX7_vote 85 = .ok (.iconst 0, 1) := by decide +kernel
theorem dX7_vote_86 : decode cX7_vote 86 = .ok (.invokevirtual 112, 3) := by decide +kernel
theorem dX7_vote_89 : decode cX7_vote 89 = .ok (.goto 31, 3) := by decide +kernel
theorem dX7_vote_92 : decode cX7_vote 92 = .ok (.iconst 0, 1) := by decide +kernel
theorem dX7_vote_93 : decode cX7_vote 93 = .ok (.goto 27, 3) := by decide +kernel
theorem dX7_vote_96 : decode cX7_vote 96 = .ok (.iload 7, 2) := by decide +kernel
theorem dX7_vote_98 : decode cX7_vote 98 = .ok (.ifCond .ne 7, 3) := by decide +kernel
theorem dX7_vote_101 : decode cX7_vote 101 = .ok (.iconst 0, 1) := by decide +kernel
theorem dX7_vote_102 : decode cX7_vote 102 = .ok (.goto 18, 3) := by decide +kernel
theorem dX7_vote_105 : decode cX7_vote 105 = .ok (.iload_n 1, 1) := by decide +kernel
theorem dX7_vote_106 : decode cX7_vote 106 = .ok (.ifCond .ne 7, 3) := by decide +kernel
theorem dX7_vote_109 : decode cX7_vote 109 = .ok (.iconst 1, 1) := by decide +kernel
theorem dX7_vote_110 : decode cX7_vote 110 = .ok (.goto 10, 3) := by decide +kernel
theorem dX7_vote_113 : decode cX7_vote 113 = .ok (.aload_n 0, 1) := by decide +kernel
theorem dX7_vote_114 : decode cX7_vote 114 = .ok (.getfield 16, 3) := by decide +kernel
theorem dX7_vote_117 : decode cX7_vote 117 = .ok (.iload 6, 2) := by decide +kernel
theorem dX7_vote_119 : decode cX7_vote 119 = .ok (.iaload, 1) := by decide +kernel
theorem dX7_vote_120 : decode cX7_vote 120 = .ok (.iadd, 1) := by decide +kernel
theorem dX7_vote_121 : decode cX7_vote 121 = .ok (.istore 5, 2) := by decide +kernel
theorem dX7_vote_123 : decode cX7_vote 123 = .ok (.iinc 6 1, 3) := by decide +kernel
theorem dX7_vote_126 : decode cX7_vote 126 = .ok (.goto (-91), 3) := by decide +kernel
theorem dX7_vote_129 : decode cX7_vote 129 = .ok (.iload 5, 2) := by decide +kernel
theorem dX7_vote_131 : decode cX7_vote 131 = .ok (.iload_n 3, 1) := by decide +kernel
theorem dX7_vote_132 : decode cX7_vote 132 = .ok (.if_icmp .le 8, 3) := by decide +kernel
theorem dX7_vote_135 : decode cX7_vote 135 = .ok (.iload 4, 2) := by decide +kernel
theorem dX7_vote_137 : decode cX7_vote 137 = .ok (.goto 4, 3) := by decide +kernel
theorem dX7_vote_140 : decode cX7_vote 140 = .ok (.iload_n 2, 1) := by decide +kernel
theorem dX7_vote_141 : decode cX7_vote 141 = .ok (.istore_n 2, 1) := by decide +kernel
theorem dX7_vote_142 : decode cX7_vote 142 = .ok (.iload 5, 2) := by decide +kernel
theorem dX7_vote_144 : decode cX7_vote 144 = .ok (.iload_n 3, 1) := by decide +kernel
theorem dX7_vote_145 : decode cX7_vote 145 = .ok (.if_icmp .le 8, 3) := by decide +kernel
theorem dX7_vote_148 : decode cX7_vote 148 = .ok (.iload 5, 2) := by decide +kernel
theorem dX7_vote_150 : decode cX7_vote 150 = .ok (.goto 4, 3) := by decide +kernel
theorem dX7_vote_153 : decode cX7_vote 153 = .ok (.iload_n 3, 1) := by decide +kernel
theorem dX7_vote_154 : decode cX7_vote 154 = .ok (.istore_n 3, 1) := by decide +kernel
theorem dX7_vote_155 : decode cX7_vote 155 = .ok (.iinc 4 1, 3) := by decide +kernel
theorem dX7_vote_158 : decode cX7_vote 158 = .ok (.goto (-136), 3) := by decide +kernel
theorem dX7_vote_161 : decode cX7_vote 161 = .ok (.iload_n 2, 1) := by decide +kernel
theorem dX7_vote_162 : decode cX7_vote 162 = .ok (.ireturn, 1) := by decide +kernel
theorem dX7_drawRow_0 : decode cX7_drawRow 0 = .ok (.iconst 0, 1) := by decide +kernel
theorem dX7_drawRow_1 : decode cX7_drawRow 1 = .ok (.istore_n 1, 1) := by decide +kernel
theorem dX7_drawRow_2 : decode cX7_drawRow 2 = .ok (.iconst 0, 1) := by decide +kernel
theorem dX7_drawRow_3 : decode cX7_drawRow 3 = .ok (.istore_n 2, 1) := by decide +kernel
theorem dX7_drawRow_4 : decode cX7_drawRow 4 = .ok (.iload_n 2, 1) := by decide +kernel
theorem dX7_drawRow_5 : decode cX7_drawRow 5 = .ok (.bipush 24, 2) := by decide +kernel
theorem dX7_drawRow_7 : decode cX7_drawRow 7 = .ok (.if_icmp .ge 112, 3) := by decide +kernel
theorem dX7_drawRow_10 : decode cX7_drawRow 10 = .ok (.aload_n 0, 1) := by decide +kernel
theorem dX7_drawRow_11 : decode cX7_drawRow 11 = .ok (.aload_n 0, 1) := by decide +kernel
theorem dX7_drawRow_12 : decode cX7_drawRow 12 = .ok (.getfield 41, 3) := by decide +kernel
theorem dX7_drawRow_15 : decode cX7_drawRow 15 = .ok (.i2l, 1) := by decide +kernel
theorem dX7_drawRow_16 : decode cX7_drawRow 16 = .ok (.ldc2_w 231, 3) := by decide +kernel
theorem dX7_drawRow_19 : decode cX7_drawRow 19 = .ok (.lmul, 1) := by decide +kernel
theorem dX7_drawRow_20 : decode cX7_drawRow 20 = .ok (.ldc2_w 233, 3) := by decide +kernel
theorem dX7_drawRow_23 : decode cX7_drawRow 23 = .ok (.ladd, 1) := by decide +kernel
theorem dX7_drawRow_24 : decode cX7_drawRow 24 = .ok (.ldc2_w 235, 3) := by decide +kernel
theorem dX7_drawRow_27 : decode cX7_drawRow 27 = .ok (.land, 1) := by decide +kernel
theorem dX7_drawRow_28 : decode cX7_drawRow 28 = .ok (.l2i, 1) := by decide +kernel
theorem dX7_drawRow_29 : decode cX7_drawRow 29 = .ok (.putfield 41, 3) := by decide +kernel
theorem dX7_drawRow_32 : decode cX7_drawRow 32 = .ok (.aload_n 0, 1) := by decide +kernel
theorem dX7_drawRow_33 : decode cX7_drawRow 33 = .ok (.getfield 41, 3) := by decide +kernel
theorem dX7_drawRow_36 : decode cX7_drawRow 36 = .ok (.ldc 237, 2) := by decide +kernel
theorem dX7_drawRow_38 : decode cX7_drawRow 38 = .ok (.idiv, 1) := by decide +kernel
theorem dX7_drawRow_39 : decode cX7_drawRow 39 = .ok (.bipush 8, 2) := by decide +kernel
theorem dX7_drawRow_41 : decode cX7_drawRow 41 = .ok (.irem, 1) := by decide +kernel
theorem dX7_drawRow_42 : decode cX7_drawRow 42 = .ok (.bipush (-2), 2) := by decide +kernel
theorem dX7_drawRow_44 : decode cX7_drawRow 44 = .ok (.iadd, 1) := by decide +kernel
theorem dX7_drawRow_45 : decode cX7_drawRow 45 = .ok (.istore_n 3, 1) := by decide +kernel
theorem dX7_drawRow_46 : decode cX7_drawRow 46 = .ok (.iload_n 1, 1) := by decide +kernel
theorem dX7_drawRow_47 : decode cX7_drawRow 47 = .ok (.iload_n 3, 1) := by decide +kernel
theorem dX7_drawRow_48 : decode cX7_drawRow 48 = .ok (.iadd, 1) := by decide +kernel
theorem dX7_drawRow_49 : decode cX7_drawRow 49 = .ok (.i2l, 1) := by decide +kernel
theorem dX7_drawRow_50 : decode cX7_drawRow 50 = .ok (.lconst 0, 1) := by decide +kernel
theorem dX7_drawRow_51 : decode cX7_drawRow 51 = .ok (.aload_n 0, 1) := by decide +kernel
theorem dX7_drawRow_52 : decode cX7_drawRow 52 = .ok (.getfield 34, 3) := by decide +kernel
theorem dX7_drawRow_55 : decode cX7_drawRow 55 = .ok (.i2l, 1) := by decide +kernel
theorem dX7_drawRow_56 : decode cX7_drawRow 56 = .ok (.invokestatic 80, 3) := by decide +kernel
theorem dX7_drawRow_59 : decode cX7_drawRow 59 = .ok (.ifCond .eq 26, 3) := by decide +kernel
theorem dX7_drawRow_62 : decode cX7_drawRow 62 = .ok (.iload_n 2, 1) := by decide +kernel
theorem dX7_drawRow_63 : decode cX7_drawRow 63 = .ok (.bipush 23, 2) := by decide +kernel
theorem dX7_drawRow_65 : decode cX7_drawRow 65 = .ok (.if_icmp .eq 16, 3) := by decide +kernel
theorem dX7_drawRow_68 : decode cX7_drawRow 68 = .ok (.aload_n 0, 1) := by decide +kernel
theorem dX7_drawRow_69 : decode cX7_drawRow 69 = .ok (.iload_n 2, 1) := by decide +kernel
theorem dX7_drawRow_70 : decode cX7_drawRow 70 = .ok (.iconst 1, 1) := by decide +kernel
theorem dX7_drawRow_71 : decode cX7_drawRow 71 = .ok (.iadd, 1) := by decide +kernel
theorem dX7_drawRow_72 : decode cX7_drawRow 72 = .ok (.iload_n 1, 1) := by decide +kernel
theorem dX7_drawRow_73 : decode cX7_drawRow 73 = .ok (.iload_n 3, 1) := by decide +kernel
theorem dX7_drawRow_74 : decode cX7_drawRow 74 = .ok (.iadd, 1) := by decide +kernel
theorem dX7_drawRow_75 : decode cX7_drawRow 75 = .ok (.invokevirtual 208, 3) := by decide +kernel
theorem dX7_drawRow_78 : decode cX7_drawRow 78 = .ok (.ifCond .eq 7, 3) := by decide +kernel
theorem dX7_drawRow_81 : decode cX7_drawRow 81 = .ok (.iconst 1, 1) := by decide +kernel
theorem dX7_drawRow_82 : decode cX7_drawRow 82 = .ok (.goto 4, 3) := by decide +kernel
theorem dX7_drawRow_85 : decode cX7_drawRow 85 = .ok (.iconst 0, 1) := by decide +kernel
theorem dX7_drawRow_86 : decode cX7_drawRow 86 = .ok (.istore 4, 2) := by decide +kernel
theorem dX7_drawRow_88 : decode cX7_drawRow 88 = .ok (.aload_n 0, 1) := by decide +kernel
theorem dX7_drawRow_89 : decode cX7_drawRow 89 = .ok (.getfield 56, 3) := by decide +kernel
theorem dX7_drawRow_92 : decode cX7_drawRow 92 = .ok (.iload_n 2, 1) := by decide +kernel
theorem dX7_drawRow_93 : decode cX7_drawRow 93 = .ok (.iload 4, 2) := by decide +kernel
theorem dX7_drawRow_95 : decode cX7_drawRow 95 = .ok (.ifCond .eq 7, 3) := by decide +kernel
theorem dX7_drawRow_98 : decode cX7_drawRow 98 = .ok (.iload_n 3, 1) := by decide +kernel
theorem dX7_drawRow_99 : decode cX7_drawRow 99 = .ok (.goto 4, 3) := by decide +kernel
theorem dX7_drawRow_102 : decode cX7_drawRow 102 = .ok (.iconst 0, 1) := by decide +kernel
theorem dX7_drawRow_103 : decode cX7_drawRow 103 = .ok (.iastore, 1) := by decide +kernel
theorem dX7_drawRow_104 : decode cX7_drawRow 104 = .ok (.iload_n 1, 1) := by decide +kernel
theorem dX7_drawRow_105 : decode cX7_drawRow 105 = .ok (.aload_n 0, 1) := by decide +kernel
theorem dX7_drawRow_106 : decode cX7_drawRow 106 = .ok (.getfield 56, 3) := by decide +kernel
theorem dX7_drawRow_109 : decode cX7_drawRow 109 = .ok (.iload_n 2, 1) := by decide +kernel
theorem dX7_drawRow_110 : decode cX7_drawRow 110 = .ok (.iaload, 1) := by decide +kernel
theorem dX7_drawRow_111 : decode cX7_drawRow 111 = .ok (.iadd, 1) := by decide +kernel
theorem dX7_drawRow_112 : decode cX7_drawRow 112 = .ok (.istore_n 1, 1) := by decide +kernel
theorem dX7_drawRow_113 : decode cX7_drawRow 113 = .ok (.iinc 2 1, 3) := by decide +kernel
theorem dX7_drawRow_116 : decode cX7_drawRow 116 = .ok (.goto (-112), 3) := by decide +kernel
theorem dX7_drawRow_119 : decode cX7_drawRow 119 = .ok (.aload_n 0, 1) := by decide +kernel
theorem dX7_drawRow_120 : decode cX7_drawRow 120 = .ok (.aload_n 0, 1) := by decide +kernel
theorem dX7_drawRow_121 : decode cX7_drawRow 121 = .ok (.getfield 56, 3) := by decide +kernel
theorem dX7_drawRow_124 : decode cX7_drawRow 124 = .ok (.invokevirtual 212, 3) := by decide +kernel
theorem dX7_drawRow_127 : decode cX7_drawRow 127 = .ok (.ifCond .lt 24, 3) := by decide +kernel
theorem dX7_drawRow_130 : decode cX7_drawRow 130 = .ok (.iconst 0, 1) := by decide +kernel
theorem dX7_drawRow_131 : decode cX7_drawRow 131 = .ok (.istore_n 2, 1) := by decide +kernel
theorem dX7_drawRow_132 : decode cX7_drawRow 132 = .ok (.iload_n 2, 1) := by decide +kernel
theorem dX7_drawRow_133 : decode cX7_drawRow 133 = .ok (.bipush 24, 2) := by decide +kernel
theorem dX7_drawRow_135 : decode cX7_drawRow 135 = .ok (.if_icmp .ge 16, 3) := by decide +kernel
theorem dX7_drawRow_138 : decode cX7_drawRow 138 = .ok (.aload_n 0, 1) := by decide +kernel
theorem dX7_drawRow_139 : decode cX7_drawRow 139 = .ok (.getfield 56, 3) := by decide +kernel
theorem dX7_drawRow_142 : decode cX7_drawRow 142 = .ok (.iload_n 2, 1) := by decide +kernel
theorem dX7_drawRow_143 : decode cX7_drawRow 143 = .ok (.iconst 0, 1) := by decide +kernel
theorem dX7_drawRow_144 : decode cX7_drawRow 144 = .ok (.iastore, 1) := by decide +kernel
theorem dX7_drawRow_145 : decode cX7_drawRow 145 = .ok (.iinc 2 1, 3) := by decide +kernel
theorem dX7_drawRow_148 : decode cX7_drawRow 148 = .ok (.goto (-16), 3) := by decide +kernel
theorem dX7_drawRow_151 : decode cX7_drawRow 151 = .ok (.return_, 1) := by decide +kernel
theorem dX7_lots_0 : decode cX7_lots 0 = .ok (.iload_n 1, 1) := by decide +kernel
theorem dX7_lots_1 : decode cX7_lots 1 = .ok (.i2l, 1) := by decide +kernel
theorem dX7_lots_2 : decode cX7_lots 2 = .ok (.lconst 1, 1) := by decide +kernel
theorem dX7_lots_3 : decode cX7_lots 3 = .ok (.ldc2_w 226, 3) := by decide +kernel
theorem dX7_lots_6 : decode cX7_lots 6 = .ok (.invokestatic 80, 3) := by decide +kernel
theorem dX7_lots_9 : decode cX7_lots 9 = .ok (.ifCond .ne 6, 3) := by decide +kernel
theorem dX7_lots_12 : decode cX7_lots 12 = .ok (.ldc 135, 2) := by decide +kernel
theorem dX7_lots_14 : decode cX7_lots 14 = .ok (.ireturn, 1) := by decide +kernel
theorem dX7_lots_15 : decode cX7_lots 15 = .ok (.aload_n 0, 1) := by decide +kernel
theorem dX7_lots_16 : decode cX7_lots 16 = .ok (.getfield 129, 3) := by decide +kernel
theorem dX7_lots_19 : decode cX7_lots 19 = .ok (.iload_n 1, 1) := by decide +kernel
theorem dX7_lots_20 : decode cX7_lots 20 = .ok (.iadd, 1) := by decide +kernel
theorem dX7_lots_21 : decode cX7_lots 21 = .ok (.sipush 9999, 3) := by decide +kernel
theorem dX7_lots_24 : decode cX7_lots 24 = .ok (.if_icmp .le 6, 3) := by decide +kernel
theorem dX7_lots_27 : decode cX7_lots 27 = .ok (.ldc 216, 2) := by decide +kernel
theorem dX7_lots_29 : decode cX7_lots 29 = .ok (.ireturn, 1) := by decide +kernel
theorem dX7_lots_30 : decode cX7_lots 30 = .ok (.iconst 0, 1) := by decide +kernel
theorem dX7_lots_31 : decode cX7_lots 31 = .ok (.istore_n 2, 1) := by decide +kernel
theorem dX7_lots_32 : decode cX7_lots 32 = .ok (.iconst 0, 1) := by decide +kernel
theorem dX7_lots_33 : decode cX7_lots 33 = .ok (.istore_n 3, 1) := by decide +kernel
theorem dX7_lots_34 : decode cX7_lots 34 = .ok (.iload_n 3, 1) := by decide +kernel
theorem dX7_lots_35 : decode cX7_lots 35 = .ok (.iload_n 1, 1) := by decide +kernel
theorem dX7_lots_36 : decode cX7_lots 36 = .ok (.if_icmp .ge 24, 3) := by decide +kernel
theorem dX7_lots_39 : decode cX7_lots 39 = .ok (.aload_n 0, 1) := by decide +kernel
theorem dX7_lots_40 : decode cX7_lots 40 = .ok (.invokevirtual 238, 3) := by decide +kernel
theorem dX7_lots_43 : decode cX7_lots 43 = .ok (.iload_n 2, 1) := by decide +kernel
theorem dX7_lots_44 : decode cX7_lots 44 = .ok (.aload_n 0, 1) := by decide +kernel
theorem dX7_lots_45 : decode cX7_lots 45 = .ok (.aload_n 0, 1) := by decide +kernel
theorem dX7_lots_46 : decode cX7_lots 46 = .ok (.getfield 56, 3) := by decide +kernel
theorem dX7_lots_49 : decode cX7_lots 49 = .ok (.invokevirtual 217, 3) := by decide +kernel
theorem dX7_lots_52 : decode cX7_lots 52 = .ok (.iadd, 1) := by decide +kernel
theorem dX7_lots_53 : decode cX7_lots 53 = .ok (.istore_n 2, 1) := by decide +kernel
theorem dX7_lots_54 : decode cX7_lots 54 = .ok (.iinc 3 1, 3) := by decide +kernel
theorem dX7_lots_57 : decode cX7_lots 57 = .ok (.goto (-23), 3) := by decide +kernel
theorem dX7_lots_60 : decode cX7_lots 60 = .ok (.iload_n 2, 1) := by decide +kernel
theorem dX7_lots_61 : decode cX7_lots 61 = .ok (.ireturn, 1) := by decide +kernel
theorem dX7_seed_0 : decode cX7_seed 0 = .ok (.iload_n 1, 1) := by decide +kernel
theorem dX7_seed_1 : decode cX7_seed 1 = .ok (.ifCond .ge 5, 3) := by decide +kernel
theorem dX7_seed_4 : decode cX7_seed 4 = .ok (.iconst (-1), 1) := by decide +kernel
theorem dX7_seed_5 : decode cX7_seed 5 = .ok (.ireturn, 1) := by decide +kernel
theorem dX7_seed_6 : decode cX7_seed 6 = .ok (.aload_n 0, 1) := by decide +kernel
theorem dX7_seed_7 : decode cX7_seed 7 = .ok (.getfield 41, 3) := by decide +kernel
theorem dX7_seed_10 : decode cX7_seed 10 = .ok (.istore_n 2, 1) := by decide +kernel
theorem dX7_seed_11 : decode cX7_seed 11 = .ok (.aload_n 0, 1) := by decide +kernel
theorem dX7_seed_12 : decode cX7_seed 12 = .ok (.iload_n 1, 1) := by decide +kernel
theorem dX7_seed_13 : decode cX7_seed 13 = .ok (.putfield 41, 3) := by decide +kernel
theorem dX7_seed_16 : decode cX7_seed 16 = .ok (.iload_n 2, 1) := by decide +kernel
theorem dX7_seed_17 : decode cX7_seed 17 = .ok (.ireturn, 1) := by decide +kernel
theorem dX7_carried_0 : decode cX7_carried 0 = .ok (.iload_n 1, 1) := by decide +kernel
theorem dX7_carried_1 : decode cX7_carried 1 = .ok (.bipush 32, 2) := by decide +kernel
theorem dX7_carried_3 : decode cX7_carried 3 = .ok (.if_icmp .ge 181, 3) := by decide +kernel
theorem dX7_carried_6 : decode cX7_carried 6 = .ok (.iload_n 1, 1) := by decide +kernel
theorem dX7_carried_7 : decode cX7_carried 7 = .ok (.bipush 8, 2) := by decide +kernel
theorem dX7_carried_9 : decode cX7_carried 9 = .ok (.irem, 1) := by decide +kernel
theorem dX7_carried_10 : decode cX7_carried 10 = .ok (.istore 4, 2) := by decide +kernel
theorem dX7_carried_12 : decode cX7_carried 12 = .ok (.iload_n 1, 1) := by decide +kernel
theorem dX7_carried_13 : decode cX7_carried 13 = .ok (.bipush 8, 2) := by decide +kernel
theorem dX7_carried_15 : decode cX7_carried 15 = .ok (.idiv, 1) := by decide +kernel
theorem dX7_carried_16 : decode cX7_carried 16 = .ok (.istore 5, 2) := by decide +kernel
theorem dX7_carried_18 : decode cX7_carried 18 = .ok (.aload_n 0, 1) := by decide +kernel
theorem dX7_carried_19 : decode cX7_carried 19 = .ok (.getfield 7, 3) := by decide +kernel
theorem dX7_carried_22 : decode cX7_carried 22 = .ok (.iload 4, 2) := by decide +kernel
theorem dX7_carried_24 : decode cX7_carried 24 = .ok (.iload_n 3, 1) := by decide +kernel
theorem dX7_carried_25 : decode cX7_carried 25 = .ok (.ifCond .eq 12, 3) := by decide +kernel
theorem dX7_carried_28 : decode cX7_carried 28 = .ok (.iload 5, 2) := by decide +kernel
theorem dX7_carried_30 : decode cX7_carried 30 = .ok (.ifCond .ne 7, 3) := by decide +kernel
theorem dX7_carried_33 : decode cX7_carried 33 = .ok (.iload_n 2, 1) := by decide +kernel
theorem dX7_carried_34 : decode cX7_carried 34 = .ok (.goto 10, 3) := by decide +kernel
theorem dX7_carried_37 : decode cX7_carried 37 = .ok (.aload_n 0, 1) := by decide +kernel
theorem dX7_carried_38 : decode cX7_carried 38 = .ok (.getfield 7, 3) := by decide +kernel
theorem dX7_carried_41 : decode cX7_carried 41 = .ok (.iload 4, 2) := by decide +kernel
theorem dX7_carried_43 : decode cX7_carried 43 = .ok (.iaload, 1) := by decide +kernel
theorem dX7_carried_44 : decode cX7_carried 44 = .ok (.iastore, 1) := by decide +kernel
theorem dX7_carried_45 : decode cX7_carried 45 = .ok (.aload_n 0, 1) := by decide +kernel
theorem dX7_carried_46 : decode cX7_carried 46 = .ok (.getfield 13, 3) := by decide +kernel
theorem dX7_carried_49 : decode cX7_carried 49 = .ok (.iload 4, 2) := by decide +kernel
theorem dX7_carried_51 : decode cX7_carried 51 = .ok (.iload_n 3, 1) := by decide +kernel
theorem dX7_carried_52 : decode cX7_carried 52 = .ok (.ifCond .eq 13, 3) := by decide +kernel
theorem dX7_carried_55 : decode cX7_carried 55 = .ok (.iload 5, 2) := by decide +kernel
theorem dX7_carried_57 : decode cX7_carried 57 = .ok (.iconst 1, 1) := by decide +kernel
theorem dX7_carried_58 : decode cX7_carried 58 = .ok (.if_icmp .ne 7, 3) := by decide +kernel
theorem dX7_carried_61 : decode cX7_carried 61 = .ok (.iload_n 2, 1) := by decide +kernel
theorem dX7_carried_62 : decode cX7_carried 62 = .ok (.goto 10, 3) := by decide +kernel
theorem dX7_carried_65 : decode cX7_carried 65 = .ok (.aload_n 0, 1) := by decide +kernel
theorem dX7_carried_66 : decode cX7_carried 66 = .ok (.getfield 13, 3) := by decide +kernel
theorem dX7_carried_69 : decode cX7_carried 69 = .ok (.iload 4, 2) := by decide +kernel
theorem dX7_carried_71 : decode cX7_carried 71 = .ok (.iaload, 1) := by decide +kernel
theorem dX7_carried_72 : decode cX7_carried 72 = .ok (.iastore, 1) := by decide +kernel
theorem dX7_carried_73 : decode cX7_carried 73 = .ok (.aload_n 0, 1) := by decide +kernel
theorem dX7_carried_74 : decode cX7_carried 74 = .ok (.getfield 16, 3) := by decide +kernel
theorem dX7_carried_77 : decode cX7_carried 77 = .ok (.iload 4, 2) := by decide +kernel
theorem dX7_carried_79 : decode cX7_carried 79 = .ok (.iload_n 3, 1) := by decide +kernel
theorem dX7_carried_80 : decode cX7_carried 80 = .ok (.ifCond .eq 13, 3) := by decide +kernel
theorem dX7_carried_83 : decode cX7_carried 83 = .ok (.iload 5, 2) := by decide +kernel
theorem dX7_carried_85 : decode cX7_carried 85 = .ok (.iconst 2, 1) := by decide +kernel
theorem dX7_carried_86 : decode cX7_carried 86 = .ok (.if_icmp .ne 7, 3) := by decide +kernel
theorem dX7_carried_89 : decode cX7_carried 89 = .ok (.iload_n 2, 1) := by decide +kernel
theorem dX7_carried_90 : decode cX7_carried 90 = .ok (.goto 10, 3) := by decide +kernel
theorem dX7_carried_93 : decode cX7_carried 93 = .ok (.aload_n 0, 1) := by decide +kernel
theorem dX7_carried_94 : decode cX7_carried 94 = .ok (.getfield 16, 3) := by decide +kernel
theorem dX7_carried_97 : decode cX7_carried 97 = .ok (.iload 4, 2) := by decide +kernel
theorem dX7_carried_99 : decode cX7_carried 99 = .ok (.iaload, 1) := by decide +kernel
theorem dX7_carried_100 : decode cX7_carried 100 = .ok (.iastore, 1) := by decide +kernel
theorem dX7_carried_101 : decode cX7_carried 101 = .ok (.aload_n 0, 1) := by decide +kernel
theorem dX7_carried_102 : decode cX7_carried 102 = .ok (.getfield 19, 3) := by decide +kernel
theorem dX7_carried_105 : decode cX7_carried 105 = .ok (.iload 4, 2) := by decide +kernel
theorem dX7_carried_107 : decode cX7_carried 107 = .ok (.iload_n 3, 1) := by decide +kernel
theorem dX7_carried_108 : decode cX7_carried 108 = .ok (.ifCond .eq 13, 3) := by decide +kernel
theorem dX7_carried_111 : decode cX7_carried 111 = .ok (.iload 5, 2) := by decide +kernel
theorem dX7_carried_113 : decode cX7_carried 113 = .ok (.iconst 3, 1) := by decide +kernel
theorem dX7_carried_114 : decode cX7_carried 114 = .ok (.if_icmp .ne 7, 3) := by decide +kernel
theorem dX7_carried_117 : decode cX7_carried 117 = .ok (.iload_n 2, 1) := by decide +kernel
theorem dX7_carried_118 : decode cX7_carried 118 = .ok (.goto 10, 3) := by decide +kernel
theorem dX7_carried_121 : decode cX7_carried 121 = .ok (.aload_n 0, 1) := by decide +kernel
theorem dX7_carried_122 : decode cX7_carried 122 = .ok (.getfield 19, 3) := by decide +kernel
theorem dX7_carried_125 : decode cX7_carried 125 = .ok (.iload 4, 2) := by decide +kernel
theorem dX7_carried_127 : decode cX7_carried 127 = .ok (.iaload, 1) := by decide +kernel
theorem dX7_carried_128 : decode cX7_carried 128 = .ok (.iastore, 1) := by decide +kernel
theorem dX7_carried_129 : decode cX7_carried 129 = .ok (.iload 5, 2) := by decide +kernel
theorem dX7_carried_131 : decode cX7_carried 131 = .ok (.ifCond .ne 13, 3) := by decide +kernel
theorem dX7_carried_134 : decode cX7_carried 134 = .ok (.aload_n 0, 1) := by decide +kernel
theorem dX7_carried_135 : decode cX7_carried 135 = .ok (.getfield 7, 3) := by decide +kernel
theorem dX7_carried_138 : decode cX7_carried 138 = .ok (.iload 4, 2) := by decide +kernel
theorem dX7_carried_140 : decode cX7_carried 140 = .ok (.iaload, 1) := by decide +kernel
theorem dX7_carried_141 : decode cX7_carried 141 = .ok (.goto 42, 3) := by decide +kernel
theorem dX7_carried_144 : decode cX7_carried 144 = .ok (.iload 5, 2) := by decide +kernel
theorem dX7_carried_146 : decode cX7_carried 146 = .ok (.iconst 1, 1) := by decide +kernel
theorem dX7_carried_147 : decode cX7_carried 147 = .ok (.if_icmp .ne 13, 3) := by decide +kernel
theorem dX7_carried_150 : decode cX7_carried 150 = .ok (.aload_n 0, 1) := by decide +kernel
theorem dX7_carried_151 : decode cX7_carried 151 = .ok (.getfield 13, 3) := by decide +kernel
theorem dX7_carried_154 : decode cX7_carried 154 = .ok (.iload 4, 2) := by decide +kernel
theorem dX7_carried_156 : decode cX7_carried 156 = .ok (.iaload, 1) := by decide +kernel
theorem dX7_carried_157 : decode cX7_carried 157 = .ok (.goto 26, 3) := by decide +kernel
theorem dX7_carried_160 : decode cX7_carried 160 = .ok (.iload 5, 2) := by decide +kernel
theorem dX7_carried_162 : decode cX7_carried 162 = .ok (.iconst 2, 1) := by decide +kernel
theorem dX7_carried_163 : decode cX7_carried 163 = .ok (.if_icmp .ne 13, 3) := by decide +kernel
theorem dX7_carried_166 : decode cX7_carried 166 = .ok (.aload_n 0, 1) := by decide +kernel
theorem dX7_carried_167 : decode cX7_carried 167 = .ok (.getfield 16, 3) := by decide +kernel
theorem dX7_carried_170 : decode cX7_carried 170 = .ok (.iload 4, 2) := by decide +kernel
theorem dX7_carried_172 : decode cX7_carried 172 = .ok (.iaload, 1) := by decide +kernel
theorem dX7_carried_173 : decode cX7_carried 173 = .ok (.goto 10, 3) := by decide +kernel
theorem dX7_carried_176 : decode cX7_carried 176 = .ok (.aload_n 0, 1) := by decide +kernel
theorem dX7_carried_177 : decode cX7_carried 177 = .ok (.getfield 19, 3) := by decide +kernel
theorem dX7_carried_180 : decode cX7_carried 180 = .ok (.iload 4, 2) := by decide +kernel
theorem dX7_carried_182 : decode cX7_carried 182 = .ok (.iaload, 1) := by decide +kernel
theorem dX7_carried_183 : decode cX7_carried 183 = .ok (.ireturn, 1) := by decide +kernel
theorem dX7_carried_184 : decode cX7_carried 184 = .ok (.iload_n 1, 1) := by decide +kernel
theorem dX7_carried_185 : decode cX7_carried 185 = .ok (.bipush 44, 2) := by decide +kernel
theorem dX7_carried_187 : decode cX7_carried 187 = .ok (.if_icmp .ge 92, 3) := by decide +kernel
theorem dX7_carried_190 : decode cX7_carried 190 = .ok (.iload_n 1, 1) := by decide +kernel
theorem dX7_carried_191 : decode cX7_carried 191 = .ok (.bipush 32, 2) := by decide +kernel
theorem dX7_carried_193 : decode cX7_carried 193 = .ok (.isub, 1) := by decide +kernel
theorem dX7_carried_194 : decode cX7_carried 194 = .ok (.bipush 6, 2) := by decide +kernel
theorem dX7_carried_196 : decode cX7_carried 196 = .ok (.irem, 1) := by decide +kernel
theorem dX7_carried_197 : decode cX7_carried 197 = .ok (.istore 4, 2) := by decide +kernel
theorem dX7_carried_199 : decode cX7_carried 199 = .ok (.aload_n 0, 1) := by decide +kernel
theorem dX7_carried_200 : decode cX7_carried 200 = .ok (.getfield 22, 3) := by decide +kernel
theorem dX7_carried_203 : decode cX7_carried 203 = .ok (.iload 4, 2) := by decide +kernel
theorem dX7_carried_205 : decode cX7_carried 205 = .ok (.iload_n 3, 1) := by decide +kernel
theorem dX7_carried_206 : decode cX7_carried 206 = .ok (.ifCond .eq 13, 3) := by decide +kernel
theorem dX7_carried_209 : decode cX7_carried 209 = .ok (.iload_n 1, 1) := by decide +kernel
theorem dX7_carried_210 : decode cX7_carried 210 = .ok (.bipush 38, 2) := by decide +kernel
theorem dX7_carried_212 : decode cX7_carried 212 = .ok (.if_icmp .ge 7, 3) := by decide +kernel
theorem dX7_carried_215 : decode cX7_carried 215 = .ok (.iload_n 2, 1) := by decide +kernel
theorem dX7_carried_216 : decode cX7_carried 216 = .ok (.goto 10, 3) := by decide +kernel
theorem dX7_carried_219 : decode cX7_carried 219 = .ok (.aload_n 0, 1) := by decide +kernel
theorem dX7_carried_220 : decode cX7_carried 220 = .ok (.getfield 22, 3) := by decide +kernel
theorem dX7_carried_223 : decode cX7_carried 223 = .ok (.iload 4, 2) := by decide +kernel
theorem dX7_carried_225 : decode cX7_carried 225 = .ok (.iaload, 1) := by decide +kernel
theorem dX7_carried_226 : decode cX7_carried 226 = .ok (.iastore, 1) := by decide +kernel
theorem dX7_carried_227 : decode cX7_carried 227 = .ok (.aload_n 0, 1) := by decide +kernel
theorem dX7_carried_228 : decode cX7_carried 228 = .ok (.getfield 25, 3) := by decide +kernel
theorem dX7_carried_231 : decode cX7_carried 231 = .ok (.iload 4, 2) := by decide +kernel
theorem dX7_carried_233 : decode cX7_carried 233 = .ok (.iload_n 3, 1) := by decide +kernel
theorem dX7_carried_234 : decode cX7_carried 234 = .ok (.ifCond .eq 13, 3) := by decide +kernel
theorem dX7_carried_237 : decode cX7_carried 237 = .ok (.iload_n 1, 1) := by decide +kernel
theorem dX7_carried_238 : decode cX7_carried 238 = .ok (.bipush 38, 2) := by decide +kernel
theorem dX7_carried_240 : decode cX7_carried 240 = .ok (.if_icmp .lt 7, 3) := by decide +kernel
theorem dX7_carried_243 : decode cX7_carried 243 = .ok (.iload_n 2, 1) := by decide +kernel
theorem dX7_carried_244 : decode cX7_carried 244 = .ok (.goto 10, 3) := by decide +kernel
theorem dX7_carried_247 : decode cX7_carried 247 = .ok (.aload_n 0, 1) := by decide +kernel
theorem dX7_carried_248 : decode cX7_carried 248 = .ok (.getfield 25, 3) := by decide +kernel
theorem dX7_carried_251 : decode cX7_carried 251 = .ok (.iload 4, 2) := by decide +kernel
theorem dX7_carried_253 : decode cX7_carried 253 = .ok (.iaload, 1) := by decide +kernel
theorem dX7_carried_254 : decode cX7_carried 254 = .ok (.iastore, 1) := by decide +kernel
theorem dX7_carried_255 : decode cX7_carried 255 = .ok (.iload_n 1, 1) := by decide +kernel
theorem dX7_carried_256 : decode cX7_carried 256 = .ok (.bipush 38, 2) := by decide +kernel
theorem dX7_carried_258 : decode cX7_carried 258 = .ok (.if_icmp .ge 13, 3) := by decide +kernel
theorem dX7_carried_261 : decode cX7_carried 261 = .ok (.aload_n 0, 1) := by decide +kernel
theorem dX7_carried_262 : decode cX7_carried 262 = .ok (.getfield 22, 3) := by decide +kernel
theorem dX7_carried_265 : decode cX7_carried 265 = .ok (.iload 4, 2) := by decide +kernel
theorem dX7_carried_267 : decode cX7_carried 267 = .ok (.iaload, 1) := by decide +kernel
theorem dX7_carried_268 : decode cX7_carried 268 = .ok (.goto 10, 3) := by decide +kernel
theorem dX7_carried_271 : decode cX7_carried 271 = .ok (.aload_n 0, 1) := by decide +kernel
theorem dX7_carried_272 : decode cX7_carried 272 = .ok (.getfield 25, 3) := by decide +kernel
theorem dX7_carried_275 : decode cX7_carried 275 = .ok (.iload 4, 2) := by decide +kernel
theorem dX7_carried_277 : decode cX7_carried 277 = .ok (.iaload, 1) := by decide +kernel
theorem dX7_carried_278 : decode cX7_carried 278 = .ok (.ireturn, 1) := by decide +kernel
theorem dX7_carried_279 : decode cX7_carried 279 = .ok (.iload_n 1, 1) := by decide +kernel
theorem dX7_carried_280 : decode cX7_carried 280 = .ok (.bipush 92, 2) := by decide +kernel
theorem dX7_carried_282 : decode cX7_carried 282 = .ok (.if_icmp .ge 92, 3) := by decide +kernel
theorem dX7_carried_285 : decode cX7_carried 285 = .ok (.iload_n 1, 1) := by decide +kernel
theorem dX7_carried_286 : decode cX7_carried 286 = .ok (.bipush 44, 2) := by decide +kernel
theorem dX7_carried_288 : decode cX7_carried 288 = .ok (.isub, 1) := by decide +kernel
theorem dX7_carried_289 : decode cX7_carried 289 = .ok (.bipush 24, 2) := by decide +kernel
theorem dX7_carried_291 : decode cX7_carried 291 = .ok (.irem, 1) := by decide +kernel
theorem dX7_carried_292 : decode cX7_carried 292 = .ok (.istore 4, 2) := by decide +kernel
theorem dX7_carried_294 : decode cX7_carried 294 = .ok (.aload_n 0, 1) := by decide +kernel
theorem dX7_carried_295 : decode cX7_carried 295 = .ok (.getfield 28, 3) := by decide +kernel
theorem dX7_carried_298 : decode cX7_carried 298 = .ok (.iload 4, 2) := by decide +kernel
theorem dX7_carried_300 : decode cX7_carried 300 = .ok (.iload_n 3, 1) := by decide +kernel
theorem dX7_carried_301 : decode cX7_carried 301 = .ok (.ifCond .eq 13, 3) := by decide +kernel
theorem dX7_carried_304 : decode cX7_carried 304 = .ok (.iload_n 1, 1) := by decide +kernel
theorem dX7_carried_305 : decode cX7_carried 305 = .ok (.bipush 68, 2) := by decide +kernel
theorem dX7_carried_307 : decode cX7_carried 307 = .ok (.if_icmp .ge 7, 3) := by decide +kernel
theorem dX7_carried_310 : decode cX7_carried 310 = .ok (.iload_n 2, 1) := by decide +kernel
theorem dX7_carried_311 : decode cX7_carried 311 = .ok (.goto 10, 3) := by decide +kernel
theorem dX7_carried_314 : decode cX7_carried 314 = .ok (.aload_n 0, 1) := by decide +kernel
theorem dX7_carried_315 : decode cX7_carried 315 = .ok (.getfield 28, 3) := by decide +kernel
theorem dX7_carried_318 : decode cX7_carried 318 = .ok (.iload 4, 2) := by decide +kernel
theorem dX7_carried_320 : decode cX7_carried 320 = .ok (.iaload, 1) := by decide +kernel
theorem dX7_carried_321 : decode cX7_carried 321 = .ok (.iastore, 1) := by decide +kernel
theorem dX7_carried_322 : decode cX7_carried 322 = .ok (.aload_n 0, 1) := by decide +kernel
theorem dX7_carried_323 : decode cX7_carried 323 = .ok (.getfield 31, 3) := by decide +kernel
theorem dX7_carried_326 : decode cX7_carried 326 = .ok (.iload 4, 2) := by decide +kernel
theorem dX7_carried_328 : decode cX7_carried 328 = .ok (.iload_n 3, 1) := by decide +kernel
theorem dX7_carried_329 : decode cX7_carried 329 = .ok (.ifCond .eq 13, 3) := by decide +kernel
theorem dX7_carried_332 : decode cX7_carried 332 = .ok (.iload_n 1, 1) := by decide +kernel
theorem dX7_carried_333 : decode cX7_carried 333 = .ok (.bipush 68, 2) := by decide +kernel
theorem dX7_carried_335 : decode cX7_carried 335 = .ok (.if_icmp .lt 7, 3) := by decide +kernel
theorem dX7_carried_338 : decode cX7_carried 338 = .ok (.iload_n 2, 1) := by decide +kernel
theorem dX7_carried_339 : decode cX7_carried 339 = .ok (.goto 10, 3) := by decide +kernel
theorem dX7_carried_342 : decode cX7_carried 342 = .ok (.aload_n 0, 1) := by decide +kernel
theorem dX7_carried_343 : decode cX7_carried 343 = .ok (.getfield 31, 3) := by decide +kernel
theorem dX7_carried_346 : decode cX7_carried 346 = .ok (.iload 4, 2) := by decide +kernel
theorem dX7_carried_348 : decode cX7_carried 348 = .ok (.iaload, 1) := by decide +kernel
theorem dX7_carried_349 : decode cX7_carried 349 = .ok (.iastore, 1) := by decide +kernel
theorem dX7_carried_350 : decode cX7_carried 350 = .ok (.iload_n 1, 1) := by decide +kernel
theorem dX7_carried_351 : decode cX7_carried 351 = .ok (.bipush 68, 2) := by decide +kernel
theorem dX7_carried_353 : decode cX7_carried 353 = .ok (.if_icmp .ge 13, 3) := by decide +kernel
theorem dX7_carried_356 : decode cX7_carried 356 = .ok (.aload_n 0, 1) := by decide +kernel
theorem dX7_carried_357 : decode cX7_carried 357 = .ok (.getfield 28, 3) := by decide +kernel
theorem dX7_carried_360 : decode cX7_carried 360 = .ok (.iload 4, 2) := by decide +kernel
theorem dX7_carried_362 : decode cX7_carried 362 = .ok (.iaload, 1) := by decide +kernel
theorem dX7_carried_363 : decode cX7_carried 363 = .ok (.goto 10, 3) := by decide +kernel
theorem dX7_carried_366 : decode cX7_carried 366 = .ok (.aload_n 0, 1) := by decide +kernel
theorem dX7_carried_367 : decode cX7_carried 367 = .ok (.getfield 31, 3) := by decide +kernel
theorem dX7_carried_370 : decode cX7_carried 370 = .ok (.iload 4, 2) := by decide +kernel
theorem dX7_carried_372 : decode cX7_carried 372 = .ok (.iaload, 1) := by decide +kernel
theorem dX7_carried_373 : decode cX7_carried 373 = .ok (.ireturn, 1) := by decide +kernel
theorem dX7_carried_374 : decode cX7_carried 374 = .ok (.iconst 0, 1) := by decide +kernel
theorem dX7_carried_375 : decode cX7_carried 375 = .ok (.ireturn, 1) := by decide +kernel
theorem dX7_image_0 : decode cX7_image 0 = .ok (.iconst 0, 1) := by decide +kernel
theorem dX7_image_1 : decode cX7_image 1 = .ok (.istore_n 1, 1) := by decide +kernel
theorem dX7_image_2 : decode cX7_image 2 = .ok (.iload_n 1, 1) := by decide +kernel
theorem dX7_image_3 : decode cX7_image 3 = .ok (.bipush 92, 2) := by decide +kernel
theorem dX7_image_5 : decode cX7_image 5 = .ok (.if_icmp .ge 22, 3) := by decide +kernel
theorem dX7_image_8 : decode cX7_image 8 = .ok (.aload_n 0, 1) := by decide +kernel
theorem dX7_image_9 : decode cX7_image 9 = .ok (.getfield 59, 3) := by decide +kernel
theorem dX7_image_12 : decode cX7_image 12 = .ok (.iload_n 1, 1) := by decide +kernel
theorem dX7_image_13 : decode cX7_image 13 = .ok (.aload_n 0, 1) := by decide +kernel
theorem dX7_image_14 : decode cX7_image 14 = .ok (.iload_n 1, 1) := by decide +kernel
theorem dX7_image_15 : decode cX7_image 15 = .ok (.iconst 0, 1) := by decide +kernel
theorem dX7_image_16 : decode cX7_image 16 = .ok (.iconst 0, 1) := by decide +kernel
theorem dX7_image_17 : decode cX7_image 17 = .ok (.invokevirtual 241, 3) := by decide +kernel
theorem dX7_image_20 : decode cX7_image 20 = .ok (.iastore, 1) := by decide +kernel
theorem dX7_image_21 : decode cX7_image 21 = .ok (.iinc 1 1, 3) := by decide +kernel
theorem dX7_image_24 : decode cX7_image 24 = .ok (.goto (-22), 3) := by decide +kernel
theorem dX7_image_27 : decode cX7_image 27 = .ok (.aload_n 0, 1) := by decide +kernel
theorem dX7_image_28 : decode cX7_image 28 = .ok (.getfield 59, 3) := by decide +kernel
theorem dX7_image_31 : decode cX7_image 31 = .ok (.bipush 92, 2) := by decide +kernel
theorem dX7_image_33 : decode cX7_image 33 = .ok (.aload_n 0, 1) := by decide +kernel
theorem dX7_image_34 : decode cX7_image 34 = .ok (.getfield 84, 3) := by decide +kernel
theorem dX7_image_37 : decode cX7_image 37 = .ok (.iastore, 1) := by decide +kernel
theorem dX7_image_38 : decode cX7_image 38 = .ok (.aload_n 0, 1) := by decide +kernel
theorem dX7_image_39 : decode cX7_image 39 = .ok (.getfield 59, 3) := by decide +kernel
theorem dX7_image_42 : decode cX7_image 42 = .ok (.bipush 93, 2) := by decide +kernel
theorem dX7_image_44 : decode cX7_image 44 = .ok (.aload_n 0, 1) := by decide +kernel
theorem dX7_image_45 : decode cX7_image 45 = .ok (.getfield 116, 3) := by decide +kernel
theorem dX7_image_48 : decode cX7_image 48 = .ok (.iastore, 1) := by decide +kernel
theorem dX7_image_49 : decode cX7_image 49 = .ok (.aload_n 0, 1) := by decide +kernel
theorem dX7_image_50 : decode cX7_image 50 = .ok (.getfield 59, 3) := by decide +kernel
theorem dX7_image_53 : decode cX7_image 53 = .ok (.bipush 94, 2) := by decide +kernel
theorem dX7_image_55 : decode cX7_image 55 = .ok (.aload_n 0, 1) := by decide +kernel
theorem dX7_image_56 : decode cX7_image 56 = .ok (.getfield 34, 3) := by decide +kernel
theorem dX7_image_59 : decode cX7_image 59 = .ok (.iastore, 1) := by decide +kernel
theorem dX7_image_60 : decode cX7_image 60 = .ok (.aload_n 0, 1) := by decide +kernel
theorem dX7_image_61 : decode cX7_image 61 = .ok (.getfield 59, 3) := by decide +kernel
theorem dX7_image_64 : decode cX7_image 64 = .ok (.bipush 95, 2) := by decide +kernel
theorem dX7_image_66 : decode cX7_image 66 = .ok (.aload_n 0, 1) := by decide +kernel
theorem dX7_image_67 : decode cX7_image 67 = .ok (.getfield 123, 3) := by decide +kernel
theorem dX7_image_70 : decode cX7_image 70 = .ok (.iastore, 1) := by decide +kernel
theorem dX7_image_71 : decode cX7_image 71 = .ok (.aload_n 0, 1) := by decide +kernel
theorem dX7_image_72 : decode cX7_image 72 = .ok (.getfield 59, 3) := by decide +kernel
theorem dX7_image_75 : decode cX7_image 75 = .ok (.bipush 96, 2) := by decide +kernel
theorem dX7_image_77 : decode cX7_image 77 = .ok (.aload_n 0, 1) := by decide +kernel
theorem dX7_image_78 : decode cX7_image 78 = .ok (.getfield 126, 3) := by decide +kernel
theorem dX7_image_81 : decode cX7_image 81 = .ok (.iastore, 1) := by decide +kernel
theorem dX7_image_82 : decode cX7_image 82 = .ok (.aload_n 0, 1) := by decide +kernel
theorem dX7_image_83 : decode cX7_image 83 = .ok (.getfield 59, 3) := by decide +kernel
theorem dX7_image_86 : decode cX7_image 86 = .ok (.bipush 97, 2) := by decide +kernel
theorem dX7_image_88 : decode cX7_image 88 = .ok (.aload_n 0, 1) := by decide +kernel
theorem dX7_image_89 : decode cX7_image 89 = .ok (.getfield 38, 3) := by decide +kernel
theorem dX7_image_92 : decode cX7_image 92 = .ok (.iastore, 1) := by decide +kernel
theorem dX7_image_93 : decode cX7_image 93 = .ok (.aload_n 0, 1) := by decide +kernel
theorem dX7_image_94 : decode cX7_image 94 = .ok (.getfield 59, 3) := by decide +kernel
theorem dX7_image_97 : decode cX7_image 97 = .ok (.bipush 98, 2) := by decide +kernel
theorem dX7_image_99 : decode cX7_image 99 = .ok (.aload_n 0, 1) := by decide +kernel
theorem dX7_image_100 : decode cX7_image 100 = .ok (.getfield 129, 3) := by decide +kernel
theorem dX7_image_103 : decode cX7_image 103 = .ok (.iastore, 1) := by decide +kernel
theorem dX7_image_104 : decode cX7_image 104 = .ok (.aload_n 0, 1) := by decide +kernel
theorem dX7_image_105 : decode cX7_image 105 = .ok (.getfield 59, 3) := by decide +kernel
theorem dX7_image_108 : decode cX7_image 108 = .ok (.bipush 99, 2) := by decide +kernel
theorem dX7_image_110 : decode cX7_image 110 = .ok (.aload_n 0, 1) := by decide +kernel
theorem dX7_image_111 : decode cX7_image 111 = .ok (.getfield 132, 3) := by decide +kernel
theorem dX7_image_114 : decode cX7_image 114 = .ok (.iastore, 1) := by decide +kernel
theorem dX7_image_115 : decode cX7_image 115 = .ok (.aload_n 0, 1) := by decide +kernel
theorem dX7_image_116 : decode cX7_image 116 = .ok (.getfield 59, 3) := by decide +kernel
theorem dX7_image_119 : decode cX7_image 119 = .ok (.bipush 100, 2) := by decide +kernel
theorem dX7_image_121 : decode cX7_image 121 = .ok (.aload_n 0, 1) := by decide +kernel
theorem dX7_image_122 : decode cX7_image 122 = .ok (.getfield 41, 3) := by decide +kernel
theorem dX7_image_125 : decode cX7_image 125 = .ok (.iastore, 1) := by decide +kernel
theorem dX7_image_126 : decode cX7_image 126 = .ok (.aload_n 0, 1) := by decide +kernel
theorem dX7_image_127 : decode cX7_image 127 = .ok (.iconst 1, 1) := by decide +kernel
theorem dX7_image_128 : decode cX7_image 128 = .ok (.putfield 245, 3) := by decide +kernel
theorem dX7_image_131 : decode cX7_image 131 = .ok (.iconst 1, 1) := by decide +kernel
theorem dX7_image_132 : decode cX7_image 132 = .ok (.ireturn, 1) := by decide +kernel
theorem dX7_restore_0 : decode cX7_restore 0 = .ok (.aload_n 0, 1) := by decide +kernel
theorem dX7_restore_1 : decode cX7_restore 1 = .ok (.getfield 245, 3) := by decide +kernel
theorem dX7_restore_4 : decode cX7_restore 4 = .ok (.ifCond .ne 6, 3) := by decide +kernel
theorem dX7_restore_7 : decode cX7_restore 7 = .ok (.bipush (-4), 2) := by decide +kernel
theorem dX7_restore_9 : decode cX7_restore 9 = .ok (.ireturn, 1) := by decide +kernel
theorem dX7_restore_10 : decode cX7_restore 10 = .ok (.iconst 0, 1) := by decide +kernel
theorem dX7_restore_11 : decode cX7_restore 11 = .ok (.istore_n 1, 1) := by decide +kernel
theorem dX7_restore_12 : decode cX7_restore 12 = .ok (.iload_n 1, 1) := by decide +kernel
theorem dX7_restore_13 : decode cX7_restore 13 = .ok (.bipush 92, 2) := by decide +kernel
theorem dX7_restore_15 : decode cX7_restore 15 = .ok (.if_icmp .ge 22, 3) := by decide +kernel
theorem dX7_restore_18 : decode cX7_restore 18 = .ok (.aload_n 0, 1) := by decide +kernel
theorem dX7_restore_19 : decode cX7_restore 19 = .ok (.iload_n 1, 1) := by decide +kernel
theorem dX7_restore_20 : decode cX7_restore 20 = .ok (.aload_n 0, 1) := by decide +kernel
theorem dX7_restore_21 : decode cX7_restore 21 = .ok (.getfield 59, 3) := by decide +kernel
theorem dX7_restore_24 : decode cX7_restore 24 = .ok (.iload_n 1, 1) := by decide +kernel
theorem dX7_restore_25 : decode cX7_restore 25 = .ok (.iaload, 1) := by decide +kernel
theorem dX7_restore_26 : decode cX7_restore 26 = .ok (.iconst 1, 1) := by decide +kernel
theorem dX7_restore_27 : decode cX7_restore 27 = .ok (.invokevirtual 241, 3) := by decide +kernel
theorem dX7_restore_30 : decode cX7_restore 30 = .ok (.pop, 1) := by decide +kernel
theorem dX7_restore_31 : decode cX7_restore 31 = .ok (.iinc 1 1, 3) := by decide +kernel
theorem dX7_restore_34 : decode cX7_restore 34 = .ok (.goto (-22), 3) := by decide +kernel
theorem dX7_restore_37 : decode cX7_restore 37 = .ok (.aload_n 0, 1) := by decide +kernel
theorem dX7_restore_38 : decode cX7_restore 38 = .ok (.aload_n 0, 1) := by decide +kernel
theorem dX7_restore_39 : decode cX7_restore 39 = .ok (.getfield 59, 3) := by decide +kernel
theorem dX7_restore_42 : decode cX7_restore 42 = .ok (.bipush 92, 2) := by decide +kernel
theorem dX7_restore_44 : decode cX7_restore 44 = .ok (.iaload, 1) := by decide +kernel
theorem dX7_restore_45 : decode cX7_restore 45 = .ok (.putfield 84, 3) := by decide +kernel
theorem dX7_restore_48 : decode cX7_restore 48 = .ok (.aload_n 0, 1) := by decide +kernel
theorem dX7_restore_49 : decode cX7_restore 49 = .ok (.aload_n 0, 1) := by decide +kernel
theorem dX7_restore_50 : decode cX7_restore 50 = .ok (.getfield 59, 3) := by decide +kernel
theorem dX7_restore_53 : decode cX7_restore 53 = .ok (.bipush 93, 2) := by decide +kernel
theorem dX7_restore_55 : decode cX7_restore 55 = .ok (.iaload, 1) := by decide +kernel
theorem dX7_restore_56 : decode cX7_restore 56 = .ok (.putfield 116, 3) := by decide +kernel
theorem dX7_restore_59 : decode cX7_restore 59 = .ok (.aload_n 0, 1) := by decide +kernel
theorem dX7_restore_60 : decode cX7_restore 60 = .ok (.aload_n 0, 1) := by decide +kernel
theorem dX7_restore_61 : decode cX7_restore 61 = .ok (.getfield 59, 3) := by decide +kernel
theorem dX7_restore_64 : decode cX7_restore 64 = .ok (.bipush 94, 2) := by decide +kernel
theorem dX7_restore_66 : decode cX7_restore 66 = .ok (.iaload, 1) := by decide +kernel
theorem dX7_restore_67 : decode cX7_restore 67 = .ok (.putfield 34, 3) := by decide +kernel
theorem dX7_restore_70 : decode cX7_restore 70 = .ok (.aload_n 0, 1) := by decide +kernel
theorem dX7_restore_71 : decode cX7_restore 71 = .ok (.aload_n 0, 1) := by decide +kernel
theorem dX7_restore_72 : decode cX7_restore 72 = .ok (.getfield 59, 3) := by decide +kernel
theorem dX7_restore_75 : decode cX7_restore 75 = .ok (.bipush 95, 2) := by decide +kernel
theorem dX7_restore_77 : decode cX7_restore 77 = .ok (.iaload, 1) := by decide +kernel
theorem dX7_restore_78 : decode cX7_restore 78 = .ok (.putfield 123, 3) := by decide +kernel
theorem dX7_restore_81 : decode cX7_restore 81 = .ok (.aload_n 0, 1) := by decide +kernel
theorem dX7_restore_82 : decode cX7_restore 82 = .ok (.aload_n 0, 1) := by decide +kernel
theorem dX7_restore_83 : decode cX7_restore 83 = .ok (.getfield 59, 3) := by decide +kernel
theorem dX7_restore_86 : decode cX7_restore 86 = .ok (.bipush 96, 2) := by decide +kernel
theorem dX7_restore_88 : decode cX7_restore 88 = .ok (.iaload, 1) := by decide +kernel
theorem dX7_restore_89 : decode cX7_restore 89 = .ok (.putfield 126, 3) := by decide +kernel
theorem dX7_restore_92 : decode cX7_restore 92 = .ok (.aload_n 0, 1) := by decide +kernel
theorem dX7_restore_93 : decode cX7_restore 93 = .ok (.aload_n 0, 1) := by decide +kernel
theorem dX7_restore_94 : decode cX7_restore 94 = .ok (.getfield 59, 3) := by decide +kernel
theorem dX7_restore_97 : decode cX7_restore 97 = .ok (.bipush 97, 2) := by decide +kernel
theorem dX7_restore_99 : decode cX7_restore 99 = .ok (.iaload, 1) := by decide +kernel
theorem dX7_restore_100 : decode cX7_restore 100 = .ok (.putfield 38, 3) := by decide +kernel
theorem dX7_restore_103 : decode cX7_restore 103 = .ok (.aload_n 0, 1) := by decide +kernel
theorem dX7_restore_104 : decode cX7_restore 104 = .ok (.aload_n 0, 1) := by decide +kernel
theorem dX7_restore_105 : decode cX7_restore 105 = .ok (.getfield 59, 3) := by decide +kernel
theorem dX7_restore_108 : decode cX7_restore 108 = .ok (.bipush 98, 2) := by decide +kernel
theorem dX7_restore_110 : decode cX7_restore 110 = .ok (.iaload, 1) := by decide +kernel
theorem dX7_restore_111 : decode cX7_restore 111 = .ok (.putfield 129, 3) := by decide +kernel
theorem dX7_restore_114 : decode cX7_restore 114 = .ok (.aload_n 0, 1) := by decide +kernel
theorem dX7_restore_115 : decode cX7_restore 115 = .ok (.aload_n 0, 1) := by decide +kernel
theorem dX7_restore_116 : decode cX7_restore 116 = .ok (.getfield 59, 3) := by decide +kernel
theorem dX7_restore_119 : decode cX7_restore 119 = .ok (.bipush 99, 2) := by decide +kernel
theorem dX7_restore_121 : decode cX7_restore 121 = .ok (.iaload, 1) := by decide +kernel
theorem dX7_restore_122 : decode cX7_restore 122 = .ok (.putfield 132, 3) := by decide +kernel
theorem dX7_restore_125 : decode cX7_restore 125 = .ok (.aload_n 0, 1) := by decide +kernel
theorem dX7_restore_126 : decode cX7_restore 126 = .ok (.aload_n 0, 1) := by decide +kernel
theorem dX7_restore_127 : decode cX7_restore 127 = .ok (.getfield 59, 3) := by decide +kernel
theorem dX7_restore_130 : decode cX7_restore 130 = .ok (.bipush 100, 2) := by decide +kernel
theorem dX7_restore_132 : decode cX7_restore 132 = .ok (.iaload, 1) := by decide +kernel
theorem dX7_restore_133 : decode cX7_restore 133 = .ok (.putfield 41, 3) := by decide +kernel
theorem dX7_restore_136 : decode cX7_restore 136 = .ok (.iconst 1, 1) := by decide +kernel
theorem dX7_restore_137 : decode cX7_restore 137 = .ok (.ireturn, 1) := by decide +kernel
theorem dX7_isSheet_0 : decode cX7_isSheet 0 = .ok (.iload_n 0, 1) := by decide +kernel
theorem dX7_isSheet_1 : decode cX7_isSheet 1 = .ok (.i2l, 1) := by decide +kernel
theorem dX7_isSheet_2 : decode cX7_isSheet 2 = .ok (.lconst 0, 1) := by decide +kernel
theorem dX7_isSheet_3 : decode cX7_isSheet 3 = .ok (.ldc2_w 91, 3) := by decide +kernel
theorem dX7_isSheet_6 : decode cX7_isSheet 6 = .ok (.invokestatic 80, 3) := by decide +kernel
theorem dX7_isSheet_9 : decode cX7_isSheet 9 = .ok (.ifCond .eq 19, 3) := by decide +kernel
theorem dX7_isSheet_12 : decode cX7_isSheet 12 = .ok (.iload_n 1, 1) := by decide +kernel
theorem dX7_isSheet_13 : decode cX7_isSheet 13 = .ok (.i2l, 1) := by decide +kernel
theorem dX7_isSheet_14 : decode cX7_isSheet 14 = .ok (.lconst 0, 1) := by decide +kernel
theorem dX7_isSheet_15 : decode cX7_isSheet 15 = .ok (.ldc2_w 183, 3) := by decide +kernel
theorem dX7_isSheet_18 : decode cX7_isSheet 18 = .ok (.invokestatic 80, 3) := by decide +kernel
theorem dX7_isSheet_21 : decode cX7_isSheet 21 = .ok (.ifCond .eq 7, 3) := by decide +kernel
theorem dX7_isSheet_24 : decode cX7_isSheet 24 = .ok (.iconst 1, 1) := by decide +kernel
theorem dX7_isSheet_25 : decode cX7_isSheet 25 = .ok (.goto 4, 3) := by decide +kernel
theorem dX7_isSheet_28 : decode cX7_isSheet 28 = .ok (.iconst 0, 1) := by decide +kernel
theorem dX7_isSheet_29 : decode cX7_isSheet 29 = .ok (.ireturn, 1) := by decide +kernel
theorem dX7_asLane_0 : decode cX7_asLane 0 = .ok (.iload_n 0, 1) := by decide +kernel
theorem dX7_asLane_1 : decode cX7_asLane 1 = .ok (.ifCond .ne 13, 3) := by decide +kernel
theorem dX7_asLane_4 : decode cX7_asLane 4 = .ok (.lload_n 1, 1) := by decide +kernel
theorem dX7_asLane_5 : decode cX7_asLane 5 = .ok (.bipush 56, 2) := by decide +kernel
theorem dX7_asLane_7 : decode cX7_asLane 7 = .ok (.lshl, 1) := by decide +kernel
theorem dX7_asLane_8 : decode cX7_asLane 8 = .ok (.bipush 56, 2) := by decide +kernel
theorem dX7_asLane_10 : decode cX7_asLane 10 = .ok (.lshr, 1) := by decide +kernel
theorem dX7_asLane_11 : decode cX7_asLane 11 = .ok (.goto 19, 3) := by decide +kernel
theorem dX7_asLane_14 : decode cX7_asLane 14 = .ok (.iload_n 0, 1) := by decide +kernel
theorem dX7_asLane_15 : decode cX7_asLane 15 = .ok (.iconst 1, 1) := by decide +kernel
theorem dX7_asLane_16 : decode cX7_asLane 16 = .ok (.if_icmp .ne 13, 3) := by decide +kernel
theorem dX7_asLane_19 : decode cX7_asLane 19 = .ok (.lload_n 1, 1) := by decide +kernel
theorem dX7_asLane_20 : decode cX7_asLane 20 = .ok (.bipush 32, 2) := by decide +kernel
theorem dX7_asLane_22 : decode cX7_asLane 22 = .ok (.lshl, 1) := by decide +kernel
theorem dX7_asLane_23 : decode cX7_asLane 23 = .ok (.bipush 32, 2) := by decide +kernel
theorem dX7_asLane_25 : decode cX7_asLane 25 = .ok (.lshr, 1) := by decide +kernel
theorem dX7_asLane_26 : decode cX7_asLane 26 = .ok (.goto 4, 3) := by decide +kernel
theorem dX7_asLane_29 : decode cX7_asLane 29 = .ok (.lload_n 1, 1) := by decide +kernel
theorem dX7_asLane_30 : decode cX7_asLane 30 = .ok (.lreturn, 1) := by decide +kernel
theorem dX7_sheet_0 : decode cX7_sheet 0 = .ok (.iload_n 1, 1) := by decide +kernel
theorem dX7_sheet_1 : decode cX7_sheet 1 = .ok (.iload_n 2, 1) := by decide +kernel
theorem dX7_sheet_2 : decode cX7_sheet 2 = .ok (.invokestatic 249, 3) := by decide +kernel
theorem dX7_sheet_5 : decode cX7_sheet 5 = .ok (.ifCond .eq 9, 3) := by decide +kernel
theorem dX7_sheet_8 : decode cX7_sheet 8 = .ok (.iload_n 3, 1) := by decide +kernel
theorem dX7_sheet_9 : decode cX7_sheet 9 = .ok (.bipush 24, 2) := by decide +kernel
theorem dX7_sheet_11 : decode cX7_sheet 11 = .ok (.if_icmp .le 5, 3) := by decide +kernel
theorem dX7_sheet_14 : decode cX7_sheet 14 = .ok (.iconst (-1), 1) := by decide +kernel
theorem dX7_sheet_15 : decode cX7_sheet 15 = .ok (.ireturn, 1) := by decide +kernel
theorem dX7_sheet_16 : decode cX7_sheet 16 = .ok (.iload_n 3, 1) := by decide +kernel
theorem dX7_sheet_17 : decode cX7_sheet 17 = .ok (.ifCond .ge 6, 3) := by decide +kernel
theorem dX7_sheet_20 : decode cX7_sheet 20 = .ok (.bipush (-14), 2) := by decide +kernel
theorem dX7_sheet_22 : decode cX7_sheet 22 = .ok (.ireturn, 1) := by decide +kernel
theorem dX7_sheet_23 : decode cX7_sheet 23 = .ok (.aload_n 0, 1) := by decide +kernel
theorem dX7_sheet_24 : decode cX7_sheet 24 = .ok (.getfield 62, 3) := by decide +kernel
theorem dX7_sheet_27 : decode cX7_sheet 27 = .ok (.iload_n 1, 1) := by decide +kernel
theorem dX7_sheet_28 : decode cX7_sheet 28 = .ok (.iload_n 2, 1) := by decide +kernel
theorem dX7_sheet_29 : decode cX7_sheet 29 = .ok (.iastore, 1) := by decide +kernel
theorem dX7_sheet_30 : decode cX7_sheet 30 = .ok (.aload_n 0, 1) := by decide +kernel
theorem dX7_sheet_31 : decode cX7_sheet 31 = .ok (.getfield 65, 3) := by decide +kernel
theorem dX7_sheet_34 : decode cX7_sheet 34 = .ok (.iload_n 1, 1) := by decide +kernel
theorem dX7_sheet_35 : decode cX7_sheet 35 = .ok (.iload_n 3, 1) := by decide +kernel
theorem dX7_sheet_36 : decode cX7_sheet 36 = .ok (.iastore, 1) := by decide +kernel
theorem dX7_sheet_37 : decode cX7_sheet 37 = .ok (.iconst 0, 1) := by decide +kernel
theorem dX7_sheet_38 : decode cX7_sheet 38 = .ok (.istore 4, 2) := by decide +kernel
theorem dX7_sheet_40 : decode cX7_sheet 40 = .ok (.iload 4, 2) := by decide +kernel
theorem dX7_sheet_42 : decode cX7_sheet 42 = .ok (.bipush 24, 2) := by decide +kernel
theorem dX7_sheet_44 : decode cX7_sheet 44 = .ok (.if_icmp .ge 22, 3) := by decide +kernel
theorem dX7_sheet_47 : decode cX7_sheet 47 = .ok (.aload_n 0, 1) := by decide +kernel
theorem dX7_sheet_48 : decode cX7_sheet 48 = .ok (.getfield 68, 3) := by decide +kernel
theorem dX7_sheet_51 : decode cX7_sheet 51 = .ok (.bipush 24, 2) := by decide +kernel
theorem dX7_sheet_53 : decode cX7_sheet 53 = .ok (.iload_n 1, 1) := by decide +kernel
theorem dX7_sheet_54 : decode cX7_sheet 54 = .ok (.imul, 1) := by decide +kernel
theorem dX7_sheet_55 : decode cX7_sheet 55 = .ok (.iload 4, 2) := by decide +kernel
theorem dX7_sheet_57 : decode cX7_sheet 57 = .ok (.iadd, 1) := by decide +kernel
theorem dX7_sheet_58 : decode cX7_sheet 58 = .ok (.lconst 0, 1) := by decide +kernel
theorem dX7_sheet_59 : decode cX7_sheet 59 = .ok (.lastore, 1) := by decide +kernel
theorem dX7_sheet_60 : decode cX7_sheet 60 = .ok (.iinc 4 1, 3) := by decide +kernel
theorem dX7_sheet_63 : decode cX7_sheet 63 = .ok (.goto (-23), 3) := by decide +kernel
theorem dX7_sheet_66 : decode cX7_sheet 66 = .ok (.iload_n 3, 1) := by decide +kernel
theorem dX7_sheet_67 : decode cX7_sheet 67 = .ok (.ireturn, 1) := by decide +kernel
theorem dX7_drop_0 : decode cX7_drop 0 = .ok (.iload_n 1, 1) := by decide +kernel
theorem dX7_drop_1 : decode cX7_drop 1 = .ok (.i2l, 1) := by decide +kernel
theorem dX7_drop_2 : decode cX7_drop 2 = .ok (.lconst 0, 1) := by decide +kernel
theorem dX7_drop_3 : decode cX7_drop 3 = .ok (.ldc2_w 91, 3) := by decide +kernel
theorem dX7_drop_6 : decode cX7_drop 6 = .ok (.invokestatic 80, 3) := by decide +kernel
theorem dX7_drop_9 : decode cX7_drop 9 = .ok (.ifCond .ne 5, 3) := by decide +kernel
theorem dX7_drop_12 : decode cX7_drop 12 = .ok (.iconst (-1), 1) := by decide +kernel
theorem dX7_drop_13 : decode cX7_drop 13 = .ok (.ireturn, 1) := by decide +kernel
theorem dX7_drop_14 : decode cX7_drop 14 = .ok (.aload_n 0, 1) := by decide +kernel
theorem dX7_drop_15 : decode cX7_drop 15 = .ok (.getfield 62, 3) := by decide +kernel
theorem dX7_drop_18 : decode cX7_drop 18 = .ok (.iload_n 1, 1) := by decide +kernel
theorem dX7_drop_19 : decode cX7_drop 19 = .ok (.iaload, 1) := by decide +kernel
theorem dX7_drop_20 : decode cX7_drop 20 = .ok (.ifCond .ge 6, 3) := by decide +kernel
theorem dX7_drop_23 : decode cX7_drop 23 = .ok (.bipush (-11), 2) := by decide +kernel
theorem dX7_drop_25 : decode cX7_drop 25 = .ok (.ireturn, 1) := by decide +kernel
theorem dX7_drop_26 : decode cX7_drop 26 = .ok (.aload_n 0, 1) := by decide +kernel
theorem dX7_drop_27 : decode cX7_drop 27 = .ok (.getfield 62, 3) := by decide +kernel
theorem dX7_drop_30 : decode cX7_drop 30 = .ok (.iload_n 1, 1) := by decide +kernel
theorem dX7_drop_31 : decode cX7_drop 31 = .ok (.iconst (-1), 1) := by decide +kernel
theorem dX7_drop_32 : decode cX7_drop 32 = .ok (.iastore, 1) := by decide +kernel
theorem dX7_drop_33 : decode cX7_drop 33 = .ok (.aload_n 0, 1) := by decide +kernel
theorem dX7_drop_34 : decode cX7_drop 34 = .ok (.getfield 65, 3) := by decide +kernel
theorem dX7_drop_37 : decode cX7_drop 37 = .ok (.iload_n 1, 1) := by decide +kernel
theorem dX7_drop_38 : decode cX7_drop 38 = .ok (.iaload, 1) := by decide +kernel
theorem dX7_drop_39 : decode cX7_drop 39 = .ok (.ireturn, 1) := by decide +kernel
theorem dX7_lacksRow_0 : decode cX7_lacksRow 0 = .ok (.aload_n 0, 1) := by decide +kernel
theorem dX7_lacksRow_1 : decode cX7_lacksRow 1 = .ok (.getfield 62, 3) := by decide +kernel
theorem dX7_lacksRow_4 : decode cX7_lacksRow 4 = .ok (.iload_n 1, 1) := by decide +kernel
theorem dX7_lacksRow_5 : decode cX7_lacksRow 5 = .ok (.iaload, 1) := by decide +kernel
theorem dX7_lacksRow_6 : decode cX7_lacksRow 6 = .ok (.iload_n 2, 1) := by decide +kernel
theorem dX7_lacksRow_7 : decode cX7_lacksRow 7 = .ok (.if_icmp .eq 20, 3) := by decide +kernel
theorem dX7_lacksRow_10 : decode cX7_lacksRow 10 = .ok (.aload_n 0, 1) := by decide +kernel
theorem dX7_lacksRow_11 : decode cX7_lacksRow 11 = .ok (.getfield 62, 3) := by decide +kernel
theorem dX7_lacksRow_14 : decode cX7_lacksRow 14 = .ok (.iload_n 1, 1) := by decide +kernel
theorem dX7_lacksRow_15 : decode cX7_lacksRow 15 = .ok (.iaload, 1) := by decide +kernel
theorem dX7_lacksRow_16 : decode cX7_lacksRow 16 = .ok (.ifCond .ge 8, 3) := by decide +kernel
theorem dX7_lacksRow_19 : decode cX7_lacksRow 19 = .ok (.bipush (-11), 2) := by decide +kernel
theorem dX7_lacksRow_21 : decode cX7_lacksRow 21 = .ok (.goto 5, 3) := by decide +kernel
theorem dX7_lacksRow_24 : decode cX7_lacksRow 24 = .ok (.bipush (-12), 2) := by decide +kernel
theorem dX7_lacksRow_26 : decode cX7_lacksRow 26 = .ok (.ireturn, 1) := by decide +kernel
theorem dX7_lacksRow_27 : decode cX7_lacksRow 27 = .ok (.iload_n 3, 1) := by decide +kernel
theorem dX7_lacksRow_28 : decode cX7_lacksRow 28 = .ok (.i2l, 1) := by decide +kernel
theorem dX7_lacksRow_29 : decode cX7_lacksRow 29 = .ok (.lconst 0, 1) := by decide +kernel
theorem dX7_lacksRow_30 : decode cX7_lacksRow 30 = .ok (.aload_n 0, 1) := by decide +kernel
theorem dX7_lacksRow_31 : decode cX7_lacksRow 31 = .ok (.getfield 65, 3) := by decide +kernel
theorem dX7_lacksRow_34 : decode cX7_lacksRow 34 = .ok (.iload_n 1, 1) := by decide +kernel
theorem dX7_lacksRow_35 : decode cX7_lacksRow 35 = .ok (.iaload, 1) := by decide +kernel
theorem dX7_lacksRow_36 : decode cX7_lacksRow 36 = .ok (.iload 4, 2) := by decide +kernel
theorem dX7_lacksRow_38 : decode cX7_lacksRow 38 = .ok (.isub, 1) := by decide +kernel
theorem dX7_lacksRow_39 : decode cX7_lacksRow 39 = .ok (.i2l, 1) := by decide +kernel
theorem dX7_lacksRow_40 : decode cX7_lacksRow 40 = .ok (.invokestatic 80, 3) := by decide +kernel
theorem dX7_lacksRow_43 : decode cX7_lacksRow 43 = .ok (.ifCond .eq 7, 3) := by decide +kernel
theorem dX7_lacksRow_46 : decode cX7_lacksRow 46 = .ok (.iconst 0, 1) := by decide +kernel
theorem dX7_lacksRow_47 : decode cX7_lacksRow 47 = .ok (.goto 5, 3) := by decide +kernel
theorem dX7_lacksRow_50 : decode cX7_lacksRow 50 = .ok (.bipush (-13), 2) := by decide +kernel
theorem dX7_lacksRow_52 : decode cX7_lacksRow 52 = .ok (.ireturn, 1) := by decide +kernel
theorem dX7_item_0 : decode cX7_item 0 = .ok (.iload_n 1, 1) := by decide +kernel
theorem dX7_item_1 : decode cX7_item 1 = .ok (.iload_n 2, 1) := by decide +kernel
theorem dX7_item_2 : decode cX7_item 2 = .ok (.invokestatic 249, 3) := by decide +kernel
theorem dX7_item_5 : decode cX7_item 5 = .ok (.ifCond .ne 5, 3) := by decide +kernel
theorem dX7_item_8 : decode cX7_item 8 = .ok (.iconst (-1), 1) := by decide +kernel
theorem dX7_item_9 : decode cX7_item 9 = .ok (.ireturn, 1) := by decide +kernel
theorem dX7_item_10 : decode cX7_item 10 = .ok (.aload_n 0, 1) := by decide +kernel
theorem dX7_item_11 : decode cX7_item 11 = .ok (.iload_n 1, 1) := by decide +kernel
theorem dX7_item_12 : decode cX7_item 12 = .ok (.iload_n 2, 1) := by decide +kernel
theorem dX7_item_13 : decode cX7_item 13 = .ok (.iload_n 3, 1) := by decide +kernel
theorem dX7_item_14 : decode cX7_item 14 = .ok (.iconst 1, 1) := by decide +kernel
theorem dX7_item_15 : decode cX7_item 15 = .ok (.invokevirtual 252, 3) := by decide +kernel
theorem dX7_item_18 : decode cX7_item 18 = .ok (.istore 6, 2) := by decide +kernel
theorem dX7_item_20 : decode cX7_item 20 = .ok (.iload 6, 2) := by decide +kernel
theorem dX7_item_22 : decode cX7_item 22 = .ok (.ifCond .ge 6, 3) := by decide +kernel
theorem dX7_item_25 : decode cX7_item 25 = .ok (.iload 6, 2) := by decide +kernel
theorem dX7_item_27 : decode cX7_item 27 = .ok (.ireturn, 1) := by decide +kernel
theorem dX7_item_28 : decode cX7_item 28 = .ok (.aload_n 0, 1) := by decide +kernel
theorem dX7_item_29 : decode cX7_item 29 = .ok (.getfield 68, 3) := by decide +kernel
theorem dX7_item_32 : decode cX7_item 32 = .ok (.bipush 24, 2) := by decide +kernel
theorem dX7_item_34 : decode cX7_item 34 = .ok (.iload_n 1, 1) := by decide +kernel
theorem dX7_item_35 : decode cX7_item 35 = .ok (.imul, 1) := by decide +kernel
theorem dX7_item_36 : decode cX7_item 36 = .ok (.iload_n 3, 1) := by decide +kernel
theorem dX7_item_37 : decode cX7_item 37 = .ok (.iadd, 1) := by decide +kernel
theorem dX7_item_38 : decode cX7_item 38 = .ok (.iload_n 2, 1) := by decide +kernel
theorem dX7_item_39 : decode cX7_item 39 = .ok (.lload 4, 2) := by decide +kernel
theorem dX7_item_41 : decode cX7_item 41 = .ok (.invokestatic 256, 3) := by decide +kernel
theorem dX7_item_44 : decode cX7_item 44 = .ok (.lastore, 1) := by decide +kernel
theorem dX7_item_45 : decode cX7_item 45 = .ok (.iconst 1, 1) := by decide +kernel
theorem dX7_item_46 : decode cX7_item 46 = .ok (.ireturn, 1) := by decide +kernel
theorem dX7_isTold_0 : decode cX7_isTold 0 = .ok (.iconst 1, 1) := by decide +kernel
theorem dX7_isTold_1 : decode cX7_isTold 1 = .ok (.istore 5, 2) := by decide +kernel
theorem dX7_isTold_3 : decode cX7_isTold 3 = .ok (.iconst 0, 1) := by decide +kernel
theorem dX7_isTold_4 : decode cX7_isTold 4 = .ok (.istore 6, 2) := by decide +kernel
theorem dX7_isTold_6 : decode cX7_isTold 6 = .ok (.iload 6, 2) := by decide +kernel
theorem dX7_isTold_8 : decode cX7_isTold 8 = .ok (.iload_n 2, 1) := by decide +kernel
theorem dX7_isTold_9 : decode cX7_isTold 9 = .ok (.if_icmp .ge 58, 3) := by decide +kernel
theorem dX7_isTold_12 : decode cX7_isTold 12 = .ok (.iload 5, 2) := by decide +kernel
theorem dX7_isTold_14 : decode cX7_isTold 14 = .ok (.ifCond .eq 44, 3) := by decide +kernel
theorem dX7_isTold_17 : decode cX7_isTold 17 = .ok (.aload_n 0, 1) := by decide +kernel
theorem dX7_isTold_18 : decode cX7_isTold 18 = .ok (.getfield 68, 3) := by decide +kernel
theorem dX7_isTold_21 : decode cX7_isTold 21 = .ok (.iload_n 1, 1) := by decide +kernel
theorem dX7_isTold_22 : decode cX7_isTold 22 = .ok (.iconst 2, 1) := by decide +kernel
theorem dX7_isTold_23 : decode cX7_isTold 23 = .ok (.iload 6, 2) := by decide +kernel
theorem dX7_isTold_25 : decode cX7_isTold 25 = .ok (.imul, 1) := by decide +kernel
theorem dX7_isTold_26 : decode cX7_isTold 26 = .ok (.iadd, 1) := by decide +kernel
theorem dX7_isTold_27 : decode cX7_isTold 27 = .ok (.laload, 1) := by decide +kernel
theorem dX7_isTold_28 : decode cX7_isTold 28 = .ok (.iload_n 3, 1) := by decide +kernel
theorem dX7_isTold_29 : decode cX7_isTold 29 = .ok (.i2l, 1) := by decide +kernel
theorem dX7_isTold_30 : decode cX7_isTold 30 = .ok (.lcmp, 1) := by decide +kernel
theorem dX7_isTold_31 : decode cX7_isTold 31 = .ok (.ifCond .ne 23, 3) := by decide +kernel
theorem dX7_isTold_34 : decode cX7_isTold 34 = .ok (.aload_n 0, 1) := by decide +kernel
theorem dX7_isTold_35 : decode cX7_isTold 35 = .ok (.getfield 68, 3) := by decide +kernel
theorem dX7_isTold_38 : decode cX7_isTold 38 = .ok (.iload_n 1, 1) := by decide +kernel
theorem dX7_isTold_39 : decode cX7_isTold 39 = .ok (.iconst 2, 1) := by decide +kernel
theorem dX7_isTold_40 : decode cX7_isTold 40 = .ok (.iload 6, 2) := by decide +kernel
theorem dX7_isTold_42 : decode cX7_isTold 42 = .ok (.imul, 1) := by decide +kernel
theorem dX7_isTold_43 : decode cX7_isTold 43 = .ok (.iadd, 1) := by decide +kernel
theorem dX7_isTold_44 : decode cX7_isTold 44 = .ok (.iconst 1, 1) := by decide +kernel
theorem dX7_isTold_45 : decode cX7_isTold 45 = .ok (.iadd, 1) := by decide +kernel
theorem dX7_isTold_46 : decode cX7_isTold 46 = .ok (.laload, 1) := by decide +kernel
theorem dX7_isTold_47 : decode cX7_isTold 47 = .ok (.iload 4, 2) := by decide +kernel
theorem dX7_isTold_49 : decode cX7_isTold 49 = .ok (.i2l, 1) := by decide +kernel
theorem dX7_isTold_50 : decode cX7_isTold 50 = .ok (.lcmp, 1) := by decide +kernel
theorem dX7_isTold_51 : decode cX7_isTold 51 = .ok (.ifCond .ne 7, 3) := by decide +kernel
theorem dX7_isTold_54 : decode cX7_isTold 54 = .ok (.iconst 1, 1) := by decide +kernel
theorem dX7_isTold_55 : decode cX7_isTold 55 = .ok (.goto 4, 3) := by decide +kernel
theorem dX7_isTold_58 : decode cX7_isTold 58 = .ok (.iconst 0, 1) := by decide +kernel
theorem dX7_isTold_59 : decode cX7_isTold 59 = .ok (.istore 5, 2) := by decide +kernel
theorem dX7_isTold_61 : decode cX7_isTold 61 = .ok (.iinc 6 1, 3) := by decide +kernel
theorem dX7_isTold_64 : decode cX7_isTold 64 = .ok (.goto (-58), 3) := by decide +kernel
theorem dX7_isTold_67 : decode cX7_isTold 67 = .ok (.iload 5, 2) := by decide +kernel
theorem dX7_isTold_69 : decode cX7_isTold 69 = .ok (.ireturn, 1) := by decide +kernel
theorem dX7_waysBy_0 : decode cX7_waysBy 0 = .ok (.iconst 0, 1) := by decide +kernel
theorem dX7_waysBy_1 : decode cX7_waysBy 1 = .ok (.istore 5, 2) := by decide +kernel
theorem dX7_waysBy_3 : decode cX7_waysBy 3 = .ok (.iload 5, 2) := by decide +kernel
theorem dX7_waysBy_5 : decode cX7_waysBy 5 = .ok (.bipush 48, 2) := by decide +kernel
theorem dX7_waysBy_7 : decode cX7_waysBy 7 = .ok (.if_icmp .gt 37, 3) := by decide +kernel
theorem dX7_waysBy_10 : decode cX7_waysBy 10 = .ok (.aload_n 0, 1) := by decide +kernel
theorem dX7_waysBy_11 : decode cX7_waysBy 11 = .ok (.getfield 72, 3) := by decide +kernel
theorem dX7_waysBy_14 : decode cX7_waysBy 14 = .ok (.iload 5, 2) := by decide +kernel
theorem dX7_waysBy_16 : decode cX7_waysBy 16 = .ok (.iload 5, 2) := by decide +kernel
theorem dX7_waysBy_18 : decode cX7_waysBy 18 = .ok (.ifCond .ne 18, 3) := by decide +kernel
theorem dX7_waysBy_21 : decode cX7_waysBy 21 = .ok (.aload_n 0, 1) := by decide +kernel
theorem dX7_waysBy_22 : decode cX7_waysBy 22 = .ok (.iload_n 1, 1) := by decide +kernel
theorem dX7_waysBy_23 : decode cX7_waysBy 23 = .ok (.iload_n 2, 1) := by decide +kernel
theorem dX7_waysBy_24 : decode cX7_waysBy 24 = .ok (.iconst 0, 1) := by decide +kernel
theorem dX7_waysBy_25 : decode cX7_waysBy 25 = .ok (.iconst 0, 1) := by decide +kernel
theorem dX7_waysBy_26 : decode cX7_waysBy 26 = .ok (.invokevirtual 260, 3) := by decide +kernel
theorem dX7_waysBy_29 : decode cX7_waysBy 29 = .ok (.ifCond .eq 7, 3) := by decide +kernel
theorem dX7_waysBy_32 : decode cX7_waysBy 32 = .ok (.lconst 1, 1) := by decide +kernel
theorem dX7_waysBy_33 : decode cX7_waysBy 33 = .ok (.goto 4, 3) := by decide +kernel
theorem dX7_waysBy_36 : decode cX7_waysBy 36 = .ok (.lconst 0, 1) := by decide +kernel
theorem dX7_waysBy_37 : decode cX7_waysBy 37 = .ok (.lastore, 1) := by decide +kernel
theorem dX7_waysBy_38 : decode cX7_waysBy 38 = .ok (.iinc 5 1, 3) := by decide +kernel
theorem dX7_waysBy_41 : decode cX7_waysBy 41 = .ok (.goto (-38), 3) := by decide +kernel
theorem dX7_waysBy_44 : decode cX7_waysBy 44 = .ok (.iconst 0, 1) := by decide +kernel
theorem dX7_waysBy_45 : decode cX7_waysBy 45 = .ok (.istore 5, 2) := by decide +kernel
theorem dX7_waysBy_47 : decode cX7_waysBy 47 = .ok (.iload 5, 2) := by decide +kernel
theorem dX7_waysBy_49 : decode cX7_waysBy 49 = .ok (.bipush 24, 2) := by decide +kernel
theorem dX7_waysBy_51 : decode cX7_waysBy 51 = .ok (.if_icmp .ge 114, 3) := by decide +kernel
theorem dX7_waysBy_54 : decode cX7_waysBy 54 = .ok (.bipush 48, 2) := by decide +kernel
theorem dX7_waysBy_56 : decode cX7_waysBy 56 = .ok (.istore 6, 2) := by decide +kernel
theorem dX7_waysBy_58 : decode cX7_waysBy 58 = .ok (.iload 6, 2) := by decide +kernel
theorem dX7_waysBy_60 : decode cX7_waysBy 60 = .ok (.ifCond .lt 99, 3) := by decide +kernel
theorem dX7_waysBy_63 : decode cX7_waysBy 63 = .ok (.lconst 0, 1) := by decide +kernel
theorem dX7_waysBy_64 : decode cX7_waysBy 64 = .ok (.lstore 7, 2) := by decide +kernel
theorem dX7_waysBy_66 : decode cX7_waysBy 66 = .ok (.iconst 0, 1) := by decide +kernel
theorem dX7_waysBy_67 : decode cX7_waysBy 67 = .ok (.istore 9, 2) := by decide +kernel
theorem dX7_waysBy_69 : decode cX7_waysBy 69 = .ok (.iload 9, 2) := by decide +kernel
theorem dX7_waysBy_71 : decode cX7_waysBy 71 = .ok (.iconst 3, 1) := by decide +kernel
theorem dX7_waysBy_72 : decode cX7_waysBy 72 = .ok (.if_icmp .ge 53, 3) := by decide +kernel
theorem dX7_waysBy_75 : decode cX7_waysBy 75 = .ok (.iload 9, 2) := by decide +kernel
theorem dX7_waysBy_77 : decode cX7_waysBy 77 = .ok (.iload 6, 2) := by decide +kernel
theorem dX7_waysBy_79 : decode cX7_waysBy 79 = .ok (.if_icmp .gt 46, 3) := by decide +kernel
theorem dX7_waysBy_82 : decode cX7_waysBy 82 = .ok (.lload 7, 2) := by decide +kernel
theorem dX7_waysBy_84 : decode cX7_waysBy 84 = .ok (.iload 5, 2) := by decide +kernel
theorem dX7_waysBy_86 : decode cX7_waysBy 86 = .ok (.iload_n 3, 1) := by decide +kernel
theorem dX7_waysBy_87 : decode cX7_waysBy 87 = .ok (.if_icmp .ne 15, 3) := by decide +kernel
theorem dX7_waysBy_90 : decode cX7_waysBy 90 = .ok (.iload 4, 2) := by decide +kernel
theorem dX7_waysBy_92 : decode cX7_waysBy 92 = .ok (.ifCond .lt 10, 3) := by decide +kernel
theorem dX7_waysBy_95 : decode cX7_waysBy 95 = .ok (.iload 9, 2) := by decide +kernel
theorem dX7_waysBy_97 : decode cX7_waysBy 97 = .ok (.iload 4, 2) := by decide +kernel
theorem dX7_waysBy_99 : decode cX7_waysBy 99 = .ok (.if_icmp .ne 16, 3) := by decide +kernel
theorem dX7_waysBy_102 : decode cX7_waysBy 102 = .ok (.aload_n 0, 1) := by decide +kernel
theorem dX7_waysBy_103 : decode cX7_waysBy 103 = .ok (.getfield 72, 3) := by decide +kernel
theorem dX7_waysBy_106 : decode cX7_waysBy 106 = .ok (.iload 6, 2) := by decide +kernel
theorem dX7_waysBy_108 : decode cX7_waysBy 108 = .ok (.iload 9, 2) := by decide +kernel
theorem dX7_waysBy_110 : decode cX7_waysBy 110 = .ok (.isub, 1) := by decide +kernel
theorem dX7_waysBy_111 : decode cX7_waysBy 111 = .ok (.laload, 1) := by decide +kernel
theorem dX7_waysBy_112 : decode cX7_waysBy 112 = .ok (.goto 4, 3) := by decide +kernel
theorem dX7_waysBy_115 : decode cX7_waysBy 115 = .ok (.lconst 0, 1) := by decide +kernel
theorem dX7_waysBy_116 : decode cX7_waysBy 116 = .ok (.ladd, 1) := by decide +kernel
theorem dX7_waysBy_117 : decode cX7_waysBy 117 = .ok (.lstore 7, 2) := by decide +kernel
theorem dX7_waysBy_119 : decode cX7_waysBy 119 = .ok (.iinc 9 1, 3) := by decide +kernel
theorem dX7_waysBy_122 : decode cX7_waysBy 122 = .ok (.goto (-53), 3) := by decide +kernel
theorem dX7_waysBy_125 : decode cX7_waysBy 125 = .ok (.aload_n 0, 1) := by decide +kernel
theorem dX7_waysBy_126 : decode cX7_waysBy 126 = .ok (.getfield 72, 3) := by decide +kernel
theorem dX7_waysBy_129 : decode cX7_waysBy 129 = .ok (.iload 6, 2) := by decide +kernel
theorem dX7_waysBy_131 : decode cX7_waysBy 131 = .ok (.aload_n 0, 1) := by decide +kernel
theorem dX7_waysBy_132 : decode cX7_waysBy 132 = .ok (.iload_n 1, 1) := by decide +kernel
theorem dX7_waysBy_133 : decode cX7_waysBy 133 = .ok (.iload_n 2, 1) := by decide +kernel
theorem dX7_waysBy_134 : decode cX7_waysBy 134 = .ok (.iload 5, 2) := by decide +kernel
theorem dX7_waysBy_136 : decode cX7_waysBy 136 = .ok (.iconst 1, 1) := by decide +kernel
theorem dX7_waysBy_137 : decode cX7_waysBy 137 = .ok (.iadd, 1) := by decide +kernel
theorem dX7_waysBy_138 : decode cX7_waysBy 138 = .ok (.iload 6, 2) := by decide +kernel
theorem dX7_waysBy_140 : decode cX7_waysBy 140 = .ok (.invokevirtual 260, 3) := by decide +kernel
theorem dX7_waysBy_143 : decode cX7_waysBy 143 = .ok (.ifCond .eq 8, 3) := by decide +kernel
theorem dX7_waysBy_146 : decode cX7_waysBy 146 = .ok (.lload 7, 2) := by decide +kernel
theorem dX7_waysBy_148 : decode cX7_waysBy 148 = .ok (.goto 4, 3) := by decide +kernel
theorem dX7_waysBy_151 : decode cX7_waysBy 151 = .ok (.lconst 0, 1) := by decide +kernel
theorem dX7_waysBy_152 : decode cX7_waysBy 152 = .ok (.lastore, 1) := by decide +kernel
theorem dX7_waysBy_153 : decode cX7_waysBy 153 = .ok (.iinc 6 (-1), 3) := by decide +kernel
theorem dX7_waysBy_156 : decode cX7_waysBy 156 = .ok (.goto (-98), 3) := by decide +kernel
theorem dX7_waysBy_159 : decode cX7_waysBy 159 = .ok (.iinc 5 1, 3) := by decide +kernel
theorem dX7_waysBy_162 : decode cX7_waysBy 162 = .ok (.goto (-115), 3) := by decide +kernel
theorem dX7_waysBy_165 : decode cX7_waysBy 165 = .ok (.lconst 0, 1) := by decide +kernel
theorem dX7_waysBy_166 : decode cX7_waysBy 166 = .ok (.lstore 5, 2) := by decide +kernel
theorem dX7_waysBy_168 : decode cX7_waysBy 168 = .ok (.iconst 0, 1) := by decide +kernel
theorem dX7_waysBy_169 : decode cX7_waysBy 169 = .ok (.istore 7, 2) := by decide +kernel
theorem dX7_waysBy_171 : decode cX7_waysBy 171 = .ok (.iload 7, 2) := by decide +kernel
theorem dX7_waysBy_173 : decode cX7_waysBy 173 = .ok (.bipush 48, 2) := by decide +kernel
theorem dX7_waysBy_175 : decode cX7_waysBy 175 = .ok (.if_icmp .gt 21, 3) := by decide +kernel
theorem dX7_waysBy_178 : decode cX7_waysBy 178 = .ok (.lload 5, 2) := by decide +kernel
theorem dX7_waysBy_180 : decode cX7_waysBy 180 = .ok (.aload_n 0, 1) := by decide +kernel
theorem dX7_waysBy_181 : decode cX7_waysBy 181 = .ok (.getfield 72, 3) := by decide +kernel
theorem dX7_waysBy_184 : decode cX7_waysBy 184 = .ok (.iload 7, 2) := by decide +kernel
theorem dX7_waysBy_186 : decode cX7_waysBy 186 = .ok (.laload, 1) := by decide +kernel
theorem dX7_waysBy_187 : decode cX7_waysBy 187 = .ok (.ladd, 1) := by decide +kernel
theorem dX7_waysBy_188 : decode cX7_waysBy 188 = .ok (.lstore 5, 2) := by decide +kernel
theorem dX7_waysBy_190 : decode cX7_waysBy 190 = .ok (.iinc 7 1, 3) := by decide +kernel
theorem dX7_waysBy_193 : decode cX7_waysBy 193 = .ok (.goto (-22), 3) := by decide +kernel
theorem dX7_waysBy_196 : decode cX7_waysBy 196 = .ok (.lload 5, 2) := by decide +kernel
theorem dX7_waysBy_198 : decode cX7_waysBy 198 = .ok (.lreturn, 1) := by decide +kernel
theorem dX7_lacksClocks_0 : decode cX7_lacksClocks 0 = .ok (.aload_n 0, 1) := by decide +kernel
theorem dX7_lacksClocks_1 : decode cX7_lacksClocks 1 = .ok (.iload_n 1, 1) := by decide +kernel
theorem dX7_lacksClocks_2 : decode cX7_lacksClocks 2 = .ok (.iload_n 2, 1) := by decide +kernel
theorem dX7_lacksClocks_3 : decode cX7_lacksClocks 3 = .ok (.iload_n 3, 1) := by decide +kernel
theorem dX7_lacksClocks_4 : decode cX7_lacksClocks 4 = .ok (.iconst 2, 1) := by decide +kernel
theorem dX7_lacksClocks_5 : decode cX7_lacksClocks 5 = .ok (.iload 4, 2) := by decide +kernel
theorem dX7_lacksClocks_7 : decode cX7_lacksClocks 7 = .ok (.imul, 1) := by decide +kernel
theorem dX7_lacksClocks_8 : decode cX7_lacksClocks 8 = .ok (.invokevirtual 252, 3) := by decide +kernel
theorem dX7_lacksClocks_11 : decode cX7_lacksClocks 11 = .ok (.istore 5, 2) := by decide +kernel
theorem dX7_lacksClocks_13 : decode cX7_lacksClocks 13 = .ok (.iconst 0, 1) := by decide +kernel
theorem dX7_lacksClocks_14 : decode cX7_lacksClocks 14 = .ok (.istore 6, 2) := by decide +kernel
theorem dX7_lacksClocks_16 : decode cX7_lacksClocks 16 = .ok (.iload 6, 2) := by decide +kernel
theorem dX7_lacksClocks_18 : decode cX7_lacksClocks 18 = .ok (.iload 4, 2) := by decide +kernel
theorem dX7_lacksClocks_20 : decode cX7_lacksClocks 20 = .ok (.if_icmp .ge 48, 3) := by decide +kernel
theorem dX7_lacksClocks_23 : decode cX7_lacksClocks 23 = .ok (.iload 5, 2) := by decide +kernel
theorem dX7_lacksClocks_25 : decode cX7_lacksClocks 25 = .ok (.ifCond .ne 43, 3) := by decide +kernel
theorem dX7_lacksClocks_28 : decode cX7_lacksClocks 28 = .ok (.aload_n 0, 1) := by decide +kernel
theorem dX7_lacksClocks_29 : decode cX7_lacksClocks 29 = .ok (.getfield 68, 3) := by decide +kernel
theorem dX7_lacksClocks_32 : decode cX7_lacksClocks 32 = .ok (.bipush 24, 2) := by decide +kernel
theorem dX7_lacksClocks_34 : decode cX7_lacksClocks 34 = .ok (.iload_n 1, 1) := by decide +kernel
theorem dX7_lacksClocks_35 : decode cX7_lacksClocks 35 = .ok (.imul, 1) := by decide +kernel
theorem dX7_lacksClocks_36 : decode cX7_lacksClocks 36 = .ok (.iload_n 3, 1) := by decide +kernel
theorem dX7_lacksClocks_37 : decode cX7_lacksClocks 37 = .ok (.iadd, 1) := by decide +kernel
theorem dX7_lacksClocks_38 : decode cX7_lacksClocks 38 = .ok (.iconst 2, 1) := by decide +kernel
theorem dX7_lacksClocks_39 : decode cX7_lacksClocks 39 = .ok (.iload 6, 2) := by decide +kernel
theorem dX7_lacksClocks_41 : decode cX7_lacksClocks 41 = .ok (.imul, 1) := by decide +kernel
theorem dX7_lacksClocks_42 : decode cX7_lacksClocks 42 = .ok (.iadd, 1) := by decide +kernel
theorem dX7_lacksClocks_43 : decode cX7_lacksClocks 43 = .ok (.laload, 1) := by decide +kernel
theorem dX7_lacksClocks_44 : decode cX7_lacksClocks 44 = .ok (.lconst 0, 1) := by decide +kernel
theorem dX7_lacksClocks_45 : decode cX7_lacksClocks 45 = .ok (.ldc2_w 195, 3) := by decide +kernel
theorem dX7_lacksClocks_48 : decode cX7_lacksClocks 48 = .ok (.invokestatic 80, 3) := by decide +kernel
theorem dX7_lacksClocks_51 : decode cX7_lacksClocks 51 = .ok (.ifCond .eq 7, 3) := by decide +kernel
theorem dX7_lacksClocks_54 : decode cX7_lacksClocks 54 = .ok (.iconst 0, 1) := by decide +kernel
theorem dX7_lacksClocks_55 : decode cX7_lacksClocks 55 = .ok (.goto 5, 3) := by decide +kernel
theorem dX7_lacksClocks_58 : decode cX7_lacksClocks 58 = .ok (.bipush (-2), 2) := by decide +kernel
theorem dX7_lacksClocks_60 : decode cX7_lacksClocks 60 = .ok (.istore 5, 2) := by decide +kernel
theorem dX7_lacksClocks_62 : decode cX7_lacksClocks 62 = .ok (.iinc 6 1, 3) := by decide +kernel
theorem dX7_lacksClocks_65 : decode cX7_lacksClocks 65 = .ok (.goto (-49), 3) := by decide +kernel
theorem dX7_lacksClocks_68 : decode cX7_lacksClocks 68 = .ok (.iload 5, 2) := by decide +kernel
theorem dX7_lacksClocks_70 : decode cX7_lacksClocks 70 = .ok (.ireturn, 1) := by decide +kernel
theorem dX7_clocks_0 : decode cX7_clocks 0 = .ok (.iload_n 1, 1) := by decide +kernel
theorem dX7_clocks_1 : decode cX7_clocks 1 = .ok (.iload_n 2, 1) := by decide +kernel
theorem dX7_clocks_2 : decode cX7_clocks 2 = .ok (.invokestatic 249, 3) := by decide +kernel
theorem dX7_clocks_5 : decode cX7_clocks 5 = .ok (.ifCond .eq 16, 3) := by decide +kernel
theorem dX7_clocks_8 : decode cX7_clocks 8 = .ok (.iload 4, 2) := by decide +kernel
theorem dX7_clocks_10 : decode cX7_clocks 10 = .ok (.i2l, 1) := by decide +kernel
theorem dX7_clocks_11 : decode cX7_clocks 11 = .ok (.lconst 1, 1) := by decide +kernel
theorem dX7_clocks_12 : decode cX7_clocks 12 = .ok (.ldc2_w 136, 3) := by decide +kernel
theorem dX7_clocks_15 : decode cX7_clocks 15 = .ok (.invokestatic 80, 3) := by decide +kernel
theorem dX7_clocks_18 : decode cX7_clocks 18 = .ok (.ifCond .ne 7, 3) := by decide +kernel
theorem dX7_clocks_21 : decode cX7_clocks 21 = .ok (.ldc2_w 221, 3) := by decide +kernel
theorem dX7_clocks_24 : decode cX7_clocks 24 = .ok (.lreturn, 1) := by decide +kernel
theorem dX7_clocks_25 : decode cX7_clocks 25 = .ok (.aload_n 0, 1) := by decide +kernel
theorem dX7_clocks_26 : decode cX7_clocks 26 = .ok (.iload_n 1, 1) := by decide +kernel
theorem dX7_clocks_27 : decode cX7_clocks 27 = .ok (.iload_n 2, 1) := by decide +kernel
theorem dX7_clocks_28 : decode cX7_clocks 28 = .ok (.iload_n 3, 1) := by decide +kernel
theorem dX7_clocks_29 : decode cX7_clocks 29 = .ok (.iload 4, 2) := by decide +kernel
theorem dX7_clocks_31 : decode cX7_clocks 31 = .ok (.invokevirtual 264, 3) := by decide +kernel
theorem dX7_clocks_34 : decode cX7_clocks 34 = .ok (.istore 5, 2) := by decide +kernel
theorem dX7_clocks_36 : decode cX7_clocks 36 = .ok (.iload 5, 2) := by decide +kernel
theorem dX7_clocks_38 : decode cX7_clocks 38 = .ok (.ifCond .ge 9, 3) := by decide +kernel
theorem dX7_clocks_41 : decode cX7_clocks 41 = .ok (.iload 5, 2) := by decide +kernel
theorem dX7_clocks_43 : decode cX7_clocks 43 = .ok (.i2l, 1) := by decide +kernel
theorem dX7_clocks_44 : decode cX7_clocks 44 = .ok (.goto 17, 3) := by decide +kernel
theorem dX7_clocks_47 : decode cX7_clocks 47 = .ok (.aload_n 0, 1) := by decide +kernel
theorem dX7_clocks_48 : decode cX7_clocks 48 = .ok (.bipush 24, 2) := by decide +kernel
theorem dX7_clocks_50 : decode cX7_clocks 50 = .ok (.iload_n 1, 1) := by decide +kernel
theorem dX7_clocks_51 : decode cX7_clocks 51 = .ok (.imul, 1) := by decide +kernel
theorem dX7_clocks_52 : decode cX7_clocks 52 = .ok (.iload_n 3, 1) := by decide +kernel
theorem dX7_clocks_53 : decode cX7_clocks 53 = .ok (.iadd, 1) := by decide +kernel
theorem dX7_clocks_54 : decode cX7_clocks 54 = .ok (.iload 4, 2) := by decide +kernel
theorem dX7_clocks_56 : decode cX7_clocks 56 = .ok (.iconst 0, 1) := by decide +kernel
theorem dX7_clocks_57 : decode cX7_clocks 57 = .ok (.iconst (-1), 1) := by decide +kernel
theorem dX7_clocks_58 : decode cX7_clocks 58 = .ok (.invokevirtual 267, 3) := by decide +kernel
theorem dX7_clocks_61 : decode cX7_clocks 61 = .ok (.lreturn, 1) := by decide +kernel
theorem dX7_sure_0 : decode cX7_sure 0 = .ok (.iload_n 1, 1) := by decide +kernel
theorem dX7_sure_1 : decode cX7_sure 1 = .ok (.invokestatic 93, 3) := by decide +kernel
theorem dX7_sure_4 : decode cX7_sure 4 = .ok (.ifCond .eq 24, 3) := by decide +kernel
theorem dX7_sure_7 : decode cX7_sure 7 = .ok (.iload_n 2, 1) := by decide +kernel
theorem dX7_sure_8 : decode cX7_sure 8 = .ok (.iload_n 3, 1) := by decide +kernel
theorem dX7_sure_9 : decode cX7_sure 9 = .ok (.invokestatic 249, 3) := by decide +kernel
theorem dX7_sure_12 : decode cX7_sure 12 = .ok (.ifCond .eq 16, 3) := by decide +kernel
theorem dX7_sure_15 : decode cX7_sure 15 = .ok (.iload 5, 2) := by decide +kernel
theorem dX7_sure_17 : decode cX7_sure 17 = .ok (.i2l, 1) := by decide +kernel
theorem dX7_sure_18 : decode cX7_sure 18 = .ok (.lconst 1, 1) := by decide +kernel
theorem dX7_sure_19 : decode cX7_sure 19 = .ok (.ldc2_w 136, 3) := by decide +kernel
theorem dX7_sure_22 : decode cX7_sure 22 = .ok (.invokestatic 80, 3) := by decide +kernel
theorem dX7_sure_25 : decode cX7_sure 25 = .ok (.ifCond .ne 5, 3) := by decide +kernel
theorem dX7_sure_28 : decode cX7_sure 28 = .ok (.iconst (-1), 1) := by decide +kernel
theorem dX7_sure_29 : decode cX7_sure 29 = .ok (.ireturn, 1) := by decide +kernel
theorem dX7_sure_30 : decode cX7_sure 30 = .ok (.aload_n 0, 1) := by decide +kernel
theorem dX7_sure_31 : decode cX7_sure 31 = .ok (.iload_n 2, 1) := by decide +kernel
theorem dX7_sure_32 : decode cX7_sure 32 = .ok (.iload_n 3, 1) := by decide +kernel
theorem dX7_sure_33 : decode cX7_sure 33 = .ok (.iload 4, 2) := by decide +kernel
theorem dX7_sure_35 : decode cX7_sure 35 = .ok (.iload 5, 2) := by decide +kernel
theorem dX7_sure_37 : decode cX7_sure 37 = .ok (.invokevirtual 264, 3) := by decide +kernel
theorem dX7_sure_40 : decode cX7_sure 40 = .ok (.istore 6, 2) := by decide +kernel
theorem dX7_sure_42 : decode cX7_sure 42 = .ok (.iload 6, 2) := by decide +kernel
theorem dX7_sure_44 : decode cX7_sure 44 = .ok (.ifCond .ge 6, 3) := by decide +kernel
theorem dX7_sure_47 : decode cX7_sure 47 = .ok (.iload 6, 2) := by decide +kernel
theorem dX7_sure_49 : decode cX7_sure 49 = .ok (.ireturn, 1) := by decide +kernel
theorem dX7_sure_50 : decode cX7_sure 50 = .ok (.bipush (-4), 2) := by decide +kernel
theorem dX7_sure_52 : decode cX7_sure 52 = .ok (.istore 7, 2) := by decide +kernel
theorem dX7_sure_54 : decode cX7_sure 54 = .ok (.iconst 0, 1) := by decide +kernel
theorem dX7_sure_55 : decode cX7_sure 55 = .ok (.istore 8, 2) := by decide +kernel
theorem dX7_sure_57 : decode cX7_sure 57 = .ok (.iconst 0, 1) := by decide +kernel
theorem dX7_sure_58 : decode cX7_sure 58 = .ok (.istore 9, 2) := by decide +kernel
theorem dX7_sure_60 : decode cX7_sure 60 = .ok (.iload 9, 2) := by decide +kernel
theorem dX7_sure_62 : decode cX7_sure 62 = .ok (.iconst 3, 1) := by decide +kernel
theorem dX7_sure_63 : decode cX7_sure 63 = .ok (.if_icmp .ge 37, 3) := by decide +kernel
theorem dX7_sure_66 : decode cX7_sure 66 = .ok (.aload_n 0, 1) := by decide +kernel
theorem dX7_sure_67 : decode cX7_sure 67 = .ok (.bipush 24, 2) := by decide +kernel
theorem dX7_sure_69 : decode cX7_sure 69 = .ok (.iload_n 2, 1) := by decide +kernel
theorem dX7_sure_70 : decode cX7_sure 70 = .ok (.imul, 1) := by decide +kernel
theorem dX7_sure_71 : decode cX7_sure 71 = .ok (.iload 4, 2) := by decide +kernel
theorem dX7_sure_73 : decode cX7_sure 73 = .ok (.iadd, 1) := by decide +kernel
theorem dX7_sure_74 : decode cX7_sure 74 = .ok (.iload 5, 2) := by decide +kernel
theorem dX7_sure_76 : decode cX7_sure 76 = .ok (.iload_n 1, 1) := by decide +kernel
theorem dX7_sure_77 : decode cX7_sure 77 = .ok (.iload 9, 2) := by decide +kernel
theorem dX7_sure_79 : decode cX7_sure 79 = .ok (.invokevirtual 267, 3) := by decide +kernel
theorem dX7_sure_82 : decode cX7_sure 82 = .ok (.lconst 0, 1) := by decide +kernel
theorem dX7_sure_83 : decode cX7_sure 83 = .ok (.lcmp, 1) := by decide +kernel
theorem dX7_sure_84 : decode cX7_sure 84 = .ok (.ifCond .le 10, 3) := by decide +kernel
theorem dX7_sure_87 : decode cX7_sure 87 = .ok (.iload 9, 2) := by decide +kernel
theorem dX7_sure_89 : decode cX7_sure 89 = .ok (.istore 7, 2) := by decide +kernel
theorem dX7_sure_91 : decode cX7_sure 91 = .ok (.iinc 8 1, 3) := by decide +kernel
theorem dX7_sure_94 : decode cX7_sure 94 = .ok (.iinc 9 1, 3) := by decide +kernel
theorem dX7_sure_97 : decode cX7_sure 97 = .ok (.goto (-37), 3) := by decide +kernel
theorem dX7_sure_100 : decode cX7_sure 100 = .ok (.iload 8, 2) := by decide +kernel
theorem dX7_sure_102 : decode cX7_sure 102 = .ok (.iconst 1, 1) := by decide +kernel
theorem dX7_sure_103 : decode cX7_sure 103 = .ok (.if_icmp .ne 8, 3) := by decide +kernel
theorem dX7_sure_106 : decode cX7_sure 106 = .ok (.iload 7, 2) := by decide +kernel
theorem dX7_sure_108 : decode cX7_sure 108 = .ok (.goto 5, 3) := by decide +kernel
theorem dX7_sure_111 : decode cX7_sure 111 = .ok (.bipush (-4), 2) := by decide +kernel
theorem dX7_sure_113 : decode cX7_sure 113 = .ok (.ireturn, 1) := by decide +kernel
theorem dX7_film_0 : decode cX7_film 0 = .ok (.iload_n 1, 1) := by decide +kernel
theorem dX7_film_1 : decode cX7_film 1 = .ok (.iload_n 2, 1) := by decide +kernel
theorem dX7_film_2 : decode cX7_film 2 = .ok (.invokestatic 249, 3) := by decide +kernel
theorem dX7_film_5 : decode cX7_film 5 = .ok (.ifCond .ne 5, 3) := by decide +kernel
theorem dX7_film_8 : decode cX7_film 8 = .ok (.iconst (-1), 1) := by decide +kernel
theorem dX7_film_9 : decode cX7_film 9 = .ok (.ireturn, 1) := by decide +kernel
theorem dX7_film_10 : decode cX7_film 10 = .ok (.aload_n 0, 1) := by decide +kernel
theorem dX7_film_11 : decode cX7_film 11 = .ok (.iload_n 1, 1) := by decide +kernel
theorem dX7_film_12 : decode cX7_film 12 = .ok (.iload_n 2, 1) := by decide +kernel
theorem dX7_film_13 : decode cX7_film 13 = .ok (.iload_n 3, 1) := by decide +kernel
theorem dX7_film_14 : decode cX7_film 14 = .ok (.bipush 24, 2) := by decide +kernel
theorem dX7_film_16 : decode cX7_film 16 = .ok (.invokevirtual 252, 3) := by decide +kernel
theorem dX7_film_19 : decode cX7_film 19 = .ok (.istore 4, 2) := by decide +kernel
theorem dX7_film_21 : decode cX7_film 21 = .ok (.iload 4, 2) := by decide +kernel
theorem dX7_film_23 : decode cX7_film 23 = .ok (.ifCond .ge 6, 3) := by decide +kernel
theorem dX7_film_26 : decode cX7_film 26 = .ok (.iload 4, 2) := by decide +kernel
theorem dX7_film_28 : decode cX7_film 28 = .ok (.ireturn, 1) := by decide +kernel
theorem dX7_film_29 : decode cX7_film 29 = .ok (.iconst 0, 1) := by decide +kernel
theorem dX7_film_30 : decode cX7_film 30 = .ok (.istore 5, 2) := by decide +kernel
theorem dX7_film_32 : decode cX7_film 32 = .ok (.iload 5, 2) := by decide +kernel
theorem dX7_film_34 : decode cX7_film 34 = .ok (.bipush 24, 2) := by decide +kernel
theorem dX7_film_36 : decode cX7_film 36 = .ok (.if_icmp .ge 31, 3) := by decide +kernel
theorem dX7_film_39 : decode cX7_film 39 = .ok (.aload_n 0, 1) := by decide +kernel
theorem dX7_film_40 : decode cX7_film 40 = .ok (.getfield 68, 3) := by decide +kernel
theorem dX7_film_43 : decode cX7_film 43 = .ok (.bipush 24, 2) := by decide +kernel
theorem dX7_film_45 : decode cX7_film 45 = .ok (.iload_n 1, 1) := by decide +kernel
theorem dX7_film_46 : decode cX7_film 46 = .ok (.imul, 1) := by decide +kernel
theorem dX7_film_47 : decode cX7_film 47 = .ok (.iload_n 3, 1) := by decide +kernel
theorem dX7_film_48 : decode cX7_film 48 = .ok (.iadd, 1) := by decide +kernel
theorem dX7_film_49 : decode cX7_film 49 = .ok (.iload 5, 2) := by decide +kernel
theorem dX7_film_51 : decode cX7_film 51 = .ok (.iadd, 1) := by decide +kernel
theorem dX7_film_52 : decode cX7_film 52 = .ok (.aload_n 0, 1) := by decide +kernel
theorem dX7_film_53 : decode cX7_film 53 = .ok (.getfield 31, 3) := by decide +kernel
theorem dX7_film_56 : decode cX7_film 56 = .ok (.iload 5, 2) := by decide +kernel
theorem dX7_film_58 : decode cX7_film 58 = .ok (.iaload, 1) := by decide +kernel
theorem dX7_film_59 : decode cX7_film 59 = .ok (.i2l, 1) := by decide +kernel
theorem dX7_film_60 : decode cX7_film 60 = .ok (.lastore, 1) := by decide +kernel
theorem dX7_film_61 : decode cX7_film 61 = .ok (.iinc 5 1, 3) := by decide +kernel
theorem dX7_film_64 : decode cX7_film 64 = .ok (.goto (-32), 3) := by decide +kernel
theorem dX7_film_67 : decode cX7_film 67 = .ok (.bipush 24, 2) := by decide +kernel
theorem dX7_film_69 : decode cX7_film 69 = .ok (.ireturn, 1) := by decide +kernel
theorem dX7_build_0 : decode cX7_build 0 = .ok (.iload_n 1, 1) := by decide +kernel
theorem dX7_build_1 : decode cX7_build 1 = .ok (.iload_n 2, 1) := by decide +kernel
theorem dX7_build_2 : decode cX7_build 2 = .ok (.invokestatic 249, 3) := by decide +kernel
theorem dX7_build_5 : decode cX7_build 5 = .ok (.ifCond .ne 6, 3) := by decide +kernel
theorem dX7_build_8 : decode cX7_build 8 = .ok (.ldc 135, 2) := by decide +kernel
theorem dX7_build_10 : decode cX7_build 10 = .ok (.ireturn, 1) := by decide +kernel
theorem dX7_build_11 : decode cX7_build 11 = .ok (.aload_n 0, 1) := by decide +kernel
theorem dX7_build_12 : decode cX7_build 12 = .ok (.iload_n 1, 1) := by decide +kernel
theorem dX7_build_13 : decode cX7_build 13 = .ok (.iload_n 2, 1) := by decide +kernel
theorem dX7_build_14 : decode cX7_build 14 = .ok (.iload_n 3, 1) := by decide +kernel
theorem dX7_build_15 : decode cX7_build 15 = .ok (.bipush 24, 2) := by decide +kernel
theorem dX7_build_17 : decode cX7_build 17 = .ok (.invokevirtual 252, 3) := by decide +kernel
theorem dX7_build_20 : decode cX7_build 20 = .ok (.istore 4, 2) := by decide +kernel
theorem dX7_build_22 : decode cX7_build 22 = .ok (.iconst 0, 1) := by decide +kernel
theorem dX7_build_23 : decode cX7_build 23 = .ok (.istore 5, 2) := by decide +kernel
theorem dX7_build_25 : decode cX7_build 25 = .ok (.iload 5, 2) := by decide +kernel
theorem dX7_build_27 : decode cX7_build 27 = .ok (.bipush 24, 2) := by decide +kernel
theorem dX7_build_29 : decode cX7_build 29 = .ok (.if_icmp .ge 42, 3) := by decide +kernel
theorem dX7_build_32 : decode cX7_build 32 = .ok (.iload 4, 2) := by decide +kernel
theorem dX7_build_34 : decode cX7_build 34 = .ok (.ifCond .ne 37, 3) := by decide +kernel
theorem dX7_build_37 : decode cX7_build 37 = .ok (.aload_n 0, 1) := by decide +kernel
theorem dX7_build_38 : decode cX7_build 38 = .ok (.getfield 68, 3) := by decide +kernel
theorem dX7_build_41 : decode cX7_build 41 = .ok (.bipush 24, 2) := by decide +kernel
theorem dX7_build_43 : decode cX7_build 43 = .ok (.iload_n 1, 1) := by decide +kernel
theorem dX7_build_44 : decode cX7_build 44 = .ok (.imul, 1) := by decide +kernel
theorem dX7_build_45 : decode cX7_build 45 = .ok (.iload_n 3, 1) := by decide +kernel
theorem dX7_build_46 : decode cX7_build 46 = .ok (.iadd, 1) := by decide +kernel
theorem dX7_build_47 : decode cX7_build 47 = .ok (.iload 5, 2) := by decide +kernel
theorem dX7_build_49 : decode cX7_build 49 = .ok (.iadd, 1) := by decide +kernel
theorem dX7_build_50 : decode cX7_build 50 = .ok (.laload, 1) := by decide +kernel
theorem dX7_build_51 : decode cX7_build 51 = .ok (.invokestatic 191, 3) := by decide +kernel
theorem dX7_build_54 : decode cX7_build 54 = .ok (.ifCond .eq 7, 3) := by decide +kernel
theorem dX7_build_57 : decode cX7_build 57 = .ok (.iconst 0, 1) := by decide +kernel
theorem dX7_build_58 : decode cX7_build 58 = .ok (.goto 5, 3) := by decide +kernel
theorem dX7_build_61 : decode cX7_build 61 = .ok (.bipush (-2), 2) := by decide +kernel
theorem dX7_build_63 : decode cX7_build 63 = .ok (.istore 4, 2) := by decide +kernel
theorem dX7_build_65 : decode cX7_build 65 = .ok (.iinc 5 1, 3) := by decide +kernel
theorem dX7_build_68 : decode cX7_build 68 = .ok (.goto (-43), 3) := by decide +kernel
theorem dX7_build_71 : decode cX7_build 71 = .ok (.iload 4, 2) := by decide +kernel
theorem dX7_build_73 : decode cX7_build 73 = .ok (.ifCond .ge 10, 3) := by decide +kernel
theorem dX7_build_76 : decode cX7_build 76 = .ok (.iload 4, 2) := by decide +kernel
theorem dX7_build_78 : decode cX7_build 78 = .ok (.ldc_w 271, 3) := by decide +kernel
theorem dX7_build_81 : decode cX7_build 81 = .ok (.isub, 1) := by decide +kernel
theorem dX7_build_82 : decode cX7_build 82 = .ok (.ireturn, 1) := by decide +kernel
theorem dX7_build_83 : decode cX7_build 83 = .ok (.iconst 0, 1) := by decide +kernel
theorem dX7_build_84 : decode cX7_build 84 = .ok (.istore 5, 2) := by decide +kernel
theorem dX7_build_86 : decode cX7_build 86 = .ok (.iload 5, 2) := by decide +kernel
theorem dX7_build_88 : decode cX7_build 88 = .ok (.bipush 24, 2) := by decide +kernel
theorem dX7_build_90 : decode cX7_build 90 = .ok (.if_icmp .ge 31, 3) := by decide +kernel
theorem dX7_build_93 : decode cX7_build 93 = .ok (.aload_n 0, 1) := by decide +kernel
theorem dX7_build_94 : decode cX7_build 94 = .ok (.getfield 31, 3) := by decide +kernel
theorem dX7_build_97 : decode cX7_build 97 = .ok (.iload 5, 2) := by decide +kernel
theorem dX7_build_99 : decode cX7_build 99 = .ok (.aload_n 0, 1) := by decide +kernel
theorem dX7_build_100 : decode cX7_build 100 = .ok (.getfield 68, 3) := by decide +kernel
theorem dX7_build_103 : decode cX7_build 103 = .ok (.bipush 24, 2) := by decide +kernel
theorem dX7_build_105 : decode cX7_build 105 = .ok (.iload_n 1, 1) := by decide +kernel
theorem dX7_build_106 : decode cX7_build 106 = .ok (.imul, 1) := by decide +kernel
theorem dX7_build_107 : decode cX7_build 107 = .ok (.iload_n 3, 1) := by decide +kernel
theorem dX7_build_108 : decode cX7_build 108 = .ok (.iadd, 1) := by decide +kernel
theorem dX7_build_109 : decode cX7_build 109 = .ok (.iload 5, 2) := by decide +kernel
theorem dX7_build_111 : decode cX7_build 111 = .ok (.iadd, 1) := by decide +kernel
theorem dX7_build_112 : decode cX7_build 112 = .ok (.laload, 1) := by decide +kernel
theorem dX7_build_113 : decode cX7_build 113 = .ok (.l2i, 1) := by decide +kernel
theorem dX7_build_114 : decode cX7_build 114 = .ok (.iastore, 1) := by decide +kernel
theorem dX7_build_115 : decode cX7_build 115 = .ok (.iinc 5 1, 3) := by decide +kernel
theorem dX7_build_118 : decode cX7_build 118 = .ok (.goto (-32), 3) := by decide +kernel
theorem dX7_build_121 : decode cX7_build 121 = .ok (.aload_n 0, 1) := by decide +kernel
theorem dX7_build_122 : decode cX7_build 122 = .ok (.aload_n 0, 1) := by decide +kernel
theorem dX7_build_123 : decode cX7_build 123 = .ok (.getfield 31, 3) := by decide +kernel
theorem dX7_build_126 : decode cX7_build 126 = .ok (.invokevirtual 204, 3) := by decide +kernel
theorem dX7_build_129 : decode cX7_build 129 = .ok (.ireturn, 1) := by decide +kernel
theorem dX7_copy_0 : decode cX7_copy 0 = .ok (.iload_n 1, 1) := by decide +kernel
theorem dX7_copy_1 : decode cX7_copy 1 = .ok (.i2l, 1) := by decide +kernel
theorem dX7_copy_2 : decode cX7_copy 2 = .ok (.lconst 0, 1) := by decide +kernel
theorem dX7_copy_3 : decode cX7_copy 3 = .ok (.ldc2_w 91, 3) := by decide +kernel
theorem dX7_copy_6 : decode cX7_copy 6 = .ok (.invokestatic 80, 3) := by decide +kernel
theorem dX7_copy_9 : decode cX7_copy 9 = .ok (.ifCond .eq 15, 3) := by decide +kernel
theorem dX7_copy_12 : decode cX7_copy 12 = .ok (.iload_n 3, 1) := by decide +kernel
theorem dX7_copy_13 : decode cX7_copy 13 = .ok (.i2l, 1) := by decide +kernel
theorem dX7_copy_14 : decode cX7_copy 14 = .ok (.lconst 0, 1) := by decide +kernel
theorem dX7_copy_15 : decode cX7_copy 15 = .ok (.ldc2_w 91, 3) := by decide +kernel
theorem dX7_copy_18 : decode cX7_copy 18 = .ok (.invokestatic 80, 3) := by decide +kernel
theorem dX7_copy_21 : decode cX7_copy 21 = .ok (.ifCond .ne 5, 3) := by decide +kernel
theorem dX7_copy_24 : decode cX7_copy 24 = .ok (.iconst (-1), 1) := by decide +kernel
theorem dX7_copy_25 : decode cX7_copy 25 = .ok (.ireturn, 1) := by decide +kernel
theorem dX7_copy_26 : decode cX7_copy 26 = .ok (.aload_n 0, 1) := by decide +kernel
theorem dX7_copy_27 : decode cX7_copy 27 = .ok (.getfield 62, 3) := by decide +kernel
theorem dX7_copy_30 : decode cX7_copy 30 = .ok (.iload_n 1, 1) := by decide +kernel
theorem dX7_copy_31 : decode cX7_copy 31 = .ok (.iaload, 1) := by decide +kernel
theorem dX7_copy_32 : decode cX7_copy 32 = .ok (.ifCond .lt 12, 3) := by decide +kernel
theorem dX7_copy_35 : decode cX7_copy 35 = .ok (.aload_n 0, 1) := by decide +kernel
theorem dX7_copy_36 : decode cX7_copy 36 = .ok (.getfield 62, 3) := by decide +kernel
theorem dX7_copy_39 : decode cX7_copy 39 = .ok (.iload_n 3, 1) := by decide +kernel
theorem dX7_copy_40 : decode cX7_copy 40 = .ok (.iaload, 1) := by decide +kernel
theorem dX7_copy_41 : decode cX7_copy 41 = .ok (.ifCond .ge 6, 3) := by decide +kernel
theorem dX7_copy_44 : decode cX7_copy 44 = .ok (.bipush (-11), 2) := by decide +kernel
theorem dX7_copy_46 : decode cX7_copy 46 = .ok (.ireturn, 1) := by decide +kernel
theorem dX7_copy_47 : decode cX7_copy 47 = .ok (.aload_n 0, 1) := by decide +kernel
theorem dX7_copy_48 : decode cX7_copy 48 = .ok (.getfield 62, 3) := by decide +kernel
theorem dX7_copy_51 : decode cX7_copy 51 = .ok (.iload_n 1, 1) := by decide +kernel
theorem dX7_copy_52 : decode cX7_copy 52 = .ok (.iaload, 1) := by decide +kernel
theorem dX7_copy_53 : decode cX7_copy 53 = .ok (.aload_n 0, 1) := by decide +kernel
theorem dX7_copy_54 : decode cX7_copy 54 = .ok (.getfield 62, 3) := by decide +kernel
theorem dX7_copy_57 : decode cX7_copy 57 = .ok (.iload_n 3, 1) := by decide +kernel
theorem dX7_copy_58 : decode cX7_copy 58 = .ok (.iaload, 1) := by decide +kernel
theorem dX7_copy_59 : decode cX7_copy 59 = .ok (.if_icmp .eq 6, 3) := by decide +kernel
theorem dX7_copy_62 : decode cX7_copy 62 = .ok (.bipush (-12), 2) := by decide +kernel
theorem dX7_copy_64 : decode cX7_copy 64 = .ok (.ireturn, 1) := by decide +kernel
theorem dX7_copy_65 : decode cX7_copy 65 = .ok (.iload 5, 2) := by decide +kernel
theorem dX7_copy_67 : decode cX7_copy 67 = .ok (.ifCond .lt 44, 3) := by decide +kernel
theorem dX7_copy_70 : decode cX7_copy 70 = .ok (.iload_n 2, 1) := by decide +kernel
theorem dX7_copy_71 : decode cX7_copy 71 = .ok (.i2l, 1) := by decide +kernel
theorem dX7_copy_72 : decode cX7_copy 72 = .ok (.lconst 0, 1) := by decide +kernel
theorem dX7_copy_73 : decode cX7_copy 73 = .ok (.aload_n 0, 1) := by decide +kernel
theorem dX7_copy_74 : decode cX7_copy 74 = .ok (.getfield 65, 3) := by decide +kernel
theorem dX7_copy_77 : decode cX7_copy 77 = .ok (.iload_n 1, 1) := by decide +kernel
theorem dX7_copy_78 : decode cX7_copy 78 = .ok (.iaload, 1) := by decide +kernel
theorem dX7_copy_79 : decode cX7_copy 79 = .ok (.i2l, 1) := by decide +kernel
theorem dX7_copy_80 : decode cX7_copy 80 = .ok (.iload 5, 2) := by decide +kernel
theorem dX7_copy_82 : decode cX7_copy 82 = .ok (.i2l, 1) := by decide +kernel
theorem dX7_copy_83 : decode cX7_copy 83 = .ok (.lsub, 1) := by decide +kernel
theorem dX7_copy_84 : decode cX7_copy 84 = .ok (.invokestatic 80, 3) := by decide +kernel
theorem dX7_copy_87 : decode cX7_copy 87 = .ok (.ifCond .eq 24, 3) := by decide +kernel
theorem dX7_copy_90 : decode cX7_copy 90 = .ok (.iload 4, 2) := by decide +kernel
theorem dX7_copy_92 : decode cX7_copy 92 = .ok (.i2l, 1) := by decide +kernel
theorem dX7_copy_93 : decode cX7_copy 93 = .ok (.lconst 0, 1) := by decide +kernel
theorem dX7_copy_94 : decode cX7_copy 94 = .ok (.aload_n 0, 1) := by decide +kernel
theorem dX7_copy_95 : decode cX7_copy 95 = .ok (.getfield 65, 3) := by decide +kernel
theorem dX7_copy_98 : decode cX7_copy 98 = .ok (.iload_n 3, 1) := by decide +kernel
theorem dX7_copy_99 : decode cX7_copy 99 = .ok (.iaload, 1) := by decide +kernel
theorem dX7_copy_100 : decode cX7_copy 100 = .ok (.i2l, 1) := by decide +kernel
theorem dX7_copy_101 : decode cX7_copy 101 = .ok (.iload 5, 2) := by decide +kernel
theorem dX7_copy_103 : decode cX7_copy 103 = .ok (.i2l, 1) := by decide +kernel
theorem dX7_copy_104 : decode cX7_copy 104 = .ok (.lsub, 1) := by decide +kernel
theorem dX7_copy_105 : decode cX7_copy 105 = .ok (.invokestatic 80, 3) := by decide +kernel
theorem dX7_copy_108 : decode cX7_copy 108 = .ok (.ifCond .ne 6, 3) := by decide +kernel
theorem dX7_copy_111 : decode cX7_copy 111 = .ok (.bipush (-13), 2) := by decide +kernel
theorem dX7_copy_113 : decode cX7_copy 113 = .ok (.ireturn, 1) := by decide +kernel
theorem dX7_copy_114 : decode cX7_copy 114 = .ok (.iconst 0, 1) := by decide +kernel
theorem dX7_copy_115 : decode cX7_copy 115 = .ok (.istore 6, 2) := by decide +kernel
theorem dX7_copy_117 : decode cX7_copy 117 = .ok (.iload 6, 2) := by decide +kernel
theorem dX7_copy_119 : decode cX7_copy 119 = .ok (.iload 5, 2) := by decide +kernel
theorem dX7_copy_121 : decode cX7_copy 121 = .ok (.if_icmp .ge 30, 3) := by decide +kernel
theorem dX7_copy_124 : decode cX7_copy 124 = .ok (.aload_n 0, 1) := by decide +kernel
theorem dX7_copy_125 : decode cX7_copy 125 = .ok (.getfield 75, 3) := by decide +kernel
theorem dX7_copy_128 : decode cX7_copy 128 = .ok (.iload 6, 2) := by decide +kernel
theorem dX7_copy_130 : decode cX7_copy 130 = .ok (.aload_n 0, 1) := by decide +kernel
theorem dX7_copy_131 : decode cX7_copy 131 = .ok (.getfield 68, 3) := by decide +kernel
theorem dX7_copy_134 : decode cX7_copy 134 = .ok (.bipush 24, 2) := by decide +kernel
theorem dX7_copy_136 : decode cX7_copy 136 = .ok (.iload_n 1, 1) := by decide +kernel
theorem dX7_copy_137 : decode cX7_copy 137 = .ok (.imul, 1) := by decide +kernel
theorem dX7_copy_138 : decode cX7_copy 138 = .ok (.iload_n 2, 1) := by decide +kernel
theorem dX7_copy_139 : decode cX7_copy 139 = .ok (.iadd, 1) := by decide +kernel
theorem dX7_copy_140 : decode cX7_copy 140 = .ok (.iload 6, 2) := by decide +kernel
theorem dX7_copy_142 : decode cX7_copy 142 = .ok (.iadd, 1) := by decide +kernel
theorem dX7_copy_143 : decode cX7_copy 143 = .ok (.laload, 1) := by decide +kernel
theorem dX7_copy_144 : decode cX7_copy 144 = .ok (.lastore, 1) := by decide +kernel
theorem dX7_copy_145 : decode cX7_copy 145 = .ok (.iinc 6 1, 3) := by decide +kernel
theorem dX7_copy_148 : decode cX7_copy 148 = .ok (.goto (-31), 3) := by decide +kernel
theorem dX7_copy_151 : decode cX7_copy 151 = .ok (.iconst 0, 1) := by decide +kernel
theorem dX7_copy_152 : decode cX7_copy 152 = .ok (.istore 6, 2) := by decide +kernel
theorem dX7_copy_154 : decode cX7_copy 154 = .ok (.iload 6, 2) := by decide +kernel
theorem dX7_copy_156 : decode cX7_copy 156 = .ok (.iload 5, 2) := by decide +kernel
theorem dX7_copy_158 : decode cX7_copy 158 = .ok (.if_icmp .ge 31, 3) := by decide +kernel
theorem dX7_copy_161 : decode cX7_copy 161 = .ok (.aload_n 0, 1) := by decide +kernel
theorem dX7_copy_162 : decode cX7_copy 162 = .ok (.getfield 68, 3) := by decide +kernel
theorem dX7_copy_165 : decode cX7_copy 165 = .ok (.bipush 24, 2) := by decide +kernel
theorem dX7_copy_167 : decode cX7_copy 167 = .ok (.iload_n 3, 1) := by decide +kernel
theorem dX7_copy_168 : decode cX7_copy 168 = .ok (.imul, 1) := by decide +kernel
theorem dX7_copy_169 : decode cX7_copy 169 = .ok (.iload 4, 2) := by decide +kernel
theorem dX7_copy_171 : decode cX7_copy 171 = .ok (.iadd, 1) := by decide +kernel
theorem dX7_copy_172 : decode cX7_copy 172 = .ok (.iload 6, 2) := by decide +kernel
theorem dX7_copy_174 : decode cX7_copy 174 = .ok (.iadd, 1) := by decide +kernel
theorem dX7_copy_175 : decode cX7_copy 175 = .ok (.aload_n 0, 1) := by decide +kernel
theorem dX7_copy_176 : decode cX7_copy 176 = .ok (.getfield 75, 3) := by decide +kernel
theorem dX7_copy_179 : decode cX7_copy 179 = .ok (.iload 6, 2) := by decide +kernel
theorem dX7_copy_181 : decode cX7_copy 181 = .ok (.laload, 1) := by decide +kernel
theorem dX7_copy_182 : decode cX7_copy 182 = .ok (.lastore, 1) := by decide +kernel
theorem dX7_copy_183 : decode cX7_copy 183 = .ok (.iinc 6 1, 3) := by decide +kernel
theorem dX7_copy_186 : decode cX7_copy 186 = .ok (.goto (-32), 3) := by decide +kernel
theorem dX7_copy_189 : decode cX7_copy 189 = .ok (.iload 5, 2) := by decide +kernel
theorem dX7_copy_191 : decode cX7_copy 191 = .ok (.ireturn, 1) := by decide +kernel
