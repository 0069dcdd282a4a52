theorem dX0_init_0 : decode cX0_init 0 = .ok (.aload_n 0, 1) := by decide +kernel
theorem dX0_init_1 : decode cX0_init 1 = .ok (.invokespecial 3, 3) := by decide +kernel
theorem dX0_init_4 : decode cX0_init 4 = .ok (.aload_n 0, 1) := by decide +kernel
theorem dX0_init_5 : decode cX0_init 5 = .ok (.bipush 25, 2) := by decide +kernel
theorem dX0_init_7 : decode cX0_init 7 = .ok (.newarray .int, 2) := by decide +kernel
theorem dX0_init_9 : decode cX0_init 9 = .ok (.putfield 9, 3) := by decide +kernel
theorem dX0_init_12 : decode cX0_init 12 = .ok (.aload_n 0, 1) := by decide +kernel
theorem dX0_init_13 : decode cX0_init 13 = .ok (.bipush 49, 2) := by decide +kernel
theorem dX0_init_15 : decode cX0_init 15 = .ok (.newarray .long, 2) := by decide +kernel
theorem dX0_init_17 : decode cX0_init 17 = .ok (.putfield 15, 3) := by decide +kernel
theorem dX0_init_20 : decode cX0_init 20 = .ok (.return_, 1) := by decide +kernel
theorem dX0_tell_0 : decode cX0_tell 0 = .ok (.aload_n 0, 1) := by decide +kernel
theorem dX0_tell_1 : decode cX0_tell 1 = .ok (.getfield 9, 3) := by decide +kernel
theorem dX0_tell_4 : decode cX0_tell 4 = .ok (.iconst (-1), 1) := by decide +kernel
theorem dX0_tell_5 : decode cX0_tell 5 = .ok (.invokestatic 19, 3) := by decide +kernel
theorem dX0_tell_8 : decode cX0_tell 8 = .ok (.iconst 0, 1) := by decide +kernel
theorem dX0_tell_9 : decode cX0_tell 9 = .ok (.istore 4, 2) := by decide +kernel
theorem dX0_tell_11 : decode cX0_tell 11 = .ok (.iload 4, 2) := by decide +kernel
theorem dX0_tell_13 : decode cX0_tell 13 = .ok (.iload_n 3, 1) := by decide +kernel
theorem dX0_tell_14 : decode cX0_tell 14 = .ok (.if_icmp .ge 113, 3) := by decide +kernel
theorem dX0_tell_17 : decode cX0_tell 17 = .ok (.aload_n 1, 1) := by decide +kernel
theorem dX0_tell_18 : decode cX0_tell 18 = .ok (.getfield 25, 3) := by decide +kernel
theorem dX0_tell_21 : decode cX0_tell 21 = .ok (.iload_n 2, 1) := by decide +kernel
theorem dX0_tell_22 : decode cX0_tell 22 = .ok (.iconst 2, 1) := by decide +kernel
theorem dX0_tell_23 : decode cX0_tell 23 = .ok (.iload 4, 2) := by decide +kernel
theorem dX0_tell_25 : decode cX0_tell 25 = .ok (.imul, 1) := by decide +kernel
theorem dX0_tell_26 : decode cX0_tell 26 = .ok (.iadd, 1) := by decide +kernel
theorem dX0_tell_27 : decode cX0_tell 27 = .ok (.laload, 1) := by decide +kernel
theorem dX0_tell_28 : decode cX0_tell 28 = .ok (.l2i, 1) := by decide +kernel
theorem dX0_tell_29 : decode cX0_tell 29 = .ok (.istore 5, 2) := by decide +kernel
theorem dX0_tell_31 : decode cX0_tell 31 = .ok (.aload_n 1, 1) := by decide +kernel
theorem dX0_tell_32 : decode cX0_tell 32 = .ok (.getfield 25, 3) := by decide +kernel
theorem dX0_tell_35 : decode cX0_tell 35 = .ok (.iload_n 2, 1) := by decide +kernel
theorem dX0_tell_36 : decode cX0_tell 36 = .ok (.iconst 2, 1) := by decide +kernel
theorem dX0_tell_37 : decode cX0_tell 37 = .ok (.iload 4, 2) := by decide +kernel
theorem dX0_tell_39 : decode cX0_tell 39 = .ok (.imul, 1) := by decide +kernel
theorem dX0_tell_40 : decode cX0_tell 40 = .ok (.iadd, 1) := by decide +kernel
theorem dX0_tell_41 : decode cX0_tell 41 = .ok (.iconst 1, 1) := by decide +kernel
theorem dX0_tell_42 : decode cX0_tell 42 = .ok (.iadd, 1) := by decide +kernel
theorem dX0_tell_43 : decode cX0_tell 43 = .ok (.laload, 1) := by decide +kernel
theorem dX0_tell_44 : decode cX0_tell 44 = .ok (.lstore 6, 2) := by decide +kernel
theorem dX0_tell_46 : decode cX0_tell 46 = .ok (.lload 6, 2) := by decide +kernel
theorem dX0_tell_48 : decode cX0_tell 48 = .ok (.lconst 0, 1) := by decide +kernel
theorem dX0_tell_49 : decode cX0_tell 49 = .ok (.lcmp, 1) := by decide +kernel
theorem dX0_tell_50 : decode cX0_tell 50 = .ok (.ifCond .lt 16, 3) := by decide +kernel
theorem dX0_tell_53 : decode cX0_tell 53 = .ok (.lload 6, 2) := by decide +kernel
theorem dX0_tell_55 : decode cX0_tell 55 = .ok (.ldc2_w 30, 3) := by decide +kernel
theorem dX0_tell_58 : decode cX0_tell 58 = .ok (.lcmp, 1) := by decide +kernel
theorem dX0_tell_59 : decode cX0_tell 59 = .ok (.ifCond .gt 7, 3) := by decide +kernel
theorem dX0_tell_62 : decode cX0_tell 62 = .ok (.iconst 1, 1) := by decide +kernel
theorem dX0_tell_63 : decode cX0_tell 63 = .ok (.goto 4, 3) := by decide +kernel
theorem dX0_tell_66 : decode cX0_tell 66 = .ok (.iconst 0, 1) := by decide +kernel
theorem dX0_tell_67 : decode cX0_tell 67 = .ok (.istore 8, 2) := by decide +kernel
theorem dX0_tell_69 : decode cX0_tell 69 = .ok (.iload 8, 2) := by decide +kernel
theorem dX0_tell_71 : decode cX0_tell 71 = .ok (.ifCond .eq 41, 3) := by decide +kernel
theorem dX0_tell_74 : decode cX0_tell 74 = .ok (.aload_n 0, 1) := by decide +kernel
theorem dX0_tell_75 : decode cX0_tell 75 = .ok (.getfield 9, 3) := by decide +kernel
theorem dX0_tell_78 : decode cX0_tell 78 = .ok (.iload 5, 2) := by decide +kernel
theorem dX0_tell_80 : decode cX0_tell 80 = .ok (.iaload, 1) := by decide +kernel
theorem dX0_tell_81 : decode cX0_tell 81 = .ok (.iconst (-1), 1) := by decide +kernel
theorem dX0_tell_82 : decode cX0_tell 82 = .ok (.if_icmp .eq 17, 3) := by decide +kernel
theorem dX0_tell_85 : decode cX0_tell 85 = .ok (.aload_n 0, 1) := by decide +kernel
theorem dX0_tell_86 : decode cX0_tell 86 = .ok (.getfield 9, 3) := by decide +kernel
theorem dX0_tell_89 : decode cX0_tell 89 = .ok (.iload 5, 2) := by decide +kernel
theorem dX0_tell_91 : decode cX0_tell 91 = .ok (.iaload, 1) := by decide +kernel
theorem dX0_tell_92 : decode cX0_tell 92 = .ok (.i2l, 1) := by decide +kernel
theorem dX0_tell_93 : decode cX0_tell 93 = .ok (.lload 6, 2) := by decide +kernel
theorem dX0_tell_95 : decode cX0_tell 95 = .ok (.lcmp, 1) := by decide +kernel
theorem dX0_tell_96 : decode cX0_tell 96 = .ok (.ifCond .ne 16, 3) := by decide +kernel
theorem dX0_tell_99 : decode cX0_tell 99 = .ok (.aload_n 0, 1) := by decide +kernel
theorem dX0_tell_100 : decode cX0_tell 100 = .ok (.getfield 9, 3) := by decide +kernel
theorem dX0_tell_103 : decode cX0_tell 103 = .ok (.iload 5, 2) := by decide +kernel
theorem dX0_tell_105 : decode cX0_tell 105 = .ok (.lload 6, 2) := by decide +kernel
theorem dX0_tell_107 : decode cX0_tell 107 = .ok (.l2i, 1) := by decide +kernel
theorem dX0_tell_108 : decode cX0_tell 108 = .ok (.iastore, 1) := by decide +kernel
theorem dX0_tell_109 : decode cX0_tell 109 = .ok (.goto 12, 3) := by decide +kernel
theorem dX0_tell_112 : decode cX0_tell 112 = .ok (.aload_n 0, 1) := by decide +kernel
theorem dX0_tell_113 : decode cX0_tell 113 = .ok (.getfield 9, 3) := by decide +kernel
theorem dX0_tell_116 : decode cX0_tell 116 = .ok (.iload 5, 2) := by decide +kernel
theorem dX0_tell_118 : decode cX0_tell 118 = .ok (.bipush (-2), 2) := by decide +kernel
theorem dX0_tell_120 : decode cX0_tell 120 = .ok (.iastore, 1) := by decide +kernel
theorem dX0_tell_121 : decode cX0_tell 121 = .ok (.iinc 4 1, 3) := by decide +kernel
theorem dX0_tell_124 : decode cX0_tell 124 = .ok (.goto (-113), 3) := by decide +kernel
theorem dX0_tell_127 : decode cX0_tell 127 = .ok (.return_, 1) := by decide +kernel
theorem dX0_countAll_0 : decode cX0_countAll 0 = .ok (.aload_n 0, 1) := by decide +kernel
theorem dX0_countAll_1 : decode cX0_countAll 1 = .ok (.iconst (-1), 1) := by decide +kernel
theorem dX0_countAll_2 : decode cX0_countAll 2 = .ok (.iconst 0, 1) := by decide +kernel
theorem dX0_countAll_3 : decode cX0_countAll 3 = .ok (.invokevirtual 32, 3) := by decide +kernel
theorem dX0_countAll_6 : decode cX0_countAll 6 = .ok (.lreturn, 1) := by decide +kernel
theorem dX0_sureNumber_0 : decode cX0_sureNumber 0 = .ok (.bipush (-4), 2) := by decide +kernel
theorem dX0_sureNumber_2 : decode cX0_sureNumber 2 = .ok (.istore_n 2, 1) := by decide +kernel
theorem dX0_sureNumber_3 : decode cX0_sureNumber 3 = .ok (.iconst 0, 1) := by decide +kernel
theorem dX0_sureNumber_4 : decode cX0_sureNumber 4 = .ok (.istore_n 3, 1) := by decide +kernel
theorem dX0_sureNumber_5 : decode cX0_sureNumber 5 = .ok (.iload_n 3, 1) := by decide +kernel
theorem dX0_sureNumber_6 : decode cX0_sureNumber 6 = .ok (.iconst 2, 1) := by decide +kernel
theorem dX0_sureNumber_7 : decode cX0_sureNumber 7 = .ok (.if_icmp .gt 31, 3) := by decide +kernel
theorem dX0_sureNumber_10 : decode cX0_sureNumber 10 = .ok (.aload_n 0, 1) := by decide +kernel
theorem dX0_sureNumber_11 : decode cX0_sureNumber 11 = .ok (.iload_n 1, 1) := by decide +kernel
theorem dX0_sureNumber_12 : decode cX0_sureNumber 12 = .ok (.iload_n 3, 1) := by decide +kernel
theorem dX0_sureNumber_13 : decode cX0_sureNumber 13 = .ok (.invokevirtual 32, 3) := by decide +kernel
theorem dX0_sureNumber_16 : decode cX0_sureNumber 16 = .ok (.lconst 0, 1) := by decide +kernel
theorem dX0_sureNumber_17 : decode cX0_sureNumber 17 = .ok (.lcmp, 1) := by decide +kernel
theorem dX0_sureNumber_18 : decode cX0_sureNumber 18 = .ok (.ifCond .le 14, 3) := by decide +kernel
theorem dX0_sureNumber_21 : decode cX0_sureNumber 21 = .ok (.iload_n 2, 1) := by decide +kernel
theorem dX0_sureNumber_22 : decode cX0_sureNumber 22 = .ok (.bipush (-4), 2) := by decide +kernel
theorem dX0_sureNumber_24 : decode cX0_sureNumber 24 = .ok (.if_icmp .eq 6, 3) := by decide +kernel
theorem dX0_sureNumber_27 : decode cX0_sureNumber 27 = .ok (.bipush (-4), 2) := by decide +kernel
theorem dX0_sureNumber_29 : decode cX0_sureNumber 29 = .ok (.ireturn, 1) := by decide +kernel
theorem dX0_sureNumber_30 : decode cX0_sureNumber 30 = .ok (.iload_n 3, 1) := by decide +kernel
theorem dX0_sureNumber_31 : decode cX0_sureNumber 31 = .ok (.istore_n 2, 1) := by decide +kernel
theorem dX0_sureNumber_32 : decode cX0_sureNumber 32 = .ok (.iinc 3 1, 3) := by decide +kernel
theorem dX0_sureNumber_35 : decode cX0_sureNumber 35 = .ok (.goto (-30), 3) := by decide +kernel
theorem dX0_sureNumber_38 : decode cX0_sureNumber 38 = .ok (.iload_n 2, 1) := by decide +kernel
theorem dX0_sureNumber_39 : decode cX0_sureNumber 39 = .ok (.ireturn, 1) := by decide +kernel
theorem dX0_countWith_0 : decode cX0_countWith 0 = .ok (.aload_n 0, 1) := by decide +kernel
theorem dX0_countWith_1 : decode cX0_countWith 1 = .ok (.getfield 15, 3) := by decide +kernel
theorem dX0_countWith_4 : decode cX0_countWith 4 = .ok (.lconst 0, 1) := by decide +kernel
theorem dX0_countWith_5 : decode cX0_countWith 5 = .ok (.invokestatic 36, 3) := by decide +kernel
theorem dX0_countWith_8 : decode cX0_countWith 8 = .ok (.aload_n 0, 1) := by decide +kernel
theorem dX0_countWith_9 : decode cX0_countWith 9 = .ok (.getfield 15, 3) := by decide +kernel
theorem dX0_countWith_12 : decode cX0_countWith 12 = .ok (.iconst 0, 1) := by decide +kernel
theorem dX0_countWith_13 : decode cX0_countWith 13 = .ok (.lconst 1, 1) := by decide +kernel
theorem dX0_countWith_14 : decode cX0_countWith 14 = .ok (.lastore, 1) := by decide +kernel
theorem dX0_countWith_15 : decode cX0_countWith 15 = .ok (.aload_n 0, 1) := by decide +kernel
theorem dX0_countWith_16 : decode cX0_countWith 16 = .ok (.iconst 0, 1) := by decide +kernel
theorem dX0_countWith_17 : decode cX0_countWith 17 = .ok (.invokevirtual 39, 3) := by decide +kernel
theorem dX0_countWith_20 : decode cX0_countWith 20 = .ok (.iconst 0, 1) := by decide +kernel
theorem dX0_countWith_21 : decode cX0_countWith 21 = .ok (.istore_n 3, 1) := by decide +kernel
theorem dX0_countWith_22 : decode cX0_countWith 22 = .ok (.iload_n 3, 1) := by decide +kernel
theorem dX0_countWith_23 : decode cX0_countWith 23 = .ok (.bipush 24, 2) := by decide +kernel
theorem dX0_countWith_25 : decode cX0_countWith 25 = .ok (.if_icmp .ge 48, 3) := by decide +kernel
theorem dX0_countWith_28 : decode cX0_countWith 28 = .ok (.iload_n 3, 1) := by decide +kernel
theorem dX0_countWith_29 : decode cX0_countWith 29 = .ok (.iload_n 1, 1) := by decide +kernel
theorem dX0_countWith_30 : decode cX0_countWith 30 = .ok (.if_icmp .ne 7, 3) := by decide +kernel
theorem dX0_countWith_33 : decode cX0_countWith 33 = .ok (.iload_n 2, 1) := by decide +kernel
theorem dX0_countWith_34 : decode cX0_countWith 34 = .ok (.goto 4, 3) := by decide +kernel
theorem dX0_countWith_37 : decode cX0_countWith 37 = .ok (.iconst 0, 1) := by decide +kernel
theorem dX0_countWith_38 : decode cX0_countWith 38 = .ok (.istore 4, 2) := by decide +kernel
theorem dX0_countWith_40 : decode cX0_countWith 40 = .ok (.iload_n 3, 1) := by decide +kernel
theorem dX0_countWith_41 : decode cX0_countWith 41 = .ok (.iload_n 1, 1) := by decide +kernel
theorem dX0_countWith_42 : decode cX0_countWith 42 = .ok (.if_icmp .ne 7, 3) := by decide +kernel
theorem dX0_countWith_45 : decode cX0_countWith 45 = .ok (.iload_n 2, 1) := by decide +kernel
theorem dX0_countWith_46 : decode cX0_countWith 46 = .ok (.goto 4, 3) := by decide +kernel
theorem dX0_countWith_49 : decode cX0_countWith 49 = .ok (.iconst 2, 1) := by decide +kernel
theorem dX0_countWith_50 : decode cX0_countWith 50 = .ok (.istore 5, 2) := by decide +kernel
theorem dX0_countWith_52 : decode cX0_countWith 52 = .ok (.aload_n 0, 1) := by decide +kernel
theorem dX0_countWith_53 : decode cX0_countWith 53 = .ok (.iload 4, 2) := by decide +kernel
theorem dX0_countWith_55 : decode cX0_countWith 55 = .ok (.iload 5, 2) := by decide +kernel
theorem dX0_countWith_57 : decode cX0_countWith 57 = .ok (.invokevirtual 43, 3) := by decide +kernel
theorem dX0_countWith_60 : decode cX0_countWith 60 = .ok (.aload_n 0, 1) := by decide +kernel
theorem dX0_countWith_61 : decode cX0_countWith 61 = .ok (.iload_n 3, 1) := by decide +kernel
theorem dX0_countWith_62 : decode cX0_countWith 62 = .ok (.iconst 1, 1) := by decide +kernel
theorem dX0_countWith_63 : decode cX0_countWith 63 = .ok (.iadd, 1) := by decide +kernel
theorem dX0_countWith_64 : decode cX0_countWith 64 = .ok (.invokevirtual 39, 3) := by decide +kernel
theorem dX0_countWith_67 : decode cX0_countWith 67 = .ok (.iinc 3 1, 3) := by decide +kernel
theorem dX0_countWith_70 : decode cX0_countWith 70 = .ok (.goto (-48), 3) := by decide +kernel
theorem dX0_countWith_73 : decode cX0_countWith 73 = .ok (.lconst 0, 1) := by decide +kernel
theorem dX0_countWith_74 : decode cX0_countWith 74 = .ok (.lstore_n 3, 1) := by decide +kernel
theorem dX0_countWith_75 : decode cX0_countWith 75 = .ok (.iconst 0, 1) := by decide +kernel
theorem dX0_countWith_76 : decode cX0_countWith 76 = .ok (.istore 5, 2) := by decide +kernel
theorem dX0_countWith_78 : decode cX0_countWith 78 = .ok (.iload 5, 2) := by decide +kernel
theorem dX0_countWith_80 : decode cX0_countWith 80 = .ok (.bipush 48, 2) := by decide +kernel
theorem dX0_countWith_82 : decode cX0_countWith 82 = .ok (.if_icmp .gt 19, 3) := by decide +kernel
theorem dX0_countWith_85 : decode cX0_countWith 85 = .ok (.lload_n 3, 1) := by decide +kernel
theorem dX0_countWith_86 : decode cX0_countWith 86 = .ok (.aload_n 0, 1) := by decide +kernel
theorem dX0_countWith_87 : decode cX0_countWith 87 = .ok (.getfield 15, 3) := by decide +kernel
theorem dX0_countWith_90 : decode cX0_countWith 90 = .ok (.iload 5, 2) := by decide +kernel
theorem dX0_countWith_92 : decode cX0_countWith 92 = .ok (.laload, 1) := by decide +kernel
theorem dX0_countWith_93 : decode cX0_countWith 93 = .ok (.ladd, 1) := by decide +kernel
theorem dX0_countWith_94 : decode cX0_countWith 94 = .ok (.lstore_n 3, 1) := by decide +kernel
theorem dX0_countWith_95 : decode cX0_countWith 95 = .ok (.iinc 5 1, 3) := by decide +kernel
theorem dX0_countWith_98 : decode cX0_countWith 98 = .ok (.goto (-20), 3) := by decide +kernel
theorem dX0_countWith_101 : decode cX0_countWith 101 = .ok (.lload_n 3, 1) := by decide +kernel
theorem dX0_countWith_102 : decode cX0_countWith 102 = .ok (.lreturn, 1) := by decide +kernel
theorem dX0_passHour_0 : decode cX0_passHour 0 = .ok (.bipush 48, 2) := by decide +kernel
theorem dX0_passHour_2 : decode cX0_passHour 2 = .ok (.istore_n 3, 1) := by decide +kernel
theorem dX0_passHour_3 : decode cX0_passHour 3 = .ok (.iload_n 3, 1) := by decide +kernel
theorem dX0_passHour_4 : decode cX0_passHour 4 = .ok (.ifCond .lt 55, 3) := by decide +kernel
theorem dX0_passHour_7 : decode cX0_passHour 7 = .ok (.lconst 0, 1) := by decide +kernel
theorem dX0_passHour_8 : decode cX0_passHour 8 = .ok (.lstore 4, 2) := by decide +kernel
theorem dX0_passHour_10 : decode cX0_passHour 10 = .ok (.iload_n 1, 1) := by decide +kernel
theorem dX0_passHour_11 : decode cX0_passHour 11 = .ok (.istore 6, 2) := by decide +kernel
theorem dX0_passHour_13 : decode cX0_passHour 13 = .ok (.iload 6, 2) := by decide +kernel
theorem dX0_passHour_15 : decode cX0_passHour 15 = .ok (.iload_n 2, 1) := by decide +kernel
theorem dX0_passHour_16 : decode cX0_passHour 16 = .ok (.if_icmp .gt 29, 3) := by decide +kernel
theorem dX0_passHour_19 : decode cX0_passHour 19 = .ok (.iload 6, 2) := by decide +kernel
theorem dX0_passHour_21 : decode cX0_passHour 21 = .ok (.iload_n 3, 1) := by decide +kernel
theorem dX0_passHour_22 : decode cX0_passHour 22 = .ok (.if_icmp .gt 23, 3) := by decide +kernel
theorem dX0_passHour_25 : decode cX0_passHour 25 = .ok (.lload 4, 2) := by decide +kernel
theorem dX0_passHour_27 : decode cX0_passHour 27 = .ok (.aload_n 0, 1) := by decide +kernel
theorem dX0_passHour_28 : decode cX0_passHour 28 = .ok (.getfield 15, 3) := by decide +kernel
theorem dX0_passHour_31 : decode cX0_passHour 31 = .ok (.iload_n 3, 1) := by decide +kernel
theorem dX0_passHour_32 : decode cX0_passHour 32 = .ok (.iload 6, 2) := by decide +kernel
theorem dX0_passHour_34 : decode cX0_passHour 34 = .ok (.isub, 1) := by decide +kernel
theorem dX0_passHour_35 : decode cX0_passHour 35 = .ok (.laload, 1) := by decide +kernel
theorem dX0_passHour_36 : decode cX0_passHour 36 = .ok (.ladd, 1) := by decide +kernel
theorem dX0_passHour_37 : decode cX0_passHour 37 = .ok (.lstore 4, 2) := by decide +kernel
theorem dX0_passHour_39 : decode cX0_passHour 39 = .ok (.iinc 6 1, 3) := by decide +kernel
theorem dX0_passHour_42 : decode cX0_passHour 42 = .ok (.goto (-29), 3) := by decide +kernel
theorem dX0_passHour_45 : decode cX0_passHour 45 = .ok (.aload_n 0, 1) := by decide +kernel
theorem dX0_passHour_46 : decode cX0_passHour 46 = .ok (.getfield 15, 3) := by decide +kernel
theorem dX0_passHour_49 : decode cX0_passHour 49 = .ok (.iload_n 3, 1) := by decide +kernel
theorem dX0_passHour_50 : decode cX0_passHour 50 = .ok (.lload 4, 2) := by decide +kernel
theorem dX0_passHour_52 : decode cX0_passHour 52 = .ok (.lastore, 1) := by decide +kernel
theorem dX0_passHour_53 : decode cX0_passHour 53 = .ok (.iinc 3 (-1), 3) := by decide +kernel
theorem dX0_passHour_56 : decode cX0_passHour 56 = .ok (.goto (-53), 3) := by decide +kernel
theorem dX0_passHour_59 : decode cX0_passHour 59 = .ok (.return_, 1) := by decide +kernel
theorem dX0_keepTold_0 : decode cX0_keepTold 0 = .ok (.iconst 0, 1) := by decide +kernel
theorem dX0_keepTold_1 : decode cX0_keepTold 1 = .ok (.istore_n 2, 1) := by decide +kernel
theorem dX0_keepTold_2 : decode cX0_keepTold 2 = .ok (.iload_n 2, 1) := by decide +kernel
theorem dX0_keepTold_3 : decode cX0_keepTold 3 = .ok (.bipush 48, 2) := by decide +kernel
theorem dX0_keepTold_5 : decode cX0_keepTold 5 = .ok (.if_icmp .gt 36, 3) := by decide +kernel
theorem dX0_keepTold_8 : decode cX0_keepTold 8 = .ok (.aload_n 0, 1) := by decide +kernel
theorem dX0_keepTold_9 : decode cX0_keepTold 9 = .ok (.getfield 9, 3) := by decide +kernel
theorem dX0_keepTold_12 : decode cX0_keepTold 12 = .ok (.iload_n 1, 1) := by decide +kernel
theorem dX0_keepTold_13 : decode cX0_keepTold 13 = .ok (.iaload, 1) := by decide +kernel
theorem dX0_keepTold_14 : decode cX0_keepTold 14 = .ok (.iconst (-1), 1) := by decide +kernel
theorem dX0_keepTold_15 : decode cX0_keepTold 15 = .ok (.if_icmp .eq 26, 3) := by decide +kernel
theorem dX0_keepTold_18 : decode cX0_keepTold 18 = .ok (.iload_n 2, 1) := by decide +kernel
theorem dX0_keepTold_19 : decode cX0_keepTold 19 = .ok (.aload_n 0, 1) := by decide +kernel
theorem dX0_keepTold_20 : decode cX0_keepTold 20 = .ok (.getfield 9, 3) := by decide +kernel
theorem dX0_keepTold_23 : decode cX0_keepTold 23 = .ok (.iload_n 1, 1) := by decide +kernel
theorem dX0_keepTold_24 : decode cX0_keepTold 24 = .ok (.iaload, 1) := by decide +kernel
theorem dX0_keepTold_25 : decode cX0_keepTold 25 = .ok (.if_icmp .eq 10, 3) := by decide +kernel
theorem dX0_keepTold_28 : decode cX0_keepTold 28 = .ok (.aload_n 0, 1) := by decide +kernel
theorem dX0_keepTold_29 : decode cX0_keepTold 29 = .ok (.getfield 15, 3) := by decide +kernel
theorem dX0_keepTold_32 : decode cX0_keepTold 32 = .ok (.iload_n 2, 1) := by decide +kernel
theorem dX0_keepTold_33 : decode cX0_keepTold 33 = .ok (.lconst 0, 1) := by decide +kernel
theorem dX0_keepTold_34 : decode cX0_keepTold 34 = .ok (.lastore, 1) := by decide +kernel
theorem dX0_keepTold_35 : decode cX0_keepTold 35 = .ok (.iinc 2 1, 3) := by decide +kernel
theorem dX0_keepTold_38 : decode cX0_keepTold 38 = .ok (.goto (-36), 3) := by decide +kernel
theorem dX0_keepTold_41 : decode cX0_keepTold 41 = .ok (.return_, 1) := by decide +kernel
theorem dX1_init_0 : decode cX1_init 0 = .ok (.aload_n 0, 1) := by decide +kernel
theorem dX1_init_1 : decode cX1_init 1 = .ok (.invokespecial 3, 3) := by decide +kernel
theorem dX1_init_4 : decode cX1_init 4 = .ok (.return_, 1) := by decide +kernel
theorem dX1_become_0 : decode cX1_become 0 = .ok (.aload_n 0, 1) := by decide +kernel
theorem dX1_become_1 : decode cX1_become 1 = .ok (.iload_n 1, 1) := by decide +kernel
theorem dX1_become_2 : decode cX1_become 2 = .ok (.putfield 9, 3) := by decide +kernel
theorem dX1_become_5 : decode cX1_become 5 = .ok (.aload_n 0, 1) := by decide +kernel
theorem dX1_become_6 : decode cX1_become 6 = .ok (.iload_n 2, 1) := by decide +kernel
theorem dX1_become_7 : decode cX1_become 7 = .ok (.putfield 15, 3) := by decide +kernel
theorem dX1_become_10 : decode cX1_become 10 = .ok (.aload_n 0, 1) := by decide +kernel
theorem dX1_become_11 : decode cX1_become 11 = .ok (.iload_n 3, 1) := by decide +kernel
theorem dX1_become_12 : decode cX1_become 12 = .ok (.putfield 18, 3) := by decide +kernel
theorem dX1_become_15 : decode cX1_become 15 = .ok (.aload_n 0, 1) := by decide +kernel
theorem dX1_become_16 : decode cX1_become 16 = .ok (.iload 4, 2) := by decide +kernel
theorem dX1_become_18 : decode cX1_become 18 = .ok (.putfield 21, 3) := by decide +kernel
theorem dX1_become_21 : decode cX1_become 21 = .ok (.return_, 1) := by decide +kernel
theorem dX1_becomeLike_0 : decode cX1_becomeLike 0 = .ok (.aload_n 0, 1) := by decide +kernel
theorem dX1_becomeLike_1 : decode cX1_becomeLike 1 = .ok (.aload_n 1, 1) := by decide +kernel
theorem dX1_becomeLike_2 : decode cX1_becomeLike 2 = .ok (.getfield 9, 3) := by decide +kernel
theorem dX1_becomeLike_5 : decode cX1_becomeLike 5 = .ok (.aload_n 1, 1) := by decide +kernel
theorem dX1_becomeLike_6 : decode cX1_becomeLike 6 = .ok (.getfield 15, 3) := by decide +kernel
theorem dX1_becomeLike_9 : decode cX1_becomeLike 9 = .ok (.aload_n 1, 1) := by decide +kernel
theorem dX1_becomeLike_10 : decode cX1_becomeLike 10 = .ok (.getfield 18, 3) := by decide +kernel
theorem dX1_becomeLike_13 : decode cX1_becomeLike 13 = .ok (.aload_n 1, 1) := by decide +kernel
theorem dX1_becomeLike_14 : decode cX1_becomeLike 14 = .ok (.getfield 21, 3) := by decide +kernel
theorem dX1_becomeLike_17 : decode cX1_becomeLike 17 = .ok (.invokevirtual 24, 3) := by decide +kernel
theorem dX1_becomeLike_20 : decode cX1_becomeLike 20 = .ok (.return_, 1) := by decide +kernel
theorem dX1_worthOf_0 : decode cX1_worthOf 0 = .ok (.aload_n 0, 1) := by decide +kernel
theorem dX1_worthOf_1 : decode cX1_worthOf 1 = .ok (.getfield 15, 3) := by decide +kernel
theorem dX1_worthOf_4 : decode cX1_worthOf 4 = .ok (.iload_n 1, 1) := by decide +kernel
theorem dX1_worthOf_5 : decode cX1_worthOf 5 = .ok (.invokestatic 28, 3) := by decide +kernel
theorem dX1_worthOf_8 : decode cX1_worthOf 8 = .ok (.istore_n 3, 1) := by decide +kernel
theorem dX1_worthOf_9 : decode cX1_worthOf 9 = .ok (.aload_n 0, 1) := by decide +kernel
theorem dX1_worthOf_10 : decode cX1_worthOf 10 = .ok (.getfield 9, 3) := by decide +kernel
theorem dX1_worthOf_13 : decode cX1_worthOf 13 = .ok (.tableswitch 60 0 2 #[27, 40, 54], 27) := by decide +kernel
theorem dX1_worthOf_40 : decode cX1_worthOf 40 = .ok (.iload_n 3, 1) := by decide +kernel
theorem dX1_worthOf_41 : decode cX1_worthOf 41 = .ok (.ifCond .ne 10, 3) := by decide +kernel
theorem dX1_worthOf_44 : decode cX1_worthOf 44 = .ok (.aload_n 0, 1) := by decide +kernel
theorem dX1_worthOf_45 : decode cX1_worthOf 45 = .ok (.getfield 18, 3) := by decide +kernel
theorem dX1_worthOf_48 : decode cX1_worthOf 48 = .ok (.goto 4, 3) := by decide +kernel
theorem dX1_worthOf_51 : decode cX1_worthOf 51 = .ok (.iconst 0, 1) := by decide +kernel
theorem dX1_worthOf_52 : decode cX1_worthOf 52 = .ok (.ireturn, 1) := by decide +kernel
theorem dX1_worthOf_53 : decode cX1_worthOf 53 = .ok (.iload_n 3, 1) := by decide +kernel
theorem dX1_worthOf_54 : decode cX1_worthOf 54 = .ok (.iconst 1, 1) := by decide +kernel
theorem dX1_worthOf_55 : decode cX1_worthOf 55 = .ok (.if_icmp .gt 10, 3) := by decide +kernel
theorem dX1_worthOf_58 : decode cX1_worthOf 58 = .ok (.aload_n 0, 1) := by decide +kernel
theorem dX1_worthOf_59 : decode cX1_worthOf 59 = .ok (.getfield 18, 3) := by decide +kernel
theorem dX1_worthOf_62 : decode cX1_worthOf 62 = .ok (.goto 4, 3) := by decide +kernel
theorem dX1_worthOf_65 : decode cX1_worthOf 65 = .ok (.iconst 0, 1) := by decide +kernel
theorem dX1_worthOf_66 : decode cX1_worthOf 66 = .ok (.ireturn, 1) := by decide +kernel
theorem dX1_worthOf_67 : decode cX1_worthOf 67 = .ok (.aload_n 0, 1) := by decide +kernel
theorem dX1_worthOf_68 : decode cX1_worthOf 68 = .ok (.iload_n 3, 1) := by decide +kernel
theorem dX1_worthOf_69 : decode cX1_worthOf 69 = .ok (.invokevirtual 32, 3) := by decide +kernel
theorem dX1_worthOf_72 : decode cX1_worthOf 72 = .ok (.ireturn, 1) := by decide +kernel
theorem dX1_worthOf_73 : decode cX1_worthOf 73 = .ok (.aload_n 0, 1) := by decide +kernel
theorem dX1_worthOf_74 : decode cX1_worthOf 74 = .ok (.iload_n 3, 1) := by decide +kernel
theorem dX1_worthOf_75 : decode cX1_worthOf 75 = .ok (.invokevirtual 32, 3) := by decide +kernel
theorem dX1_worthOf_78 : decode cX1_worthOf 78 = .ok (.iload_n 2, 1) := by decide +kernel
theorem dX1_worthOf_79 : decode cX1_worthOf 79 = .ok (.ishr, 1) := by decide +kernel
theorem dX1_worthOf_80 : decode cX1_worthOf 80 = .ok (.ireturn, 1) := by decide +kernel
theorem dX1_cookWorth_0 : decode cX1_cookWorth 0 = .ok (.aload_n 0, 1) := by decide +kernel
theorem dX1_cookWorth_1 : decode cX1_cookWorth 1 = .ok (.getfield 18, 3) := by decide +kernel
theorem dX1_cookWorth_4 : decode cX1_cookWorth 4 = .ok (.iconst 3, 1) := by decide +kernel
theorem dX1_cookWorth_5 : decode cX1_cookWorth 5 = .ok (.iload_n 1, 1) := by decide +kernel
theorem dX1_cookWorth_6 : decode cX1_cookWorth 6 = .ok (.imul, 1) := by decide +kernel
theorem dX1_cookWorth_7 : decode cX1_cookWorth 7 = .ok (.isub, 1) := by decide +kernel
theorem dX1_cookWorth_8 : decode cX1_cookWorth 8 = .ok (.iconst 0, 1) := by decide +kernel
theorem dX1_cookWorth_9 : decode cX1_cookWorth 9 = .ok (.invokestatic 36, 3) := by decide +kernel
theorem dX1_cookWorth_12 : decode cX1_cookWorth 12 = .ok (.ireturn, 1) := by decide +kernel
theorem dX1_favouriteHour_0 : decode cX1_favouriteHour 0 = .ok (.bipush (-4), 2) := by decide +kernel
theorem dX1_favouriteHour_2 : decode cX1_favouriteHour 2 = .ok (.istore_n 1, 1) := by decide +kernel
theorem dX1_favouriteHour_3 : decode cX1_favouriteHour 3 = .ok (.iconst 0, 1) := by decide +kernel
theorem dX1_favouriteHour_4 : decode cX1_favouriteHour 4 = .ok (.istore_n 2, 1) := by decide +kernel
theorem dX1_favouriteHour_5 : decode cX1_favouriteHour 5 = .ok (.iconst 0, 1) := by decide +kernel
theorem dX1_favouriteHour_6 : decode cX1_favouriteHour 6 = .ok (.istore_n 3, 1) := by decide +kernel
theorem dX1_favouriteHour_7 : decode cX1_favouriteHour 7 = .ok (.iload_n 3, 1) := by decide +kernel
theorem dX1_favouriteHour_8 : decode cX1_favouriteHour 8 = .ok (.bipush 24, 2) := by decide +kernel
theorem dX1_favouriteHour_10 : decode cX1_favouriteHour 10 = .ok (.if_icmp .ge 36, 3) := by decide +kernel
theorem dX1_favouriteHour_13 : decode cX1_favouriteHour 13 = .ok (.aload_n 0, 1) := by decide +kernel
theorem dX1_favouriteHour_14 : decode cX1_favouriteHour 14 = .ok (.getfield 21, 3) := by decide +kernel
theorem dX1_favouriteHour_17 : decode cX1_favouriteHour 17 = .ok (.iconst 1, 1) := by decide +kernel
theorem dX1_favouriteHour_18 : decode cX1_favouriteHour 18 = .ok (.if_icmp .ne 28, 3) := by decide +kernel
theorem dX1_favouriteHour_21 : decode cX1_favouriteHour 21 = .ok (.aload_n 0, 1) := by decide +kernel
theorem dX1_favouriteHour_22 : decode cX1_favouriteHour 22 = .ok (.iload_n 3, 1) := by decide +kernel
theorem dX1_favouriteHour_23 : decode cX1_favouriteHour 23 = .ok (.iconst 0, 1) := by decide +kernel
theorem dX1_favouriteHour_24 : decode cX1_favouriteHour 24 = .ok (.invokevirtual 41, 3) := by decide +kernel
theorem dX1_favouriteHour_27 : decode cX1_favouriteHour 27 = .ok (.istore 4, 2) := by decide +kernel
theorem dX1_favouriteHour_29 : decode cX1_favouriteHour 29 = .ok (.iload 4, 2) := by decide +kernel
theorem dX1_favouriteHour_31 : decode cX1_favouriteHour 31 = .ok (.iload_n 2, 1) := by decide +kernel
theorem dX1_favouriteHour_32 : decode cX1_favouriteHour 32 = .ok (.if_icmp .le 8, 3) := by decide +kernel
theorem dX1_favouriteHour_35 : decode cX1_favouriteHour 35 = .ok (.iload 4, 2) := by decide +kernel
theorem dX1_favouriteHour_37 : decode cX1_favouriteHour 37 = .ok (.istore_n 2, 1) := by decide +kernel
theorem dX1_favouriteHour_38 : decode cX1_favouriteHour 38 = .ok (.iload_n 3, 1) := by decide +kernel
theorem dX1_favouriteHour_39 : decode cX1_favouriteHour 39 = .ok (.istore_n 1, 1) := by decide +kernel
theorem dX1_favouriteHour_40 : decode cX1_favouriteHour 40 = .ok (.iinc 3 1, 3) := by decide +kernel
theorem dX1_favouriteHour_43 : decode cX1_favouriteHour 43 = .ok (.goto (-36), 3) := by decide +kernel
theorem dX1_favouriteHour_46 : decode cX1_favouriteHour 46 = .ok (.iload_n 1, 1) := by decide +kernel
theorem dX1_favouriteHour_47 : decode cX1_favouriteHour 47 = .ok (.ireturn, 1) := by decide +kernel
theorem dX2_init_0 : decode cX2_init 0 = .ok (.aload_n 0, 1) := by decide +kernel
theorem dX2_init_1 : decode cX2_init 1 = .ok (.invokespecial 3, 3) := by decide +kernel
theorem dX2_init_4 : decode cX2_init 4 = .ok (.aload_n 0, 1) := by decide +kernel
theorem dX2_init_5 : decode cX2_init 5 = .ok (.sipush 192, 3) := by decide +kernel
theorem dX2_init_8 : decode cX2_init 8 = .ok (.newarray .int, 2) := by decide +kernel
theorem dX2_init_10 : decode cX2_init 10 = .ok (.putfield 9, 3) := by decide +kernel
theorem dX2_init_13 : decode cX2_init 13 = .ok (.aload_n 0, 1) := by decide +kernel
theorem dX2_init_14 : decode cX2_init 14 = .ok (.sipush 2500, 3) := by decide +kernel
theorem dX2_init_17 : decode cX2_init 17 = .ok (.newarray .int, 2) := by decide +kernel
theorem dX2_init_19 : decode cX2_init 19 = .ok (.putfield 15, 3) := by decide +kernel
theorem dX2_init_22 : decode cX2_init 22 = .ok (.aload_n 0, 1) := by decide +kernel
theorem dX2_init_23 : decode cX2_init 23 = .ok (.bipush 24, 2) := by decide +kernel
theorem dX2_init_25 : decode cX2_init 25 = .ok (.newarray .int, 2) := by decide +kernel
theorem dX2_init_27 : decode cX2_init 27 = .ok (.putfield 18, 3) := by decide +kernel
theorem dX2_init_30 : decode cX2_init 30 = .ok (.return_, 1) := by decide +kernel
theorem dX2_mostGain_0 : decode cX2_mostGain 0 = .ok (.iconst 0, 1) := by decide +kernel
theorem dX2_mostGain_1 : decode cX2_mostGain 1 = .ok (.istore 4, 2) := by decide +kernel
theorem dX2_mostGain_3 : decode cX2_mostGain 3 = .ok (.iload 4, 2) := by decide +kernel
theorem dX2_mostGain_5 : decode cX2_mostGain 5 = .ok (.bipush 24, 2) := by decide +kernel
theorem dX2_mostGain_7 : decode cX2_mostGain 7 = .ok (.if_icmp .ge 50, 3) := by decide +kernel
theorem dX2_mostGain_10 : decode cX2_mostGain 10 = .ok (.iconst 0, 1) := by decide +kernel
theorem dX2_mostGain_11 : decode cX2_mostGain 11 = .ok (.istore 5, 2) := by decide +kernel
theorem dX2_mostGain_13 : decode cX2_mostGain 13 = .ok (.iload 5, 2) := by decide +kernel
theorem dX2_mostGain_15 : decode cX2_mostGain 15 = .ok (.bipush 8, 2) := by decide +kernel
theorem dX2_mostGain_17 : decode cX2_mostGain 17 = .ok (.if_icmp .ge 34, 3) := by decide +kernel
theorem dX2_mostGain_20 : decode cX2_mostGain 20 = .ok (.aload_n 0, 1) := by decide +kernel
theorem dX2_mostGain_21 : decode cX2_mostGain 21 = .ok (.getfield 9, 3) := by decide +kernel
theorem dX2_mostGain_24 : decode cX2_mostGain 24 = .ok (.iload 4, 2) := by decide +kernel
theorem dX2_mostGain_26 : decode cX2_mostGain 26 = .ok (.bipush 8, 2) := by decide +kernel
theorem dX2_mostGain_28 : decode cX2_mostGain 28 = .ok (.imul, 1) := by decide +kernel
theorem dX2_mostGain_29 : decode cX2_mostGain 29 = .ok (.iload 5, 2) := by decide +kernel
theorem dX2_mostGain_31 : decode cX2_mostGain 31 = .ok (.iadd, 1) := by decide +kernel
theorem dX2_mostGain_32 : decode cX2_mostGain 32 = .ok (.aload_n 1, 1) := by decide +kernel
theorem dX2_mostGain_33 : decode cX2_mostGain 33 = .ok (.iload 4, 2) := by decide +kernel
theorem dX2_mostGain_35 : decode cX2_mostGain 35 = .ok (.iload 5, 2) := by decide +kernel
theorem dX2_mostGain_37 : decode cX2_mostGain 37 = .ok (.bipush (-2), 2) := by decide +kernel
theorem dX2_mostGain_39 : decode cX2_mostGain 39 = .ok (.iadd, 1) := by decide +kernel
theorem dX2_mostGain_40 : decode cX2_mostGain 40 = .ok (.iload_n 2, 1) := by decide +kernel
theorem dX2_mostGain_41 : decode cX2_mostGain 41 = .ok (.invokevirtual 21, 3) := by decide +kernel
theorem dX2_mostGain_44 : decode cX2_mostGain 44 = .ok (.iastore, 1) := by decide +kernel
theorem dX2_mostGain_45 : decode cX2_mostGain 45 = .ok (.iinc 5 1, 3) := by decide +kernel
theorem dX2_mostGain_48 : decode cX2_mostGain 48 = .ok (.goto (-35), 3) := by decide +kernel
theorem dX2_mostGain_51 : decode cX2_mostGain 51 = .ok (.iinc 4 1, 3) := by decide +kernel
theorem dX2_mostGain_54 : decode cX2_mostGain 54 = .ok (.goto (-51), 3) := by decide +kernel
theorem dX2_mostGain_57 : decode cX2_mostGain 57 = .ok (.aload_n 0, 1) := by decide +kernel
theorem dX2_mostGain_58 : decode cX2_mostGain 58 = .ok (.getfield 15, 3) := by decide +kernel
theorem dX2_mostGain_61 : decode cX2_mostGain 61 = .ok (.ldc 27, 2) := by decide +kernel
theorem dX2_mostGain_63 : decode cX2_mostGain 63 = .ok (.invokestatic 28, 3) := by decide +kernel
theorem dX2_mostGain_66 : decode cX2_mostGain 66 = .ok (.iload_n 3, 1) := by decide +kernel
theorem dX2_mostGain_67 : decode cX2_mostGain 67 = .ok (.ifCond .eq 7, 3) := by decide +kernel
theorem dX2_mostGain_70 : decode cX2_mostGain 70 = .ok (.iconst 0, 1) := by decide +kernel
theorem dX2_mostGain_71 : decode cX2_mostGain 71 = .ok (.goto 9, 3) := by decide +kernel
theorem dX2_mostGain_74 : decode cX2_mostGain 74 = .ok (.aload_n 1, 1) := by decide +kernel
theorem dX2_mostGain_75 : decode cX2_mostGain 75 = .ok (.bipush 24, 2) := by decide +kernel
theorem dX2_mostGain_77 : decode cX2_mostGain 77 = .ok (.invokevirtual 34, 3) := by decide +kernel
theorem dX2_mostGain_80 : decode cX2_mostGain 80 = .ok (.istore 4, 2) := by decide +kernel
theorem dX2_mostGain_82 : decode cX2_mostGain 82 = .ok (.iconst 0, 1) := by decide +kernel
theorem dX2_mostGain_83 : decode cX2_mostGain 83 = .ok (.istore 5, 2) := by decide +kernel
theorem dX2_mostGain_85 : decode cX2_mostGain 85 = .ok (.iload 5, 2) := by decide +kernel
theorem dX2_mostGain_87 : decode cX2_mostGain 87 = .ok (.iload 4, 2) := by decide +kernel
theorem dX2_mostGain_89 : decode cX2_mostGain 89 = .ok (.if_icmp .gt 28, 3) := by decide +kernel
theorem dX2_mostGain_92 : decode cX2_mostGain 92 = .ok (.iload 5, 2) := by decide +kernel
theorem dX2_mostGain_94 : decode cX2_mostGain 94 = .ok (.bipush 100, 2) := by decide +kernel
theorem dX2_mostGain_96 : decode cX2_mostGain 96 = .ok (.if_icmp .ge 21, 3) := by decide +kernel
theorem dX2_mostGain_99 : decode cX2_mostGain 99 = .ok (.aload_n 0, 1) := by decide +kernel
theorem dX2_mostGain_100 : decode cX2_mostGain 100 = .ok (.getfield 15, 3) := by decide +kernel
theorem dX2_mostGain_103 : decode cX2_mostGain 103 = .ok (.sipush 2400, 3) := by decide +kernel
theorem dX2_mostGain_106 : decode cX2_mostGain 106 = .ok (.iload 5, 2) := by decide +kernel
theorem dX2_mostGain_108 : decode cX2_mostGain 108 = .ok (.iadd, 1) := by decide +kernel
theorem dX2_mostGain_109 : decode cX2_mostGain 109 = .ok (.iconst 0, 1) := by decide +kernel
theorem dX2_mostGain_110 : decode cX2_mostGain 110 = .ok (.iastore, 1) := by decide +kernel
theorem dX2_mostGain_111 : decode cX2_mostGain 111 = .ok (.iinc 5 1, 3) := by decide +kernel
theorem dX2_mostGain_114 : decode cX2_mostGain 114 = .ok (.goto (-29), 3) := by decide +kernel
theorem dX2_mostGain_117 : decode cX2_mostGain 117 = .ok (.bipush 23, 2) := by decide +kernel
theorem dX2_mostGain_119 : decode cX2_mostGain 119 = .ok (.istore 5, 2) := by decide +kernel
theorem dX2_mostGain_121 : decode cX2_mostGain 121 = .ok (.iload 5, 2) := by decide +kernel
theorem dX2_mostGain_123 : decode cX2_mostGain 123 = .ok (.ifCond .lt 61, 3) := by decide +kernel
theorem dX2_mostGain_126 : decode cX2_mostGain 126 = .ok (.aload_n 1, 1) := by decide +kernel
theorem dX2_mostGain_127 : decode cX2_mostGain 127 = .ok (.iload 5, 2) := by decide +kernel
theorem dX2_mostGain_129 : decode cX2_mostGain 129 = .ok (.invokevirtual 34, 3) := by decide +kernel
theorem dX2_mostGain_132 : decode cX2_mostGain 132 = .ok (.istore 6, 2) := by decide +kernel
theorem dX2_mostGain_134 : decode cX2_mostGain 134 = .ok (.iconst 0, 1) := by decide +kernel
theorem dX2_mostGain_135 : decode cX2_mostGain 135 = .ok (.istore 7, 2) := by decide +kernel
theorem dX2_mostGain_137 : decode cX2_mostGain 137 = .ok (.iload 7, 2) := by decide +kernel
theorem dX2_mostGain_139 : decode cX2_mostGain 139 = .ok (.iload 6, 2) := by decide +kernel
theorem dX2_mostGain_141 : decode cX2_mostGain 141 = .ok (.if_icmp .gt 37, 3) := by decide +kernel
theorem dX2_mostGain_144 : decode cX2_mostGain 144 = .ok (.iload 7, 2) := by decide +kernel
theorem dX2_mostGain_146 : decode cX2_mostGain 146 = .ok (.bipush 100, 2) := by decide +kernel
theorem dX2_mostGain_148 : decode cX2_mostGain 148 = .ok (.if_icmp .ge 30, 3) := by decide +kernel
theorem dX2_mostGain_151 : decode cX2_mostGain 151 = .ok (.aload_n 0, 1) := by decide +kernel
theorem dX2_mostGain_152 : decode cX2_mostGain 152 = .ok (.getfield 15, 3) := by decide +kernel
theorem dX2_mostGain_155 : decode cX2_mostGain 155 = .ok (.iload 5, 2) := by decide +kernel
theorem dX2_mostGain_157 : decode cX2_mostGain 157 = .ok (.bipush 100, 2) := by decide +kernel
theorem dX2_mostGain_159 : decode cX2_mostGain 159 = .ok (.imul, 1) := by decide +kernel
theorem dX2_mostGain_160 : decode cX2_mostGain 160 = .ok (.iload 7, 2) := by decide +kernel
theorem dX2_mostGain_162 : decode cX2_mostGain 162 = .ok (.iadd, 1) := by decide +kernel
theorem dX2_mostGain_163 : decode cX2_mostGain 163 = .ok (.aload_n 0, 1) := by decide +kernel
theorem dX2_mostGain_164 : decode cX2_mostGain 164 = .ok (.iload 5, 2) := by decide +kernel
theorem dX2_mostGain_166 : decode cX2_mostGain 166 = .ok (.iload 7, 2) := by decide +kernel
theorem dX2_mostGain_168 : decode cX2_mostGain 168 = .ok (.invokevirtual 38, 3) := by decide +kernel
theorem dX2_mostGain_171 : decode cX2_mostGain 171 = .ok (.iastore, 1) := by decide +kernel
theorem dX2_mostGain_172 : decode cX2_mostGain 172 = .ok (.iinc 7 1, 3) := by decide +kernel
theorem dX2_mostGain_175 : decode cX2_mostGain 175 = .ok (.goto (-38), 3) := by decide +kernel
theorem dX2_mostGain_178 : decode cX2_mostGain 178 = .ok (.iinc 5 (-1), 3) := by decide +kernel
theorem dX2_mostGain_181 : decode cX2_mostGain 181 = .ok (.goto (-60), 3) := by decide +kernel
theorem dX2_mostGain_184 : decode cX2_mostGain 184 = .ok (.aload_n 0, 1) := by decide +kernel
theorem dX2_mostGain_185 : decode cX2_mostGain 185 = .ok (.getfield 15, 3) := by decide +kernel
theorem dX2_mostGain_188 : decode cX2_mostGain 188 = .ok (.iconst 0, 1) := by decide +kernel
theorem dX2_mostGain_189 : decode cX2_mostGain 189 = .ok (.iaload, 1) := by decide +kernel
theorem dX2_mostGain_190 : decode cX2_mostGain 190 = .ok (.ireturn, 1) := by decide +kernel
theorem dX2_mostFrom_0 : decode cX2_mostFrom 0 = .ok (.ldc 27, 2) := by decide +kernel
theorem dX2_mostFrom_2 : decode cX2_mostFrom 2 = .ok (.istore_n 3, 1) := by decide +kernel
theorem dX2_mostFrom_3 : decode cX2_mostFrom 3 = .ok (.iconst 0, 1) := by decide +kernel
theorem dX2_mostFrom_4 : decode cX2_mostFrom 4 = .ok (.istore 4, 2) := by decide +kernel
theorem dX2_mostFrom_6 : decode cX2_mostFrom 6 = .ok (.iload 4, 2) := by decide +kernel
theorem dX2_mostFrom_8 : decode cX2_mostFrom 8 = .ok (.bipush 8, 2) := by decide +kernel
theorem dX2_mostFrom_10 : decode cX2_mostFrom 10 = .ok (.if_icmp .ge 22, 3) := by decide +kernel
theorem dX2_mostFrom_13 : decode cX2_mostFrom 13 = .ok (.iload_n 3, 1) := by decide +kernel
theorem dX2_mostFrom_14 : decode cX2_mostFrom 14 = .ok (.aload_n 0, 1) := by decide +kernel
theorem dX2_mostFrom_15 : decode cX2_mostFrom 15 = .ok (.iload_n 1, 1) := by decide +kernel
theorem dX2_mostFrom_16 : decode cX2_mostFrom 16 = .ok (.iload_n 2, 1) := by decide +kernel
theorem dX2_mostFrom_17 : decode cX2_mostFrom 17 = .ok (.iload 4, 2) := by decide +kernel
theorem dX2_mostFrom_19 : decode cX2_mostFrom 19 = .ok (.invokevirtual 42, 3) := by decide +kernel
theorem dX2_mostFrom_22 : decode cX2_mostFrom 22 = .ok (.invokestatic 45, 3) := by decide +kernel
theorem dX2_mostFrom_25 : decode cX2_mostFrom 25 = .ok (.istore_n 3, 1) := by decide +kernel
theorem dX2_mostFrom_26 : decode cX2_mostFrom 26 = .ok (.iinc 4 1, 3) := by decide +kernel
theorem dX2_mostFrom_29 : decode cX2_mostFrom 29 = .ok (.goto (-23), 3) := by decide +kernel
theorem dX2_mostFrom_32 : decode cX2_mostFrom 32 = .ok (.iload_n 3, 1) := by decide +kernel
theorem dX2_mostFrom_33 : decode cX2_mostFrom 33 = .ok (.ireturn, 1) := by decide +kernel
theorem dX2_mostBy_0 : decode cX2_mostBy 0 = .ok (.iload_n 2, 1) := by decide +kernel
theorem dX2_mostBy_1 : decode cX2_mostBy 1 = .ok (.iload_n 3, 1) := by decide +kernel
theorem dX2_mostBy_2 : decode cX2_mostBy 2 = .ok (.iadd, 1) := by decide +kernel
theorem dX2_mostBy_3 : decode cX2_mostBy 3 = .ok (.bipush (-2), 2) := by decide +kernel
theorem dX2_mostBy_5 : decode cX2_mostBy 5 = .ok (.iadd, 1) := by decide +kernel
theorem dX2_mostBy_6 : decode cX2_mostBy 6 = .ok (.istore 4, 2) := by decide +kernel
theorem dX2_mostBy_8 : decode cX2_mostBy 8 = .ok (.iload 4, 2) := by decide +kernel
theorem dX2_mostBy_10 : decode cX2_mostBy 10 = .ok (.ifCond .lt 10, 3) := by decide +kernel
theorem dX2_mostBy_13 : decode cX2_mostBy 13 = .ok (.iload 4, 2) := by decide +kernel
theorem dX2_mostBy_15 : decode cX2_mostBy 15 = .ok (.bipush 100, 2) := by decide +kernel
theorem dX2_mostBy_17 : decode cX2_mostBy 17 = .ok (.if_icmp .lt 6, 3) := by decide +kernel
theorem dX2_mostBy_20 : decode cX2_mostBy 20 = .ok (.ldc 27, 2) := by decide +kernel
theorem dX2_mostBy_22 : decode cX2_mostBy 22 = .ok (.ireturn, 1) := by decide +kernel
theorem dX2_mostBy_23 : decode cX2_mostBy 23 = .ok (.aload_n 0, 1) := by decide +kernel
theorem dX2_mostBy_24 : decode cX2_mostBy 24 = .ok (.getfield 15, 3) := by decide +kernel
theorem dX2_mostBy_27 : decode cX2_mostBy 27 = .ok (.iload_n 1, 1) := by decide +kernel
theorem dX2_mostBy_28 : decode cX2_mostBy 28 = .ok (.iconst 1, 1) := by decide +kernel
theorem dX2_mostBy_29 : decode cX2_mostBy 29 = .ok (.iadd, 1) := by decide +kernel
theorem dX2_mostBy_30 : decode cX2_mostBy 30 = .ok (.bipush 100, 2) := by decide +kernel
theorem dX2_mostBy_32 : decode cX2_mostBy 32 = .ok (.imul, 1) := by decide +kernel
theorem dX2_mostBy_33 : decode cX2_mostBy 33 = .ok (.iload 4, 2) := by decide +kernel
theorem dX2_mostBy_35 : decode cX2_mostBy 35 = .ok (.iadd, 1) := by decide +kernel
theorem dX2_mostBy_36 : decode cX2_mostBy 36 = .ok (.iaload, 1) := by decide +kernel
theorem dX2_mostBy_37 : decode cX2_mostBy 37 = .ok (.istore 5, 2) := by decide +kernel
theorem dX2_mostBy_39 : decode cX2_mostBy 39 = .ok (.iload 5, 2) := by decide +kernel
theorem dX2_mostBy_41 : decode cX2_mostBy 41 = .ok (.ldc 27, 2) := by decide +kernel
theorem dX2_mostBy_43 : decode cX2_mostBy 43 = .ok (.if_icmp .ne 8, 3) := by decide +kernel
theorem dX2_mostBy_46 : decode cX2_mostBy 46 = .ok (.ldc 27, 2) := by decide +kernel
theorem dX2_mostBy_48 : decode cX2_mostBy 48 = .ok (.goto 17, 3) := by decide +kernel
theorem dX2_mostBy_51 : decode cX2_mostBy 51 = .ok (.aload_n 0, 1) := by decide +kernel
theorem dX2_mostBy_52 : decode cX2_mostBy 52 = .ok (.getfield 9, 3) := by decide +kernel
theorem dX2_mostBy_55 : decode cX2_mostBy 55 = .ok (.iload_n 1, 1) := by decide +kernel
theorem dX2_mostBy_56 : decode cX2_mostBy 56 = .ok (.bipush 8, 2) := by decide +kernel
theorem dX2_mostBy_58 : decode cX2_mostBy 58 = .ok (.imul, 1) := by decide +kernel
theorem dX2_mostBy_59 : decode cX2_mostBy 59 = .ok (.iload_n 3, 1) := by decide +kernel
theorem dX2_mostBy_60 : decode cX2_mostBy 60 = .ok (.iadd, 1) := by decide +kernel
theorem dX2_mostBy_61 : decode cX2_mostBy 61 = .ok (.iaload, 1) := by decide +kernel
theorem dX2_mostBy_62 : decode cX2_mostBy 62 = .ok (.iload 5, 2) := by decide +kernel
theorem dX2_mostBy_64 : decode cX2_mostBy 64 = .ok (.iadd, 1) := by decide +kernel
theorem dX2_mostBy_65 : decode cX2_mostBy 65 = .ok (.ireturn, 1) := by decide +kernel
theorem dX2_findRow_0 : decode cX2_findRow 0 = .ok (.iconst 0, 1) := by decide +kernel
theorem dX2_findRow_1 : decode cX2_findRow 1 = .ok (.istore_n 1, 1) := by decide +kernel
theorem dX2_findRow_2 : decode cX2_findRow 2 = .ok (.iconst 0, 1) := by decide +kernel
theorem dX2_findRow_3 : decode cX2_findRow 3 = .ok (.istore_n 2, 1) := by decide +kernel
theorem dX2_findRow_4 : decode cX2_findRow 4 = .ok (.iload_n 2, 1) := by decide +kernel
theorem dX2_findRow_5 : decode cX2_findRow 5 = .ok (.bipush 24, 2) := by decide +kernel
theorem dX2_findRow_7 : decode cX2_findRow 7 = .ok (.if_icmp .ge 27, 3) := by decide +kernel
theorem dX2_findRow_10 : decode cX2_findRow 10 = .ok (.aload_n 0, 1) := by decide +kernel
theorem dX2_findRow_11 : decode cX2_findRow 11 = .ok (.iload_n 2, 1) := by decide +kernel
theorem dX2_findRow_12 : decode cX2_findRow 12 = .ok (.iload_n 1, 1) := by decide +kernel
theorem dX2_findRow_13 : decode cX2_findRow 13 = .ok (.invokevirtual 50, 3) := by decide +kernel
theorem dX2_findRow_16 : decode cX2_findRow 16 = .ok (.istore_n 3, 1) := by decide +kernel
theorem dX2_findRow_17 : decode cX2_findRow 17 = .ok (.aload_n 0, 1) := by decide +kernel
theorem dX2_findRow_18 : decode cX2_findRow 18 = .ok (.getfield 18, 3) := by decide +kernel
theorem dX2_findRow_21 : decode cX2_findRow 21 = .ok (.iload_n 2, 1) := by decide +kernel
theorem dX2_findRow_22 : decode cX2_findRow 22 = .ok (.iload_n 3, 1) := by decide +kernel
theorem dX2_findRow_23 : decode cX2_findRow 23 = .ok (.iastore, 1) := by decide +kernel
theorem dX2_findRow_24 : decode cX2_findRow 24 = .ok (.iload_n 1, 1) := by decide +kernel
theorem dX2_findRow_25 : decode cX2_findRow 25 = .ok (.iload_n 3, 1) := by decide +kernel
theorem dX2_findRow_26 : decode cX2_findRow 26 = .ok (.iadd, 1) := by decide +kernel
theorem dX2_findRow_27 : decode cX2_findRow 27 = .ok (.istore_n 1, 1) := by decide +kernel
theorem dX2_findRow_28 : decode cX2_findRow 28 = .ok (.iinc 2 1, 3) := by decide +kernel
theorem dX2_findRow_31 : decode cX2_findRow 31 = .ok (.goto (-27), 3) := by decide +kernel
theorem dX2_findRow_34 : decode cX2_findRow 34 = .ok (.return_, 1) := by decide +kernel
theorem dX2_firstBest_0 : decode cX2_firstBest 0 = .ok (.aload_n 0, 1) := by decide +kernel
theorem dX2_firstBest_1 : decode cX2_firstBest 1 = .ok (.getfield 15, 3) := by decide +kernel
theorem dX2_firstBest_4 : decode cX2_firstBest 4 = .ok (.iload_n 1, 1) := by decide +kernel
theorem dX2_firstBest_5 : decode cX2_firstBest 5 = .ok (.bipush 100, 2) := by decide +kernel
theorem dX2_firstBest_7 : decode cX2_firstBest 7 = .ok (.imul, 1) := by decide +kernel
theorem dX2_firstBest_8 : decode cX2_firstBest 8 = .ok (.iload_n 2, 1) := by decide +kernel
theorem dX2_firstBest_9 : decode cX2_firstBest 9 = .ok (.iadd, 1) := by decide +kernel
theorem dX2_firstBest_10 : decode cX2_firstBest 10 = .ok (.iaload, 1) := by decide +kernel
theorem dX2_firstBest_11 : decode cX2_firstBest 11 = .ok (.istore_n 3, 1) := by decide +kernel
theorem dX2_firstBest_12 : decode cX2_firstBest 12 = .ok (.iconst 0, 1) := by decide +kernel
theorem dX2_firstBest_13 : decode cX2_firstBest 13 = .ok (.istore 4, 2) := by decide +kernel
theorem dX2_firstBest_15 : decode cX2_firstBest 15 = .ok (.iload 4, 2) := by decide +kernel
theorem dX2_firstBest_17 : decode cX2_firstBest 17 = .ok (.bipush 8, 2) := by decide +kernel
theorem dX2_firstBest_19 : decode cX2_firstBest 19 = .ok (.if_icmp .ge 33, 3) := by decide +kernel
theorem dX2_firstBest_22 : decode cX2_firstBest 22 = .ok (.iload_n 3, 1) := by decide +kernel
theorem dX2_firstBest_23 : decode cX2_firstBest 23 = .ok (.ldc 27, 2) := by decide +kernel
theorem dX2_firstBest_25 : decode cX2_firstBest 25 = .ok (.if_icmp .eq 27, 3) := by decide +kernel
theorem dX2_firstBest_28 : decode cX2_firstBest 28 = .ok (.aload_n 0, 1) := by decide +kernel
theorem dX2_firstBest_29 : decode cX2_firstBest 29 = .ok (.iload_n 1, 1) := by decide +kernel
theorem dX2_firstBest_30 : decode cX2_firstBest 30 = .ok (.iload_n 2, 1) := by decide +kernel
theorem dX2_firstBest_31 : decode cX2_firstBest 31 = .ok (.iload 4, 2) := by decide +kernel
theorem dX2_firstBest_33 : decode cX2_firstBest 33 = .ok (.invokevirtual 42, 3) := by decide +kernel
theorem dX2_firstBest_36 : decode cX2_firstBest 36 = .ok (.iload_n 3, 1) := by decide +kernel
theorem dX2_firstBest_37 : decode cX2_firstBest 37 = .ok (.if_icmp .ne 9, 3) := by decide +kernel
theorem dX2_firstBest_40 : decode cX2_firstBest 40 = .ok (.iload 4, 2) := by decide +kernel
theorem dX2_firstBest_42 : decode cX2_firstBest 42 = .ok (.bipush (-2), 2) := by decide +kernel
theorem dX2_firstBest_44 : decode cX2_firstBest 44 = .ok (.iadd, 1) := by decide +kernel
theorem dX2_firstBest_45 : decode cX2_firstBest 45 = .ok (.ireturn, 1) := by decide +kernel
theorem dX2_firstBest_46 : decode cX2_firstBest 46 = .ok (.iinc 4 1, 3) := by decide +kernel
theorem dX2_firstBest_49 : decode cX2_firstBest 49 = .ok (.goto (-34), 3) := by decide +kernel
theorem dX2_firstBest_52 : decode cX2_firstBest 52 = .ok (.iconst 0, 1) := by decide +kernel
theorem dX2_firstBest_53 : decode cX2_firstBest 53 = .ok (.ireturn, 1) := by decide +kernel
theorem dX3_init_0 : decode cX3_init 0 = .ok (.aload_n 0, 1) := by decide +kernel
theorem dX3_init_1 : decode cX3_init 1 = .ok (.invokespecial 3, 3) := by decide +kernel
theorem dX3_init_4 : decode cX3_init 4 = .ok (.aload_n 0, 1) := by decide +kernel
theorem dX3_init_5 : decode cX3_init 5 = .ok (.iconst (-1), 1) := by decide +kernel
theorem dX3_init_6 : decode cX3_init 6 = .ok (.putfield 9, 3) := by decide +kernel
theorem dX3_init_9 : decode cX3_init 9 = .ok (.aload_n 0, 1) := by decide +kernel
theorem dX3_init_10 : decode cX3_init 10 = .ok (.iconst 0, 1) := by decide +kernel
theorem dX3_init_11 : decode cX3_init 11 = .ok (.putfield 15, 3) := by decide +kernel
theorem dX3_init_14 : decode cX3_init 14 = .ok (.aload_n 0, 1) := by decide +kernel
theorem dX3_init_15 : decode cX3_init 15 = .ok (.bipush 24, 2) := by decide +kernel
theorem dX3_init_17 : decode cX3_init 17 = .ok (.newarray .long, 2) := by decide +kernel
theorem dX3_init_19 : decode cX3_init 19 = .ok (.putfield 18, 3) := by decide +kernel
theorem dX3_init_22 : decode cX3_init 22 = .ok (.return_, 1) := by decide +kernel
theorem dX3_begin_0 : decode cX3_begin 0 = .ok (.aload_n 0, 1) := by decide +kernel
theorem dX3_begin_1 : decode cX3_begin 1 = .ok (.iload_n 1, 1) := by decide +kernel
theorem dX3_begin_2 : decode cX3_begin 2 = .ok (.putfield 9, 3) := by decide +kernel
theorem dX3_begin_5 : decode cX3_begin 5 = .ok (.aload_n 0, 1) := by decide +kernel
theorem dX3_begin_6 : decode cX3_begin 6 = .ok (.iload_n 2, 1) := by decide +kernel
theorem dX3_begin_7 : decode cX3_begin 7 = .ok (.putfield 15, 3) := by decide +kernel
theorem dX3_begin_10 : decode cX3_begin 10 = .ok (.aload_n 0, 1) := by decide +kernel
theorem dX3_begin_11 : decode cX3_begin 11 = .ok (.getfield 18, 3) := by decide +kernel
theorem dX3_begin_14 : decode cX3_begin 14 = .ok (.lconst 0, 1) := by decide +kernel
theorem dX3_begin_15 : decode cX3_begin 15 = .ok (.invokestatic 22, 3) := by decide +kernel
theorem dX3_begin_18 : decode cX3_begin 18 = .ok (.return_, 1) := by decide +kernel
theorem dX3_put_0 : decode cX3_put 0 = .ok (.aload_n 0, 1) := by decide +kernel
theorem dX3_put_1 : decode cX3_put 1 = .ok (.getfield 9, 3) := by decide +kernel
theorem dX3_put_4 : decode cX3_put 4 = .ok (.ifCond .ne 16, 3) := by decide +kernel
theorem dX3_put_7 : decode cX3_put 7 = .ok (.aload_n 0, 1) := by decide +kernel
theorem dX3_put_8 : decode cX3_put 8 = .ok (.getfield 18, 3) := by decide +kernel
theorem dX3_put_11 : decode cX3_put 11 = .ok (.iload_n 1, 1) := by decide +kernel
theorem dX3_put_12 : decode cX3_put 12 = .ok (.lload_n 2, 1) := by decide +kernel
theorem dX3_put_13 : decode cX3_put 13 = .ok (.l2i, 1) := by decide +kernel
theorem dX3_put_14 : decode cX3_put 14 = .ok (.i2b, 1) := by decide +kernel
theorem dX3_put_15 : decode cX3_put 15 = .ok (.i2l, 1) := by decide +kernel
theorem dX3_put_16 : decode cX3_put 16 = .ok (.lastore, 1) := by decide +kernel
theorem dX3_put_17 : decode cX3_put 17 = .ok (.goto 30, 3) := by decide +kernel
theorem dX3_put_20 : decode cX3_put 20 = .ok (.aload_n 0, 1) := by decide +kernel
theorem dX3_put_21 : decode cX3_put 21 = .ok (.getfield 9, 3) := by decide +kernel
theorem dX3_put_24 : decode cX3_put 24 = .ok (.iconst 1, 1) := by decide +kernel
theorem dX3_put_25 : decode cX3_put 25 = .ok (.if_icmp .ne 15, 3) := by decide +kernel
theorem dX3_put_28 : decode cX3_put 28 = .ok (.aload_n 0, 1) := by decide +kernel
theorem dX3_put_29 : decode cX3_put 29 = .ok (.getfield 18, 3) := by decide +kernel
theorem dX3_put_32 : decode cX3_put 32 = .ok (.iload_n 1, 1) := by decide +kernel
theorem dX3_put_33 : decode cX3_put 33 = .ok (.lload_n 2, 1) := by decide +kernel
theorem dX3_put_34 : decode cX3_put 34 = .ok (.l2i, 1) := by decide +kernel
theorem dX3_put_35 : decode cX3_put 35 = .ok (.i2l, 1) := by decide +kernel
theorem dX3_put_36 : decode cX3_put 36 = .ok (.lastore, 1) := by decide +kernel
theorem dX3_put_37 : decode cX3_put 37 = .ok (.goto 10, 3) := by decide +kernel
theorem dX3_put_40 : decode cX3_put 40 = .ok (.aload_n 0, 1) := by decide +kernel
theorem dX3_put_41 : decode cX3_put 41 = .ok (.getfield 18, 3) := by decide +kernel
theorem dX3_put_44 : decode cX3_put 44 = .ok (.iload_n 1, 1) := by decide +kernel
theorem dX3_put_45 : decode cX3_put 45 = .ok (.lload_n 2, 1) := by decide +kernel
theorem dX3_put_46 : decode cX3_put 46 = .ok (.lastore, 1) := by decide +kernel
theorem dX3_put_47 : decode cX3_put 47 = .ok (.return_, 1) := by decide +kernel
theorem dX3_hasRange_0 : decode cX3_hasRange 0 = .ok (.iload_n 2, 1) := by decide +kernel
theorem dX3_hasRange_1 : decode cX3_hasRange 1 = .ok (.ifCond .lt 21, 3) := by decide +kernel
theorem dX3_hasRange_4 : decode cX3_hasRange 4 = .ok (.iload_n 1, 1) := by decide +kernel
theorem dX3_hasRange_5 : decode cX3_hasRange 5 = .ok (.ifCond .lt 17, 3) := by decide +kernel
theorem dX3_hasRange_8 : decode cX3_hasRange 8 = .ok (.iload_n 1, 1) := by decide +kernel
theorem dX3_hasRange_9 : decode cX3_hasRange 9 = .ok (.aload_n 0, 1) := by decide +kernel
theorem dX3_hasRange_10 : decode cX3_hasRange 10 = .ok (.getfield 15, 3) := by decide +kernel
theorem dX3_hasRange_13 : decode cX3_hasRange 13 = .ok (.iload_n 2, 1) := by decide +kernel
theorem dX3_hasRange_14 : decode cX3_hasRange 14 = .ok (.isub, 1) := by decide +kernel
theorem dX3_hasRange_15 : decode cX3_hasRange 15 = .ok (.if_icmp .gt 7, 3) := by decide +kernel
theorem dX3_hasRange_18 : decode cX3_hasRange 18 = .ok (.iconst 1, 1) := by decide +kernel
theorem dX3_hasRange_19 : decode cX3_hasRange 19 = .ok (.goto 4, 3) := by decide +kernel
theorem dX3_hasRange_22 : decode cX3_hasRange 22 = .ok (.iconst 0, 1) := by decide +kernel
theorem dX3_hasRange_23 : decode cX3_hasRange 23 = .ok (.ireturn, 1) := by decide +kernel
theorem dX4_init_0 : decode cX4_init 0 = .ok (.aload_n 0, 1) := by decide +kernel
theorem dX4_init_1 : decode cX4_init 1 = .ok (.invokespecial 3, 3) := by decide +kernel
theorem dX4_init_4 : decode cX4_init 4 = .ok (.aload_n 0, 1) := by decide +kernel
theorem dX4_init_5 : decode cX4_init 5 = .ok (.sipush 140, 3) := by decide +kernel
theorem dX4_init_8 : decode cX4_init 8 = .ok (.newarray .char, 2) := by decide +kernel
theorem dX4_init_10 : decode cX4_init 10 = .ok (.putfield 9, 3) := by decide +kernel
theorem dX4_init_13 : decode cX4_init 13 = .ok (.aload_n 0, 1) := by decide +kernel
theorem dX4_init_14 : decode cX4_init 14 = .ok (.iconst 0, 1) := by decide +kernel
theorem dX4_init_15 : decode cX4_init 15 = .ok (.putfield 15, 3) := by decide +kernel
theorem dX4_init_18 : decode cX4_init 18 = .ok (.aload_n 0, 1) := by decide +kernel
theorem dX4_init_19 : decode cX4_init 19 = .ok (.iconst 0, 1) := by decide +kernel
theorem dX4_init_20 : decode cX4_init 20 = .ok (.putfield 19, 3) := by decide +kernel
theorem dX4_init_23 : decode cX4_init 23 = .ok (.aload_n 0, 1) := by decide +kernel
theorem dX4_init_24 : decode cX4_init 24 = .ok (.iconst 0, 1) := by decide +kernel
theorem dX4_init_25 : decode cX4_init 25 = .ok (.putfield 22, 3) := by decide +kernel
theorem dX4_init_28 : decode cX4_init 28 = .ok (.aload_n 0, 1) := by decide +kernel
theorem dX4_init_29 : decode cX4_init 29 = .ok (.bipush 8, 2) := by decide +kernel
theorem dX4_init_31 : decode cX4_init 31 = .ok (.anewarray 25, 3) := by decide +kernel
theorem dX4_init_34 : decode cX4_init 34 = .ok (.putfield 27, 3) := by decide +kernel
theorem dX4_init_37 : decode cX4_init 37 = .ok (.aload_n 0, 1) := by decide +kernel
theorem dX4_init_38 : decode cX4_init 38 = .ok (.bipush 24, 2) := by decide +kernel
theorem dX4_init_40 : decode cX4_init 40 = .ok (.newarray .int, 2) := by decide +kernel
theorem dX4_init_42 : decode cX4_init 42 = .ok (.putfield 31, 3) := by decide +kernel
theorem dX4_init_45 : decode cX4_init 45 = .ok (.iconst 0, 1) := by decide +kernel
theorem dX4_init_46 : decode cX4_init 46 = .ok (.istore_n 1, 1) := by decide +kernel
theorem dX4_init_47 : decode cX4_init 47 = .ok (.iload_n 1, 1) := by decide +kernel
theorem dX4_init_48 : decode cX4_init 48 = .ok (.bipush 8, 2) := by decide +kernel
theorem dX4_init_50 : decode cX4_init 50 = .ok (.if_icmp .ge 22, 3) := by decide +kernel
theorem dX4_init_53 : decode cX4_init 53 = .ok (.aload_n 0, 1) := by decide +kernel
theorem dX4_init_54 : decode cX4_init 54 = .ok (.getfield 27, 3) := by decide +kernel
theorem dX4_init_57 : decode cX4_init 57 = .ok (.iload_n 1, 1) := by decide +kernel
theorem dX4_init_58 : decode cX4_init 58 = .ok (.new 25, 3) := by decide +kernel
theorem dX4_init_61 : decode cX4_init 61 = .ok (.dup, 1) := by decide +kernel
theorem dX4_init_62 : decode cX4_init 62 = .ok (.invokespecial 35, 3) := by decide +kernel
theorem dX4_init_65 : decode cX4_init 65 = .ok (.aastore, 1) := by decide +kernel
theorem dX4_init_66 : decode cX4_init 66 = .ok (.iinc 1 1, 3) := by decide +kernel
theorem dX4_init_69 : decode cX4_init 69 = .ok (.goto (-22), 3) := by decide +kernel
theorem dX4_init_72 : decode cX4_init 72 = .ok (.return_, 1) := by decide +kernel
theorem dX4_isSign_0 : decode cX4_isSign 0 = .ok (.iload_n 0, 1) := by decide +kernel
theorem dX4_isSign_1 : decode cX4_isSign 1 = .ok (.bipush 32, 2) := by decide +kernel
theorem dX4_isSign_3 : decode cX4_isSign 3 = .ok (.if_icmp .lt 13, 3) := by decide +kernel
theorem dX4_isSign_6 : decode cX4_isSign 6 = .ok (.iload_n 0, 1) := by decide +kernel
theorem dX4_isSign_7 : decode cX4_isSign 7 = .ok (.bipush 126, 2) := by decide +kernel
theorem dX4_isSign_9 : decode cX4_isSign 9 = .ok (.if_icmp .gt 7, 3) := by decide +kernel
theorem dX4_isSign_12 : decode cX4_isSign 12 = .ok (.iconst 1, 1) := by decide +kernel
theorem dX4_isSign_13 : decode cX4_isSign 13 = .ok (.goto 4, 3) := by decide +kernel
theorem dX4_isSign_16 : decode cX4_isSign 16 = .ok (.iconst 0, 1) := by decide +kernel
theorem dX4_isSign_17 : decode cX4_isSign 17 = .ok (.ireturn, 1) := by decide +kernel
theorem dX4_isFigure_0 : decode cX4_isFigure 0 = .ok (.iload_n 0, 1) := by decide +kernel
theorem dX4_isFigure_1 : decode cX4_isFigure 1 = .ok (.bipush 48, 2) := by decide +kernel
theorem dX4_isFigure_3 : decode cX4_isFigure 3 = .ok (.if_icmp .lt 13, 3) := by decide +kernel
theorem dX4_isFigure_6 : decode cX4_isFigure 6 = .ok (.iload_n 0, 1) := by decide +kernel
theorem dX4_isFigure_7 : decode cX4_isFigure 7 = .ok (.bipush 57, 2) := by decide +kernel
theorem dX4_isFigure_9 : decode cX4_isFigure 9 = .ok (.if_icmp .gt 7, 3) := by decide +kernel
theorem dX4_isFigure_12 : decode cX4_isFigure 12 = .ok (.iconst 1, 1) := by decide +kernel
theorem dX4_isFigure_13 : decode cX4_isFigure 13 = .ok (.goto 4, 3) := by decide +kernel
theorem dX4_isFigure_16 : decode cX4_isFigure 16 = .ok (.iconst 0, 1) := by decide +kernel
theorem dX4_isFigure_17 : decode cX4_isFigure 17 = .ok (.ireturn, 1) := by decide +kernel
theorem dX4_add_0 : decode cX4_add 0 = .ok (.aload_n 0, 1) := by decide +kernel
theorem dX4_add_1 : decode cX4_add 1 = .ok (.getfield 15, 3) := by decide +kernel
theorem dX4_add_4 : decode cX4_add 4 = .ok (.sipush 140, 3) := by decide +kernel
theorem dX4_add_7 : decode cX4_add 7 = .ok (.if_icmp .ge 24, 3) := by decide +kernel
theorem dX4_add_10 : decode cX4_add 10 = .ok (.aload_n 0, 1) := by decide +kernel
theorem dX4_add_11 : decode cX4_add 11 = .ok (.getfield 9, 3) := by decide +kernel
theorem dX4_add_14 : decode cX4_add 14 = .ok (.aload_n 0, 1) := by decide +kernel
theorem dX4_add_15 : decode cX4_add 15 = .ok (.getfield 15, 3) := by decide +kernel
theorem dX4_add_18 : decode cX4_add 18 = .ok (.iload_n 1, 1) := by decide +kernel
theorem dX4_add_19 : decode cX4_add 19 = .ok (.i2c, 1) := by decide +kernel
theorem dX4_add_20 : decode cX4_add 20 = .ok (.castore, 1) := by decide +kernel
theorem dX4_add_21 : decode cX4_add 21 = .ok (.aload_n 0, 1) := by decide +kernel
theorem dX4_add_22 : decode cX4_add 22 = .ok (.dup, 1) := by decide +kernel
theorem dX4_add_23 : decode cX4_add 23 = .ok (.getfield 15, 3) := by decide +kernel
theorem dX4_add_26 : decode cX4_add 26 = .ok (.iconst 1, 1) := by decide +kernel
theorem dX4_add_27 : decode cX4_add 27 = .ok (.iadd, 1) := by decide +kernel
theorem dX4_add_28 : decode cX4_add 28 = .ok (.putfield 15, 3) := by decide +kernel
theorem dX4_add_31 : decode cX4_add 31 = .ok (.return_, 1) := by decide +kernel
theorem dX4_clear_0 : decode cX4_clear 0 = .ok (.aload_n 0, 1) := by decide +kernel
theorem dX4_clear_1 : decode cX4_clear 1 = .ok (.iconst 0, 1) := by decide +kernel
theorem dX4_clear_2 : decode cX4_clear 2 = .ok (.putfield 15, 3) := by decide +kernel
theorem dX4_clear_5 : decode cX4_clear 5 = .ok (.return_, 1) := by decide +kernel
theorem dX4_next_0 : decode cX4_next 0 = .ok (.aload_n 0, 1) := by decide +kernel
theorem dX4_next_1 : decode cX4_next 1 = .ok (.getfield 19, 3) := by decide +kernel
theorem dX4_next_4 : decode cX4_next 4 = .ok (.aload_n 0, 1) := by decide +kernel
theorem dX4_next_5 : decode cX4_next 5 = .ok (.getfield 15, 3) := by decide +kernel
theorem dX4_next_8 : decode cX4_next 8 = .ok (.if_icmp .ge 30, 3) := by decide +kernel
theorem dX4_next_11 : decode cX4_next 11 = .ok (.aload_n 0, 1) := by decide +kernel
theorem dX4_next_12 : decode cX4_next 12 = .ok (.getfield 9, 3) := by decide +kernel
theorem dX4_next_15 : decode cX4_next 15 = .ok (.aload_n 0, 1) := by decide +kernel
theorem dX4_next_16 : decode cX4_next 16 = .ok (.getfield 19, 3) := by decide +kernel
theorem dX4_next_19 : decode cX4_next 19 = .ok (.caload, 1) := by decide +kernel
theorem dX4_next_20 : decode cX4_next 20 = .ok (.bipush 32, 2) := by decide +kernel
theorem dX4_next_22 : decode cX4_next 22 = .ok (.if_icmp .ne 16, 3) := by decide +kernel
theorem dX4_next_25 : decode cX4_next 25 = .ok (.aload_n 0, 1) := by decide +kernel
theorem dX4_next_26 : decode cX4_next 26 = .ok (.dup, 1) := by decide +kernel
theorem dX4_next_27 : decode cX4_next 27 = .ok (.getfield 19, 3) := by decide +kernel
theorem dX4_next_30 : decode cX4_next 30 = .ok (.iconst 1, 1) := by decide +kernel
theorem dX4_next_31 : decode cX4_next 31 = .ok (.iadd, 1) := by decide +kernel
theorem dX4_next_32 : decode cX4_next 32 = .ok (.putfield 19, 3) := by decide +kernel
theorem dX4_next_35 : decode cX4_next 35 = .ok (.goto (-35), 3) := by decide +kernel
theorem dX4_next_38 : decode cX4_next 38 = .ok (.aload_n 0, 1) := by decide +kernel
theorem dX4_next_39 : decode cX4_next 39 = .ok (.getfield 19, 3) := by decide +kernel
theorem dX4_next_42 : decode cX4_next 42 = .ok (.aload_n 0, 1) := by decide +kernel
theorem dX4_next_43 : decode cX4_next 43 = .ok (.getfield 15, 3) := by decide +kernel
theorem dX4_next_46 : decode cX4_next 46 = .ok (.if_icmp .ge 15, 3) := by decide +kernel
theorem dX4_next_49 : decode cX4_next 49 = .ok (.aload_n 0, 1) := by decide +kernel
theorem dX4_next_50 : decode cX4_next 50 = .ok (.getfield 9, 3) := by decide +kernel
theorem dX4_next_53 : decode cX4_next 53 = .ok (.aload_n 0, 1) := by decide +kernel
theorem dX4_next_54 : decode cX4_next 54 = .ok (.getfield 19, 3) := by decide +kernel
theorem dX4_next_57 : decode cX4_next 57 = .ok (.caload, 1) := by decide +kernel
theorem dX4_next_58 : decode cX4_next 58 = .ok (.goto 4, 3) := by decide +kernel
theorem dX4_next_61 : decode cX4_next 61 = .ok (.iconst (-1), 1) := by decide +kernel
theorem dX4_next_62 : decode cX4_next 62 = .ok (.ireturn, 1) := by decide +kernel
theorem dX4_passes_0 : decode cX4_passes 0 = .ok (.aload_n 0, 1) := by decide +kernel
theorem dX4_passes_1 : decode cX4_passes 1 = .ok (.invokevirtual 36, 3) := by decide +kernel
theorem dX4_passes_4 : decode cX4_passes 4 = .ok (.iload_n 1, 1) := by decide +kernel
theorem dX4_passes_5 : decode cX4_passes 5 = .ok (.if_icmp .eq 5, 3) := by decide +kernel
theorem dX4_passes_8 : decode cX4_passes 8 = .ok (.iconst 0, 1) := by decide +kernel
theorem dX4_passes_9 : decode cX4_passes 9 = .ok (.ireturn, 1) := by decide +kernel
theorem dX4_passes_10 : decode cX4_passes 10 = .ok (.aload_n 0, 1) := by decide +kernel
theorem dX4_passes_11 : decode cX4_passes 11 = .ok (.dup, 1) := by decide +kernel
theorem dX4_passes_12 : decode cX4_passes 12 = .ok (.getfield 19, 3) := by decide +kernel
theorem dX4_passes_15 : decode cX4_passes 15 = .ok (.iconst 1, 1) := by decide +kernel
theorem dX4_passes_16 : decode cX4_passes 16 = .ok (.iadd, 1) := by decide +kernel
theorem dX4_passes_17 : decode cX4_passes 17 = .ok (.putfield 19, 3) := by decide +kernel
theorem dX4_passes_20 : decode cX4_passes 20 = .ok (.iconst 1, 1) := by decide +kernel
theorem dX4_passes_21 : decode cX4_passes 21 = .ok (.ireturn, 1) := by decide +kernel
theorem dX4_faultHere_0 : decode cX4_faultHere 0 = .ok (.bipush (-20), 2) := by decide +kernel
theorem dX4_faultHere_2 : decode cX4_faultHere 2 = .ok (.aload_n 0, 1) := by decide +kernel
theorem dX4_faultHere_3 : decode cX4_faultHere 3 = .ok (.getfield 19, 3) := by decide +kernel
theorem dX4_faultHere_6 : decode cX4_faultHere 6 = .ok (.isub, 1) := by decide +kernel
theorem dX4_faultHere_7 : decode cX4_faultHere 7 = .ok (.ireturn, 1) := by decide +kernel
theorem dX4_readNumber_0 : decode cX4_readNumber 0 = .ok (.aload_n 0, 1) := by decide +kernel
theorem dX4_readNumber_1 : decode cX4_readNumber 1 = .ok (.invokevirtual 36, 3) := by decide +kernel
theorem dX4_readNumber_4 : decode cX4_readNumber 4 = .ok (.invokestatic 40, 3) := by decide +kernel
theorem dX4_readNumber_7 : decode cX4_readNumber 7 = .ok (.ifCond .ne 8, 3) := by decide +kernel
theorem dX4_readNumber_10 : decode cX4_readNumber 10 = .ok (.aload_n 0, 1) := by decide +kernel
theorem dX4_readNumber_11 : decode cX4_readNumber 11 = .ok (.invokevirtual 44, 3) := by decide +kernel
theorem dX4_readNumber_14 : decode cX4_readNumber 14 = .ok (.ireturn, 1) := by decide +kernel
theorem dX4_readNumber_15 : decode cX4_readNumber 15 = .ok (.aload_n 0, 1) := by decide +kernel
theorem dX4_readNumber_16 : decode cX4_readNumber 16 = .ok (.aload_n 0, 1) := by decide +kernel
theorem dX4_readNumber_17 : decode cX4_readNumber 17 = .ok (.getfield 19, 3) := by decide +kernel
theorem dX4_readNumber_20 : decode cX4_readNumber 20 = .ok (.putfield 22, 3) := by decide +kernel
theorem dX4_readNumber_23 : decode cX4_readNumber 23 = .ok (.iconst 0, 1) := by decide +kernel
theorem dX4_readNumber_24 : decode cX4_readNumber 24 = .ok (.istore_n 2, 1) := by decide +kernel
theorem dX4_readNumber_25 : decode cX4_readNumber 25 = .ok (.aload_n 0, 1) := by decide +kernel
theorem dX4_readNumber_26 : decode cX4_readNumber 26 = .ok (.getfield 19, 3) := by decide +kernel
theorem dX4_readNumber_29 : decode cX4_readNumber 29 = .ok (.aload_n 0, 1) := by decide +kernel
theorem dX4_readNumber_30 : decode cX4_readNumber 30 = .ok (.getfield 15, 3) := by decide +kernel
theorem dX4_readNumber_33 : decode cX4_readNumber 33 = .ok (.if_icmp .ge 55, 3) := by decide +kernel
theorem dX4_readNumber_36 : decode cX4_readNumber 36 = .ok (.aload_n 0, 1) := by decide +kernel
theorem dX4_readNumber_37 : decode cX4_readNumber 37 = .ok (.getfield 9, 3) := by decide +kernel
theorem dX4_readNumber_40 : decode cX4_readNumber 40 = .ok (.aload_n 0, 1) := by decide +kernel
theorem dX4_readNumber_41 : decode cX4_readNumber 41 = .ok (.getfield 19, 3) := by decide +kernel
theorem dX4_readNumber_44 : decode cX4_readNumber 44 = .ok (.caload, 1) := by decide +kernel
theorem dX4_readNumber_45 : decode cX4_readNumber 45 = .ok (.invokestatic 40, 3) := by decide +kernel
theorem dX4_readNumber_48 : decode cX4_readNumber 48 = .ok (.ifCond .eq 40, 3) := by decide +kernel
theorem dX4_readNumber_51 : decode cX4_readNumber 51 = .ok (.iload_n 2, 1) := by decide +kernel
theorem dX4_readNumber_52 : decode cX4_readNumber 52 = .ok (.bipush 10, 2) := by decide +kernel
theorem dX4_readNumber_54 : decode cX4_readNumber 54 = .ok (.imul, 1) := by decide +kernel
theorem dX4_readNumber_55 : decode cX4_readNumber 55 = .ok (.aload_n 0, 1) := by decide +kernel
theorem dX4_readNumber_56 : decode cX4_readNumber 56 = .ok (.getfield 9, 3) := by decide +kernel
theorem dX4_readNumber_59 : decode cX4_readNumber 59 = .ok (.aload_n 0, 1) := by decide +kernel
theorem dX4_readNumber_60 : decode cX4_readNumber 60 = .ok (.getfield 19, 3) := by decide +kernel
theorem dX4_readNumber_63 : decode cX4_readNumber 63 = .ok (.caload, 1) := by decide +kernel
theorem dX4_readNumber_64 : decode cX4_readNumber 64 = .ok (.iadd, 1) := by decide +kernel
theorem dX4_readNumber_65 : decode cX4_readNumber 65 = .ok (.bipush 48, 2) := by decide +kernel
theorem dX4_readNumber_67 : decode cX4_readNumber 67 = .ok (.isub, 1) := by decide +kernel
theorem dX4_readNumber_68 : decode cX4_readNumber 68 = .ok (.sipush 1000, 3) := by decide +kernel
theorem dX4_readNumber_71 : decode cX4_readNumber 71 = .ok (.invokestatic 47, 3) := by decide +kernel
theorem dX4_readNumber_74 : decode cX4_readNumber 74 = .ok (.istore_n 2, 1) := by decide +kernel
theorem dX4_readNumber_75 : decode cX4_readNumber 75 = .ok (.aload_n 0, 1) := by decide +kernel
theorem dX4_readNumber_76 : decode cX4_readNumber 76 = .ok (.dup, 1) := by decide +kernel
theorem dX4_readNumber_77 : decode cX4_readNumber 77 = .ok (.getfield 19, 3) := by decide +kernel
theorem dX4_readNumber_80 : decode cX4_readNumber 80 = .ok (.iconst 1, 1) := by decide +kernel
theorem dX4_readNumber_81 : decode cX4_readNumber 81 = .ok (.iadd, 1) := by decide +kernel
theorem dX4_readNumber_82 : decode cX4_readNumber 82 = .ok (.putfield 19, 3) := by decide +kernel
theorem dX4_readNumber_85 : decode cX4_readNumber 85 = .ok (.goto (-60), 3) := by decide +kernel
theorem dX4_readNumber_88 : decode cX4_readNumber 88 = .ok (.iload_n 2, 1) := by decide +kernel
theorem dX4_readNumber_89 : decode cX4_readNumber 89 = .ok (.iload_n 1, 1) := by decide +kernel
theorem dX4_readNumber_90 : decode cX4_readNumber 90 = .ok (.if_icmp .le 13, 3) := by decide +kernel
theorem dX4_readNumber_93 : decode cX4_readNumber 93 = .ok (.bipush (-20), 2) := by decide +kernel
theorem dX4_readNumber_95 : decode cX4_readNumber 95 = .ok (.aload_n 0, 1) := by decide +kernel
theorem dX4_readNumber_96 : decode cX4_readNumber 96 = .ok (.getfield 22, 3) := by decide +kernel
theorem dX4_readNumber_99 : decode cX4_readNumber 99 = .ok (.isub, 1) := by decide +kernel
theorem dX4_readNumber_100 : decode cX4_readNumber 100 = .ok (.goto 4, 3) := by decide +kernel
theorem dX4_readNumber_103 : decode cX4_readNumber 103 = .ok (.iload_n 2, 1) := by decide +kernel
theorem dX4_readNumber_104 : decode cX4_readNumber 104 = .ok (.ireturn, 1) := by decide +kernel
theorem dX4_readTown_0 : decode cX4_readTown 0 = .ok (.aload_n 0, 1) := by decide +kernel
theorem dX4_readTown_1 : decode cX4_readTown 1 = .ok (.iconst 0, 1) := by decide +kernel
theorem dX4_readTown_2 : decode cX4_readTown 2 = .ok (.putfield 19, 3) := by decide +kernel
theorem dX4_readTown_5 : decode cX4_readTown 5 = .ok (.iconst 0, 1) := by decide +kernel
theorem dX4_readTown_6 : decode cX4_readTown 6 = .ok (.istore_n 1, 1) := by decide +kernel
theorem dX4_readTown_7 : decode cX4_readTown 7 = .ok (.iload_n 1, 1) := by decide +kernel
theorem dX4_readTown_8 : decode cX4_readTown 8 = .ok (.bipush 8, 2) := by decide +kernel
theorem dX4_readTown_10 : decode cX4_readTown 10 = .ok (.if_icmp .ge 60, 3) := by decide +kernel
theorem dX4_readTown_13 : decode cX4_readTown 13 = .ok (.aload_n 0, 1) := by decide +kernel
theorem dX4_readTown_14 : decode cX4_readTown 14 = .ok (.aload_n 0, 1) := by decide +kernel
theorem dX4_readTown_15 : decode cX4_readTown 15 = .ok (.getfield 27, 3) := by decide +kernel
theorem dX4_readTown_18 : decode cX4_readTown 18 = .ok (.iload_n 1, 1) := by decide +kernel
theorem dX4_readTown_19 : decode cX4_readTown 19 = .ok (.aaload, 1) := by decide +kernel
theorem dX4_readTown_20 : decode cX4_readTown 20 = .ok (.invokevirtual 53, 3) := by decide +kernel
theorem dX4_readTown_23 : decode cX4_readTown 23 = .ok (.istore_n 2, 1) := by decide +kernel
theorem dX4_readTown_24 : decode cX4_readTown 24 = .ok (.iload_n 2, 1) := by decide +kernel
theorem dX4_readTown_25 : decode cX4_readTown 25 = .ok (.ifCond .ge 5, 3) := by decide +kernel
theorem dX4_readTown_28 : decode cX4_readTown 28 = .ok (.iload_n 2, 1) := by decide +kernel
theorem dX4_readTown_29 : decode cX4_readTown 29 = .ok (.ireturn, 1) := by decide +kernel
theorem dX4_readTown_30 : decode cX4_readTown 30 = .ok (.aload_n 0, 1) := by decide +kernel
theorem dX4_readTown_31 : decode cX4_readTown 31 = .ok (.invokevirtual 36, 3) := by decide +kernel
theorem dX4_readTown_34 : decode cX4_readTown 34 = .ok (.iconst (-1), 1) := by decide +kernel
theorem dX4_readTown_35 : decode cX4_readTown 35 = .ok (.if_icmp .ne 7, 3) := by decide +kernel
theorem dX4_readTown_38 : decode cX4_readTown 38 = .ok (.iload_n 1, 1) := by decide +kernel
theorem dX4_readTown_39 : decode cX4_readTown 39 = .ok (.iconst 1, 1) := by decide +kernel
theorem dX4_readTown_40 : decode cX4_readTown 40 = .ok (.iadd, 1) := by decide +kernel
theorem dX4_readTown_41 : decode cX4_readTown 41 = .ok (.ireturn, 1) := by decide +kernel
theorem dX4_readTown_42 : decode cX4_readTown 42 = .ok (.iload_n 1, 1) := by decide +kernel
theorem dX4_readTown_43 : decode cX4_readTown 43 = .ok (.iconst 1, 1) := by decide +kernel
theorem dX4_readTown_44 : decode cX4_readTown 44 = .ok (.iadd, 1) := by decide +kernel
theorem dX4_readTown_45 : decode cX4_readTown 45 = .ok (.bipush 8, 2) := by decide +kernel
theorem dX4_readTown_47 : decode cX4_readTown 47 = .ok (.if_icmp .eq 12, 3) := by decide +kernel
theorem dX4_readTown_50 : decode cX4_readTown 50 = .ok (.aload_n 0, 1) := by decide +kernel
theorem dX4_readTown_51 : decode cX4_readTown 51 = .ok (.bipush 44, 2) := by decide +kernel
theorem dX4_readTown_53 : decode cX4_readTown 53 = .ok (.invokevirtual 57, 3) := by decide +kernel
theorem dX4_readTown_56 : decode cX4_readTown 56 = .ok (.ifCond .ne 8, 3) := by decide +kernel
theorem dX4_readTown_59 : decode cX4_readTown 59 = .ok (.aload_n 0, 1) := by decide +kernel
theorem dX4_readTown_60 : decode cX4_readTown 60 = .ok (.invokevirtual 44, 3) := by decide +kernel
theorem dX4_readTown_63 : decode cX4_readTown 63 = .ok (.ireturn, 1) := by decide +kernel
theorem dX4_readTown_64 : decode cX4_readTown 64 = .ok (.iinc 1 1, 3) := by decide +kernel
theorem dX4_readTown_67 : decode cX4_readTown 67 = .ok (.goto (-60), 3) := by decide +kernel
theorem dX4_readTown_70 : decode cX4_readTown 70 = .ok (.aload_n 0, 1) := by decide +kernel
theorem dX4_readTown_71 : decode cX4_readTown 71 = .ok (.invokevirtual 44, 3) := by decide +kernel
theorem dX4_readTown_74 : decode cX4_readTown 74 = .ok (.ireturn, 1) := by decide +kernel
theorem dX4_readPerson_0 : decode cX4_readPerson 0 = .ok (.aload_n 0, 1) := by decide +kernel
theorem dX4_readPerson_1 : decode cX4_readPerson 1 = .ok (.invokevirtual 36, 3) := by decide +kernel
theorem dX4_readPerson_4 : decode cX4_readPerson 4 = .ok (.invokestatic 61, 3) := by decide +kernel
theorem dX4_readPerson_7 : decode cX4_readPerson 7 = .ok (.istore_n 2, 1) := by decide +kernel
theorem dX4_readPerson_8 : decode cX4_readPerson 8 = .ok (.iload_n 2, 1) := by decide +kernel
theorem dX4_readPerson_9 : decode cX4_readPerson 9 = .ok (.ifCond .ge 8, 3) := by decide +kernel
theorem dX4_readPerson_12 : decode cX4_readPerson 12 = .ok (.aload_n 0, 1) := by decide +kernel
theorem dX4_readPerson_13 : decode cX4_readPerson 13 = .ok (.invokevirtual 44, 3) := by decide +kernel
theorem dX4_readPerson_16 : decode cX4_readPerson 16 = .ok (.ireturn, 1) := by decide +kernel
theorem dX4_readPerson_17 : decode cX4_readPerson 17 = .ok (.aload_n 0, 1) := by decide +kernel
theorem dX4_readPerson_18 : decode cX4_readPerson 18 = .ok (.dup, 1) := by decide +kernel
theorem dX4_readPerson_19 : decode cX4_readPerson 19 = .ok (.getfield 19, 3) := by decide +kernel
theorem dX4_readPerson_22 : decode cX4_readPerson 22 = .ok (.iconst 1, 1) := by decide +kernel
theorem dX4_readPerson_23 : decode cX4_readPerson 23 = .ok (.iadd, 1) := by decide +kernel
theorem dX4_readPerson_24 : decode cX4_readPerson 24 = .ok (.putfield 19, 3) := by decide +kernel
theorem dX4_readPerson_27 : decode cX4_readPerson 27 = .ok (.aload_n 0, 1) := by decide +kernel
theorem dX4_readPerson_28 : decode cX4_readPerson 28 = .ok (.bipush 23, 2) := by decide +kernel
theorem dX4_readPerson_30 : decode cX4_readPerson 30 = .ok (.invokevirtual 65, 3) := by decide +kernel
theorem dX4_readPerson_33 : decode cX4_readPerson 33 = .ok (.istore_n 3, 1) := by decide +kernel
theorem dX4_readPerson_34 : decode cX4_readPerson 34 = .ok (.iload_n 3, 1) := by decide +kernel
theorem dX4_readPerson_35 : decode cX4_readPerson 35 = .ok (.ifCond .ge 5, 3) := by decide +kernel
theorem dX4_readPerson_38 : decode cX4_readPerson 38 = .ok (.iload_n 3, 1) := by decide +kernel
theorem dX4_readPerson_39 : decode cX4_readPerson 39 = .ok (.ireturn, 1) := by decide +kernel
theorem dX4_readPerson_40 : decode cX4_readPerson 40 = .ok (.aload_n 0, 1) := by decide +kernel
theorem dX4_readPerson_41 : decode cX4_readPerson 41 = .ok (.bipush 119, 2) := by decide +kernel
theorem dX4_readPerson_43 : decode cX4_readPerson 43 = .ok (.invokevirtual 57, 3) := by decide +kernel
theorem dX4_readPerson_46 : decode cX4_readPerson 46 = .ok (.ifCond .eq 12, 3) := by decide +kernel
theorem dX4_readPerson_49 : decode cX4_readPerson 49 = .ok (.aload_n 0, 1) := by decide +kernel
theorem dX4_readPerson_50 : decode cX4_readPerson 50 = .ok (.bipush 99, 2) := by decide +kernel
theorem dX4_readPerson_52 : decode cX4_readPerson 52 = .ok (.invokevirtual 65, 3) := by decide +kernel
theorem dX4_readPerson_55 : decode cX4_readPerson 55 = .ok (.goto 4, 3) := by decide +kernel
theorem dX4_readPerson_58 : decode cX4_readPerson 58 = .ok (.iconst 1, 1) := by decide +kernel
theorem dX4_readPerson_59 : decode cX4_readPerson 59 = .ok (.istore 4, 2) := by decide +kernel
theorem dX4_readPerson_61 : decode cX4_readPerson 61 = .ok (.iload 4, 2) := by decide +kernel
theorem dX4_readPerson_63 : decode cX4_readPerson 63 = .ok (.ifCond .ge 6, 3) := by decide +kernel
theorem dX4_readPerson_66 : decode cX4_readPerson 66 = .ok (.iload 4, 2) := by decide +kernel
theorem dX4_readPerson_68 : decode cX4_readPerson 68 = .ok (.ireturn, 1) := by decide +kernel
theorem dX4_readPerson_69 : decode cX4_readPerson 69 = .ok (.aload_n 1, 1) := by decide +kernel
theorem dX4_readPerson_70 : decode cX4_readPerson 70 = .ok (.iload_n 2, 1) := by decide +kernel
theorem dX4_readPerson_71 : decode cX4_readPerson 71 = .ok (.iload_n 3, 1) := by decide +kernel
theorem dX4_readPerson_72 : decode cX4_readPerson 72 = .ok (.iload 4, 2) := by decide +kernel
theorem dX4_readPerson_74 : decode cX4_readPerson 74 = .ok (.aload_n 0, 1) := by decide +kernel
theorem dX4_readPerson_75 : decode cX4_readPerson 75 = .ok (.bipush 45, 2) := by decide +kernel
theorem dX4_readPerson_77 : decode cX4_readPerson 77 = .ok (.invokevirtual 57, 3) := by decide +kernel
theorem dX4_readPerson_80 : decode cX4_readPerson 80 = .ok (.ifCond .eq 7, 3) := by decide +kernel
theorem dX4_readPerson_83 : decode cX4_readPerson 83 = .ok (.iconst 0, 1) := by decide +kernel
theorem dX4_readPerson_84 : decode cX4_readPerson 84 = .ok (.goto 4, 3) := by decide +kernel
theorem dX4_readPerson_87 : decode cX4_readPerson 87 = .ok (.iconst 1, 1) := by decide +kernel
theorem dX4_readPerson_88 : decode cX4_readPerson 88 = .ok (.invokevirtual 68, 3) := by decide +kernel
theorem dX4_readPerson_91 : decode cX4_readPerson 91 = .ok (.iconst 0, 1) := by decide +kernel
theorem dX4_readPerson_92 : decode cX4_readPerson 92 = .ok (.ireturn, 1) := by decide +kernel
theorem dX4_kindOf_0 : decode cX4_kindOf 0 = .ok (.iload_n 0, 1) := by decide +kernel
theorem dX4_kindOf_1 : decode cX4_kindOf 1 = .ok (.lookupswitch 51 #[(99, 43), (107, 47), (108, 45), (112, 49)], 43) := by decide +kernel
theorem dX4_kindOf_44 : decode cX4_kindOf 44 = .ok (.iconst 0, 1) := by decide +kernel
theorem dX4_kindOf_45 : decode cX4_kindOf 45 = .ok (.ireturn, 1) := by decide +kernel
theorem dX4_kindOf_46 : decode cX4_kindOf 46 = .ok (.iconst 1, 1) := by decide +kernel
theorem dX4_kindOf_47 : decode cX4_kindOf 47 = .ok (.ireturn, 1) := by decide +kernel
theorem dX4_kindOf_48 : decode cX4_kindOf 48 = .ok (.iconst 2, 1) := by decide +kernel
theorem dX4_kindOf_49 : decode cX4_kindOf 49 = .ok (.ireturn, 1) := by decide +kernel
theorem dX4_kindOf_50 : decode cX4_kindOf 50 = .ok (.iconst 3, 1) := by decide +kernel
theorem dX4_kindOf_51 : decode cX4_kindOf 51 = .ok (.ireturn, 1) := by decide +kernel
theorem dX4_kindOf_52 : decode cX4_kindOf 52 = .ok (.iconst (-1), 1) := by decide +kernel
theorem dX4_kindOf_53 : decode cX4_kindOf 53 = .ok (.ireturn, 1) := by decide +kernel
theorem dX4_readPlan_0 : decode cX4_readPlan 0 = .ok (.aload_n 0, 1) := by decide +kernel
theorem dX4_readPlan_1 : decode cX4_readPlan 1 = .ok (.iconst 0, 1) := by decide +kernel
theorem dX4_readPlan_2 : decode cX4_readPlan 2 = .ok (.putfield 19, 3) := by decide +kernel
theorem dX4_readPlan_5 : decode cX4_readPlan 5 = .ok (.aload_n 0, 1) := by decide +kernel
theorem dX4_readPlan_6 : decode cX4_readPlan 6 = .ok (.getfield 31, 3) := by decide +kernel
theorem dX4_readPlan_9 : decode cX4_readPlan 9 = .ok (.iconst 0, 1) := by decide +kernel
theorem dX4_readPlan_10 : decode cX4_readPlan 10 = .ok (.invokestatic 72, 3) := by decide +kernel
theorem dX4_readPlan_13 : decode cX4_readPlan 13 = .ok (.aload_n 0, 1) := by decide +kernel
theorem dX4_readPlan_14 : decode cX4_readPlan 14 = .ok (.invokevirtual 36, 3) := by decide +kernel
theorem dX4_readPlan_17 : decode cX4_readPlan 17 = .ok (.iconst (-1), 1) := by decide +kernel
theorem dX4_readPlan_18 : decode cX4_readPlan 18 = .ok (.if_icmp .ne 5, 3) := by decide +kernel
theorem dX4_readPlan_21 : decode cX4_readPlan 21 = .ok (.iconst 0, 1) := by decide +kernel
theorem dX4_readPlan_22 : decode cX4_readPlan 22 = .ok (.ireturn, 1) := by decide +kernel
theorem dX4_readPlan_23 : decode cX4_readPlan 23 = .ok (.iconst 0, 1) := by decide +kernel
theorem dX4_readPlan_24 : decode cX4_readPlan 24 = .ok (.istore_n 1, 1) := by decide +kernel
theorem dX4_readPlan_25 : decode cX4_readPlan 25 = .ok (.iconst 0, 1) := by decide +kernel
theorem dX4_readPlan_26 : decode cX4_readPlan 26 = .ok (.istore_n 2, 1) := by decide +kernel
theorem dX4_readPlan_27 : decode cX4_readPlan 27 = .ok (.iload_n 2, 1) := by decide +kernel
theorem dX4_readPlan_28 : decode cX4_readPlan 28 = .ok (.bipush 24, 2) := by decide +kernel
theorem dX4_readPlan_30 : decode cX4_readPlan 30 = .ok (.if_icmp .ge 93, 3) := by decide +kernel
theorem dX4_readPlan_33 : decode cX4_readPlan 33 = .ok (.aload_n 0, 1) := by decide +kernel
theorem dX4_readPlan_34 : decode cX4_readPlan 34 = .ok (.bipush 23, 2) := by decide +kernel
theorem dX4_readPlan_36 : decode cX4_readPlan 36 = .ok (.invokevirtual 65, 3) := by decide +kernel
theorem dX4_readPlan_39 : decode cX4_readPlan 39 = .ok (.istore_n 3, 1) := by decide +kernel
theorem dX4_readPlan_40 : decode cX4_readPlan 40 = .ok (.iload_n 3, 1) := by decide +kernel
theorem dX4_readPlan_41 : decode cX4_readPlan 41 = .ok (.ifCond .ge 5, 3) := by decide +kernel
theorem dX4_readPlan_44 : decode cX4_readPlan 44 = .ok (.iload_n 3, 1) := by decide +kernel
theorem dX4_readPlan_45 : decode cX4_readPlan 45 = .ok (.ireturn, 1) := by decide +kernel
theorem dX4_readPlan_46 : decode cX4_readPlan 46 = .ok (.iload_n 1, 1) := by decide +kernel
theorem dX4_readPlan_47 : decode cX4_readPlan 47 = .ok (.iload_n 3, 1) := by decide +kernel
theorem dX4_readPlan_48 : decode cX4_readPlan 48 = .ok (.ishr, 1) := by decide +kernel
theorem dX4_readPlan_49 : decode cX4_readPlan 49 = .ok (.iconst 1, 1) := by decide +kernel
theorem dX4_readPlan_50 : decode cX4_readPlan 50 = .ok (.iand, 1) := by decide +kernel
theorem dX4_readPlan_51 : decode cX4_readPlan 51 = .ok (.ifCond .eq 11, 3) := by decide +kernel
theorem dX4_readPlan_54 : decode cX4_readPlan 54 = .ok (.bipush (-20), 2) := by decide +kernel
theorem dX4_readPlan_56 : decode cX4_readPlan 56 = .ok (.aload_n 0, 1) := by decide +kernel
theorem dX4_readPlan_57 : decode cX4_readPlan 57 = .ok (.getfield 22, 3) := by decide +kernel
theorem dX4_readPlan_60 : decode cX4_readPlan 60 = .ok (.isub, 1) := by decide +kernel
theorem dX4_readPlan_61 : decode cX4_readPlan 61 = .ok (.ireturn, 1) := by decide +kernel
theorem dX4_readPlan_62 : decode cX4_readPlan 62 = .ok (.iload_n 1, 1) := by decide +kernel
theorem dX4_readPlan_63 : decode cX4_readPlan 63 = .ok (.iconst 1, 1) := by decide +kernel
theorem dX4_readPlan_64 : decode cX4_readPlan 64 = .ok (.iload_n 3, 1) := by decide +kernel
theorem dX4_readPlan_65 : decode cX4_readPlan 65 = .ok (.ishl, 1) := by decide +kernel
theorem dX4_readPlan_66 : decode cX4_readPlan 66 = .ok (.ior, 1) := by decide +kernel
theorem dX4_readPlan_67 : decode cX4_readPlan 67 = .ok (.istore_n 1, 1) := by decide +kernel
theorem dX4_readPlan_68 : decode cX4_readPlan 68 = .ok (.aload_n 0, 1) := by decide +kernel
theorem dX4_readPlan_69 : decode cX4_readPlan 69 = .ok (.iload_n 3, 1) := by decide +kernel
theorem dX4_readPlan_70 : decode cX4_readPlan 70 = .ok (.invokevirtual 78, 3) := by decide +kernel
theorem dX4_readPlan_73 : decode cX4_readPlan 73 = .ok (.istore 4, 2) := by decide +kernel
theorem dX4_readPlan_75 : decode cX4_readPlan 75 = .ok (.iload 4, 2) := by decide +kernel
theorem dX4_readPlan_77 : decode cX4_readPlan 77 = .ok (.ifCond .ge 6, 3) := by decide +kernel
theorem dX4_readPlan_80 : decode cX4_readPlan 80 = .ok (.iload 4, 2) := by decide +kernel
theorem dX4_readPlan_82 : decode cX4_readPlan 82 = .ok (.ireturn, 1) := by decide +kernel
theorem dX4_readPlan_83 : decode cX4_readPlan 83 = .ok (.aload_n 0, 1) := by decide +kernel
theorem dX4_readPlan_84 : decode cX4_readPlan 84 = .ok (.invokevirtual 36, 3) := by decide +kernel
theorem dX4_readPlan_87 : decode cX4_readPlan 87 = .ok (.iconst (-1), 1) := by decide +kernel
theorem dX4_readPlan_88 : decode cX4_readPlan 88 = .ok (.if_icmp .ne 7, 3) := by decide +kernel
theorem dX4_readPlan_91 : decode cX4_readPlan 91 = .ok (.iload_n 2, 1) := by decide +kernel
theorem dX4_readPlan_92 : decode cX4_readPlan 92 = .ok (.iconst 1, 1) := by decide +kernel
theorem dX4_readPlan_93 : decode cX4_readPlan 93 = .ok (.iadd, 1) := by decide +kernel
theorem dX4_readPlan_94 : decode cX4_readPlan 94 = .ok (.ireturn, 1) := by decide +kernel
theorem dX4_readPlan_95 : decode cX4_readPlan 95 = .ok (.iload_n 2, 1) := by decide +kernel
theorem dX4_readPlan_96 : decode cX4_readPlan 96 = .ok (.iconst 1, 1) := by decide +kernel
theorem dX4_readPlan_97 : decode cX4_readPlan 97 = .ok (.iadd, 1) := by decide +kernel
theorem dX4_readPlan_98 : decode cX4_readPlan 98 = .ok (.bipush 24, 2) := by decide +kernel
theorem dX4_readPlan_100 : decode cX4_readPlan 100 = .ok (.if_icmp .eq 12, 3) := by decide +kernel
theorem dX4_readPlan_103 : decode cX4_readPlan 103 = .ok (.aload_n 0, 1) := by decide +kernel
theorem dX4_readPlan_104 : decode cX4_readPlan 104 = .ok (.bipush 44, 2) := by decide +kernel
theorem dX4_readPlan_106 : decode cX4_readPlan 106 = .ok (.invokevirtual 57, 3) := by decide +kernel
theorem dX4_readPlan_109 : decode cX4_readPlan 109 = .ok (.ifCond .ne 8, 3) := by decide +kernel
theorem dX4_readPlan_112 : decode cX4_readPlan 112 = .ok (.aload_n 0, 1) := by decide +kernel
theorem dX4_readPlan_113 : decode cX4_readPlan 113 = .ok (.invokevirtual 44, 3) := by decide +kernel
theorem dX4_readPlan_116 : decode cX4_readPlan 116 = .ok (.ireturn, 1) := by decide +kernel
theorem dX4_readPlan_117 : decode cX4_readPlan 117 = .ok (.iinc 2 1, 3) := by decide +kernel
theorem dX4_readPlan_120 : decode cX4_readPlan 120 = .ok (.goto (-93), 3) := by decide +kernel
theorem dX4_readPlan_123 : decode cX4_readPlan 123 = .ok (.aload_n 0, 1) := by decide +kernel
theorem dX4_readPlan_124 : decode cX4_readPlan 124 = .ok (.invokevirtual 44, 3) := by decide +kernel
theorem dX4_readPlan_127 : decode cX4_readPlan 127 = .ok (.ireturn, 1) := by decide +kernel
theorem dX4_readHourNumber_0 : decode cX4_readHourNumber 0 = .ok (.aload_n 0, 1) := by decide +kernel
theorem dX4_readHourNumber_1 : decode cX4_readHourNumber 1 = .ok (.bipush 45, 2) := by decide +kernel
theorem dX4_readHourNumber_3 : decode cX4_readHourNumber 3 = .ok (.invokevirtual 57, 3) := by decide +kernel
theorem dX4_readHourNumber_6 : decode cX4_readHourNumber 6 = .ok (.istore_n 2, 1) := by decide +kernel
theorem dX4_readHourNumber_7 : decode cX4_readHourNumber 7 = .ok (.iload_n 2, 1) := by decide +kernel
theorem dX4_readHourNumber_8 : decode cX4_readHourNumber 8 = .ok (.ifCond .ne 17, 3) := by decide +kernel
theorem dX4_readHourNumber_11 : decode cX4_readHourNumber 11 = .ok (.aload_n 0, 1) := by decide +kernel
theorem dX4_readHourNumber_12 : decode cX4_readHourNumber 12 = .ok (.bipush 43, 2) := by decide +kernel
theorem dX4_readHourNumber_14 : decode cX4_readHourNumber 14 = .ok (.invokevirtual 57, 3) := by decide +kernel
theorem dX4_readHourNumber_17 : decode cX4_readHourNumber 17 = .ok (.ifCond .ne 8, 3) := by decide +kernel
theorem dX4_readHourNumber_20 : decode cX4_readHourNumber 20 = .ok (.aload_n 0, 1) := by decide +kernel
theorem dX4_readHourNumber_21 : decode cX4_readHourNumber 21 = .ok (.invokevirtual 44, 3) := by decide +kernel
theorem dX4_readHourNumber_24 : decode cX4_readHourNumber 24 = .ok (.ireturn, 1) := by decide +kernel
theorem dX4_readHourNumber_25 : decode cX4_readHourNumber 25 = .ok (.iload_n 2, 1) := by decide +kernel
theorem dX4_readHourNumber_26 : decode cX4_readHourNumber 26 = .ok (.ifCond .eq 7, 3) := by decide +kernel
theorem dX4_readHourNumber_29 : decode cX4_readHourNumber 29 = .ok (.iconst 2, 1) := by decide +kernel
theorem dX4_readHourNumber_30 : decode cX4_readHourNumber 30 = .ok (.goto 4, 3) := by decide +kernel
theorem dX4_readHourNumber_33 : decode cX4_readHourNumber 33 = .ok (.iconst 5, 1) := by decide +kernel
theorem dX4_readHourNumber_34 : decode cX4_readHourNumber 34 = .ok (.istore_n 3, 1) := by decide +kernel
theorem dX4_readHourNumber_35 : decode cX4_readHourNumber 35 = .ok (.aload_n 0, 1) := by decide +kernel
theorem dX4_readHourNumber_36 : decode cX4_readHourNumber 36 = .ok (.invokevirtual 36, 3) := by decide +kernel
theorem dX4_readHourNumber_39 : decode cX4_readHourNumber 39 = .ok (.bipush 48, 2) := by decide +kernel
theorem dX4_readHourNumber_41 : decode cX4_readHourNumber 41 = .ok (.isub, 1) := by decide +kernel
theorem dX4_readHourNumber_42 : decode cX4_readHourNumber 42 = .ok (.istore 4, 2) := by decide +kernel
theorem dX4_readHourNumber_44 : decode cX4_readHourNumber 44 = .ok (.iload 4, 2) := by decide +kernel
theorem dX4_readHourNumber_46 : decode cX4_readHourNumber 46 = .ok (.ifCond .lt 9, 3) := by decide +kernel
theorem dX4_readHourNumber_49 : decode cX4_readHourNumber 49 = .ok (.iload 4, 2) := by decide +kernel
theorem dX4_readHourNumber_51 : decode cX4_readHourNumber 51 = .ok (.iload_n 3, 1) := by decide +kernel
theorem dX4_readHourNumber_52 : decode cX4_readHourNumber 52 = .ok (.if_icmp .le 8, 3) := by decide +kernel
theorem dX4_readHourNumber_55 : decode cX4_readHourNumber 55 = .ok (.aload_n 0, 1) := by decide +kernel
theorem dX4_readHourNumber_56 : decode cX4_readHourNumber 56 = .ok (.invokevirtual 44, 3) := by decide +kernel
theorem dX4_readHourNumber_59 : decode cX4_readHourNumber 59 = .ok (.ireturn, 1) := by decide +kernel
theorem dX4_readHourNumber_60 : decode cX4_readHourNumber 60 = .ok (.aload_n 0, 1) := by decide +kernel
theorem dX4_readHourNumber_61 : decode cX4_readHourNumber 61 = .ok (.dup, 1) := by decide +kernel
theorem dX4_readHourNumber_62 : decode cX4_readHourNumber 62 = .ok (.getfield 19, 3) := by decide +kernel
theorem dX4_readHourNumber_65 : decode cX4_readHourNumber 65 = .ok (.iconst 1, 1) := by decide +kernel
theorem dX4_readHourNumber_66 : decode cX4_readHourNumber 66 = .ok (.iadd, 1) := by decide +kernel
theorem dX4_readHourNumber_67 : decode cX4_readHourNumber 67 = .ok (.putfield 19, 3) := by decide +kernel
theorem dX4_readHourNumber_70 : decode cX4_readHourNumber 70 = .ok (.aload_n 0, 1) := by decide +kernel
theorem dX4_readHourNumber_71 : decode cX4_readHourNumber 71 = .ok (.getfield 31, 3) := by decide +kernel
theorem dX4_readHourNumber_74 : decode cX4_readHourNumber 74 = .ok (.iload_n 1, 1) := by decide +kernel
theorem dX4_readHourNumber_75 : decode cX4_readHourNumber 75 = .ok (.iload_n 2, 1) := by decide +kernel
theorem dX4_readHourNumber_76 : decode cX4_readHourNumber 76 = .ok (.ifCond .eq 9, 3) := by decide +kernel
theorem dX4_readHourNumber_79 : decode cX4_readHourNumber 79 = .ok (.iload 4, 2) := by decide +kernel
theorem dX4_readHourNumber_81 : decode cX4_readHourNumber 81 = .ok (.ineg, 1) := by decide +kernel
theorem dX4_readHourNumber_82 : decode cX4_readHourNumber 82 = .ok (.goto 5, 3) := by decide +kernel
theorem dX4_readHourNumber_85 : decode cX4_readHourNumber 85 = .ok (.iload 4, 2) := by decide +kernel
theorem dX4_readHourNumber_87 : decode cX4_readHourNumber 87 = .ok (.iastore, 1) := by decide +kernel
theorem dX4_readHourNumber_88 : decode cX4_readHourNumber 88 = .ok (.iconst 0, 1) := by decide +kernel
theorem dX4_readHourNumber_89 : decode cX4_readHourNumber 89 = .ok (.ireturn, 1) := by decide +kernel
theorem dX5_init_0 : decode cX5_init 0 = .ok (.aload_n 0, 1) := by decide +kernel
theorem dX5_init_1 : decode cX5_init 1 = .ok (.invokespecial 3, 3) := by decide +kernel
theorem dX5_init_4 : decode cX5_init 4 = .ok (.aload_n 0, 1) := by decide +kernel
theorem dX5_init_5 : decode cX5_init 5 = .ok (.bipush 8, 2) := by decide +kernel
theorem dX5_init_7 : decode cX5_init 7 = .ok (.anewarray 9, 3) := by decide +kernel
theorem dX5_init_10 : decode cX5_init 10 = .ok (.putfield 11, 3) := by decide +kernel
theorem dX5_init_13 : decode cX5_init 13 = .ok (.aload_n 0, 1) := by decide +kernel
theorem dX5_init_14 : decode cX5_init 14 = .ok (.iconst 0, 1) := by decide +kernel
theorem dX5_init_15 : decode cX5_init 15 = .ok (.putfield 17, 3) := by decide +kernel
theorem dX5_init_18 : decode cX5_init 18 = .ok (.aload_n 0, 1) := by decide +kernel
theorem dX5_init_19 : decode cX5_init 19 = .ok (.bipush 6, 2) := by decide +kernel
theorem dX5_init_21 : decode cX5_init 21 = .ok (.newarray .int, 2) := by decide +kernel
theorem dX5_init_23 : decode cX5_init 23 = .ok (.putfield 21, 3) := by decide +kernel
theorem dX5_init_26 : decode cX5_init 26 = .ok (.aload_n 0, 1) := by decide +kernel
theorem dX5_init_27 : decode cX5_init 27 = .ok (.bipush 6, 2) := by decide +kernel
theorem dX5_init_29 : decode cX5_init 29 = .ok (.newarray .int, 2) := by decide +kernel
theorem dX5_init_31 : decode cX5_init 31 = .ok (.putfield 25, 3) := by decide +kernel
theorem dX5_init_34 : decode cX5_init 34 = .ok (.aload_n 0, 1) := by decide +kernel
theorem dX5_init_35 : decode cX5_init 35 = .ok (.iconst 0, 1) := by decide +kernel
theorem dX5_init_36 : decode cX5_init 36 = .ok (.putfield 28, 3) := by decide +kernel
theorem dX5_init_39 : decode cX5_init 39 = .ok (.aload_n 0, 1) := by decide +kernel
theorem dX5_init_40 : decode cX5_init 40 = .ok (.bipush 24, 2) := by decide +kernel
theorem dX5_init_42 : decode cX5_init 42 = .ok (.newarray .int, 2) := by decide +kernel
theorem dX5_init_44 : decode cX5_init 44 = .ok (.putfield 31, 3) := by decide +kernel
theorem dX5_init_47 : decode cX5_init 47 = .ok (.aload_n 0, 1) := by decide +kernel
theorem dX5_init_48 : decode cX5_init 48 = .ok (.bipush 24, 2) := by decide +kernel
theorem dX5_init_50 : decode cX5_init 50 = .ok (.newarray .int, 2) := by decide +kernel
theorem dX5_init_52 : decode cX5_init 52 = .ok (.putfield 34, 3) := by decide +kernel
theorem dX5_init_55 : decode cX5_init 55 = .ok (.aload_n 0, 1) := by decide +kernel
theorem dX5_init_56 : decode cX5_init 56 = .ok (.bipush 11, 2) := by decide +kernel
theorem dX5_init_58 : decode cX5_init 58 = .ok (.putfield 37, 3) := by decide +kernel
theorem dX5_init_61 : decode cX5_init 61 = .ok (.aload_n 0, 1) := by decide +kernel
theorem dX5_init_62 : decode cX5_init 62 = .ok (.iconst 0, 1) := by decide +kernel
theorem dX5_init_63 : decode cX5_init 63 = .ok (.putfield 40, 3) := by decide +kernel
theorem dX5_init_66 : decode cX5_init 66 = .ok (.aload_n 0, 1) := by decide +kernel
theorem dX5_init_67 : decode cX5_init 67 = .ok (.iconst 0, 1) := by decide +kernel
theorem dX5_init_68 : decode cX5_init 68 = .ok (.putfield 43, 3) := by decide +kernel
theorem dX5_init_71 : decode cX5_init 71 = .ok (.aload_n 0, 1) := by decide +kernel
theorem dX5_init_72 : decode cX5_init 72 = .ok (.iconst 1, 1) := by decide +kernel
theorem dX5_init_73 : decode cX5_init 73 = .ok (.putfield 46, 3) := by decide +kernel
theorem dX5_init_76 : decode cX5_init 76 = .ok (.aload_n 0, 1) := by decide +kernel
theorem dX5_init_77 : decode cX5_init 77 = .ok (.iconst 0, 1) := by decide +kernel
theorem dX5_init_78 : decode cX5_init 78 = .ok (.putfield 49, 3) := by decide +kernel
theorem dX5_init_81 : decode cX5_init 81 = .ok (.aload_n 0, 1) := by decide +kernel
theorem dX5_init_82 : decode cX5_init 82 = .ok (.iconst 0, 1) := by decide +kernel
theorem dX5_init_83 : decode cX5_init 83 = .ok (.putfield 52, 3) := by decide +kernel
theorem dX5_init_86 : decode cX5_init 86 = .ok (.aload_n 0, 1) := by decide +kernel
theorem dX5_init_87 : decode cX5_init 87 = .ok (.iconst 1, 1) := by decide +kernel
theorem dX5_init_88 : decode cX5_init 88 = .ok (.putfield 55, 3) := by decide +kernel
theorem dX5_init_91 : decode cX5_init 91 = .ok (.iconst 0, 1) := by decide +kernel
theorem dX5_init_92 : decode cX5_init 92 = .ok (.istore_n 1, 1) := by decide +kernel
theorem dX5_init_93 : decode cX5_init 93 = .ok (.iload_n 1, 1) := by decide +kernel
theorem dX5_init_94 : decode cX5_init 94 = .ok (.bipush 8, 2) := by decide +kernel
theorem dX5_init_96 : decode cX5_init 96 = .ok (.if_icmp .ge 22, 3) := by decide +kernel
theorem dX5_init_99 : decode cX5_init 99 = .ok (.aload_n 0, 1) := by decide +kernel
theorem dX5_init_100 : decode cX5_init 100 = .ok (.getfield 11, 3) := by decide +kernel
theorem dX5_init_103 : decode cX5_init 103 = .ok (.iload_n 1, 1) := by decide +kernel
theorem dX5_init_104 : decode cX5_init 104 = .ok (.new 9, 3) := by decide +kernel
theorem dX5_init_107 : decode cX5_init 107 = .ok (.dup, 1) := by decide +kernel
theorem dX5_init_108 : decode cX5_init 108 = .ok (.invokespecial 58, 3) := by decide +kernel
theorem dX5_init_111 : decode cX5_init 111 = .ok (.aastore, 1) := by decide +kernel
theorem dX5_init_112 : decode cX5_init 112 = .ok (.iinc 1 1, 3) := by decide +kernel
theorem dX5_init_115 : decode cX5_init 115 = .ok (.goto (-22), 3) := by decide +kernel
theorem dX5_init_118 : decode cX5_init 118 = .ok (.aload_n 0, 1) := by decide +kernel
theorem dX5_init_119 : decode cX5_init 119 = .ok (.getfield 31, 3) := by decide +kernel
theorem dX5_init_122 : decode cX5_init 122 = .ok (.iconst 5, 1) := by decide +kernel
theorem dX5_init_123 : decode cX5_init 123 = .ok (.invokestatic 59, 3) := by decide +kernel
theorem dX5_init_126 : decode cX5_init 126 = .ok (.return_, 1) := by decide +kernel
theorem dX5_becomeLike_0 : decode cX5_becomeLike 0 = .ok (.aload_n 0, 1) := by decide +kernel
theorem dX5_becomeLike_1 : decode cX5_becomeLike 1 = .ok (.aload_n 1, 1) := by decide +kernel
theorem dX5_becomeLike_2 : decode cX5_becomeLike 2 = .ok (.getfield 11, 3) := by decide +kernel
theorem dX5_becomeLike_5 : decode cX5_becomeLike 5 = .ok (.aload_n 1, 1) := by decide +kernel
theorem dX5_becomeLike_6 : decode cX5_becomeLike 6 = .ok (.getfield 17, 3) := by decide +kernel
theorem dX5_becomeLike_9 : decode cX5_becomeLike 9 = .ok (.invokevirtual 65, 3) := by decide +kernel
theorem dX5_becomeLike_12 : decode cX5_becomeLike 12 = .ok (.aload_n 1, 1) := by decide +kernel
theorem dX5_becomeLike_13 : decode cX5_becomeLike 13 = .ok (.getfield 21, 3) := by decide +kernel
theorem dX5_becomeLike_16 : decode cX5_becomeLike 16 = .ok (.iconst 0, 1) := by decide +kernel
theorem dX5_becomeLike_17 : decode cX5_becomeLike 17 = .ok (.aload_n 0, 1) := by decide +kernel
theorem dX5_becomeLike_18 : decode cX5_becomeLike 18 = .ok (.getfield 21, 3) := by decide +kernel
theorem dX5_becomeLike_21 : decode cX5_becomeLike 21 = .ok (.iconst 0, 1) := by decide +kernel
theorem dX5_becomeLike_22 : decode cX5_becomeLike 22 = .ok (.bipush 6, 2) := by decide +kernel
theorem dX5_becomeLike_24 : decode cX5_becomeLike 24 = .ok (.invokestatic 69, 3) := by decide +kernel
theorem dX5_becomeLike_27 : decode cX5_becomeLike 27 = .ok (.aload_n 1, 1) := by decide +kernel
theorem dX5_becomeLike_28 : decode cX5_becomeLike 28 = .ok (.getfield 25, 3) := by decide +kernel
theorem dX5_becomeLike_31 : decode cX5_becomeLike 31 = .ok (.iconst 0, 1) := by decide +kernel
theorem dX5_becomeLike_32 : decode cX5_becomeLike 32 = .ok (.aload_n 0, 1) := by decide +kernel
theorem dX5_becomeLike_33 : decode cX5_becomeLike 33 = .ok (.getfield 25, 3) := by decide +kernel
theorem dX5_becomeLike_36 : decode cX5_becomeLike 36 = .ok (.iconst 0, 1) := by decide +kernel
theorem dX5_becomeLike_37 : decode cX5_becomeLike 37 = .ok (.bipush 6, 2) := by decide +kernel
theorem dX5_becomeLike_39 : decode cX5_becomeLike 39 = .ok (.invokestatic 69, 3) := by decide +kernel
theorem dX5_becomeLike_42 : decode cX5_becomeLike 42 = .ok (.aload_n 0, 1) := by decide +kernel
theorem dX5_becomeLike_43 : decode cX5_becomeLike 43 = .ok (.aload_n 1, 1) := by decide +kernel
theorem dX5_becomeLike_44 : decode cX5_becomeLike 44 = .ok (.getfield 28, 3) := by decide +kernel
theorem dX5_becomeLike_47 : decode cX5_becomeLike 47 = .ok (.putfield 28, 3) := by decide +kernel
theorem dX5_becomeLike_50 : decode cX5_becomeLike 50 = .ok (.aload_n 1, 1) := by decide +kernel
theorem dX5_becomeLike_51 : decode cX5_becomeLike 51 = .ok (.getfield 31, 3) := by decide +kernel
theorem dX5_becomeLike_54 : decode cX5_becomeLike 54 = .ok (.iconst 0, 1) := by decide +kernel
theorem dX5_becomeLike_55 : decode cX5_becomeLike 55 = .ok (.aload_n 0, 1) := by decide +kernel
theorem dX5_becomeLike_56 : decode cX5_becomeLike 56 = .ok (.getfield 31, 3) := by decide +kernel
theorem dX5_becomeLike_59 : decode cX5_becomeLike 59 = .ok (.iconst 0, 1) := by decide +kernel
theorem dX5_becomeLike_60 : decode cX5_becomeLike 60 = .ok (.bipush 24, 2) := by decide +kernel
theorem dX5_becomeLike_62 : decode cX5_becomeLike 62 = .ok (.invokestatic 69, 3) := by decide +kernel
theorem dX5_becomeLike_65 : decode cX5_becomeLike 65 = .ok (.aload_n 1, 1) := by decide +kernel
theorem dX5_becomeLike_66 : decode cX5_becomeLike 66 = .ok (.getfield 34, 3) := by decide +kernel
theorem dX5_becomeLike_69 : decode cX5_becomeLike 69 = .ok (.iconst 0, 1) := by decide +kernel
theorem dX5_becomeLike_70 : decode cX5_becomeLike 70 = .ok (.aload_n 0, 1) := by decide +kernel
theorem dX5_becomeLike_71 : decode cX5_becomeLike 71 = .ok (.getfield 34, 3) := by decide +kernel
theorem dX5_becomeLike_74 : decode cX5_becomeLike 74 = .ok (.iconst 0, 1) := by decide +kernel
theorem dX5_becomeLike_75 : decode cX5_becomeLike 75 = .ok (.bipush 24, 2) := by decide +kernel
theorem dX5_becomeLike_77 : decode cX5_becomeLike 77 = .ok (.invokestatic 69, 3) := by decide +kernel
theorem dX5_becomeLike_80 : decode cX5_becomeLike 80 = .ok (.aload_n 0, 1) := by decide +kernel
theorem dX5_becomeLike_81 : decode cX5_becomeLike 81 = .ok (.aload_n 1, 1) := by decide +kernel
theorem dX5_becomeLike_82 : decode cX5_becomeLike 82 = .ok (.getfield 37, 3) := by decide +kernel
theorem dX5_becomeLike_85 : decode cX5_becomeLike 85 = .ok (.putfield 37, 3) := by decide +kernel
theorem dX5_becomeLike_88 : decode cX5_becomeLike 88 = .ok (.aload_n 0, 1) := by decide +kernel
theorem dX5_becomeLike_89 : decode cX5_becomeLike 89 = .ok (.aload_n 1, 1) := by decide +kernel
theorem dX5_becomeLike_90 : decode cX5_becomeLike 90 = .ok (.getfield 40, 3) := by decide +kernel
theorem dX5_becomeLike_93 : decode cX5_becomeLike 93 = .ok (.putfield 40, 3) := by decide +kernel
theorem dX5_becomeLike_96 : decode cX5_becomeLike 96 = .ok (.aload_n 0, 1) := by decide +kernel
theorem dX5_becomeLike_97 : decode cX5_becomeLike 97 = .ok (.aload_n 1, 1) := by decide +kernel
theorem dX5_becomeLike_98 : decode cX5_becomeLike 98 = .ok (.getfield 43, 3) := by decide +kernel
theorem dX5_becomeLike_101 : decode cX5_becomeLike 101 = .ok (.putfield 43, 3) := by decide +kernel
theorem dX5_becomeLike_104 : decode cX5_becomeLike 104 = .ok (.aload_n 0, 1) := by decide +kernel
theorem dX5_becomeLike_105 : decode cX5_becomeLike 105 = .ok (.aload_n 1, 1) := by decide +kernel
theorem dX5_becomeLike_106 : decode cX5_becomeLike 106 = .ok (.getfield 46, 3) := by decide +kernel
theorem dX5_becomeLike_109 : decode cX5_becomeLike 109 = .ok (.putfield 46, 3) := by decide +kernel
theorem dX5_becomeLike_112 : decode cX5_becomeLike 112 = .ok (.aload_n 0, 1) := by decide +kernel
theorem dX5_becomeLike_113 : decode cX5_becomeLike 113 = .ok (.aload_n 1, 1) := by decide +kernel
theorem dX5_becomeLike_114 : decode cX5_becomeLike 114 = .ok (.getfield 49, 3) := by decide +kernel
theorem dX5_becomeLike_117 : decode cX5_becomeLike 117 = .ok (.putfield 49, 3) := by decide +kernel
theorem dX5_becomeLike_120 : decode cX5_becomeLike 120 = .ok (.aload_n 0, 1) := by decide +kernel
theorem dX5_becomeLike_121 : decode cX5_becomeLike 121 = .ok (.aload_n 1, 1) := by decide +kernel
theorem dX5_becomeLike_122 : decode cX5_becomeLike 122 = .ok (.getfield 52, 3) := by decide +kernel
theorem dX5_becomeLike_125 : decode cX5_becomeLike 125 = .ok (.putfield 52, 3) := by decide +kernel
theorem dX5_becomeLike_128 : decode cX5_becomeLike 128 = .ok (.aload_n 0, 1) := by decide +kernel
theorem dX5_becomeLike_129 : decode cX5_becomeLike 129 = .ok (.aload_n 1, 1) := by decide +kernel
theorem dX5_becomeLike_130 : decode cX5_becomeLike 130 = .ok (.getfield 55, 3) := by decide +kernel
theorem dX5_becomeLike_133 : decode cX5_becomeLike 133 = .ok (.putfield 55, 3) := by decide +kernel
theorem dX5_becomeLike_136 : decode cX5_becomeLike 136 = .ok (.return_, 1) := by decide +kernel
theorem dX5_takePeople_0 : decode cX5_takePeople 0 = .ok (.iconst 0, 1) := by decide +kernel
theorem dX5_takePeople_1 : decode cX5_takePeople 1 = .ok (.istore_n 3, 1) := by decide +kernel
theorem dX5_takePeople_2 : decode cX5_takePeople 2 = .ok (.iload_n 3, 1) := by decide +kernel
theorem dX5_takePeople_3 : decode cX5_takePeople 3 = .ok (.iload_n 2, 1) := by decide +kernel
theorem dX5_takePeople_4 : decode cX5_takePeople 4 = .ok (.if_icmp .ge 27, 3) := by decide +kernel
theorem dX5_takePeople_7 : decode cX5_takePeople 7 = .ok (.iload_n 3, 1) := by decide +kernel
theorem dX5_takePeople_8 : decode cX5_takePeople 8 = .ok (.bipush 8, 2) := by decide +kernel
theorem dX5_takePeople_10 : decode cX5_takePeople 10 = .ok (.if_icmp .ge 21, 3) := by decide +kernel
theorem dX5_takePeople_13 : decode cX5_takePeople 13 = .ok (.aload_n 0, 1) := by decide +kernel
theorem dX5_takePeople_14 : decode cX5_takePeople 14 = .ok (.getfield 11, 3) := by decide +kernel
theorem dX5_takePeople_17 : decode cX5_takePeople 17 = .ok (.iload_n 3, 1) := by decide +kernel
theorem dX5_takePeople_18 : decode cX5_takePeople 18 = .ok (.aaload, 1) := by decide +kernel
theorem dX5_takePeople_19 : decode cX5_takePeople 19 = .ok (.aload_n 1, 1) := by decide +kernel
theorem dX5_takePeople_20 : decode cX5_takePeople 20 = .ok (.iload_n 3, 1) := by decide +kernel
theorem dX5_takePeople_21 : decode cX5_takePeople 21 = .ok (.aaload, 1) := by decide +kernel
theorem dX5_takePeople_22 : decode cX5_takePeople 22 = .ok (.invokevirtual 75, 3) := by decide +kernel
theorem dX5_takePeople_25 : decode cX5_takePeople 25 = .ok (.iinc 3 1, 3) := by decide +kernel
theorem dX5_takePeople_28 : decode cX5_takePeople 28 = .ok (.goto (-26), 3) := by decide +kernel
theorem dX5_takePeople_31 : decode cX5_takePeople 31 = .ok (.aload_n 0, 1) := by decide +kernel
theorem dX5_takePeople_32 : decode cX5_takePeople 32 = .ok (.iload_n 2, 1) := by decide +kernel
theorem dX5_takePeople_33 : decode cX5_takePeople 33 = .ok (.putfield 17, 3) := by decide +kernel
theorem dX5_takePeople_36 : decode cX5_takePeople 36 = .ok (.return_, 1) := by decide +kernel
theorem dX5_hasPerson_0 : decode cX5_hasPerson 0 = .ok (.iload_n 1, 1) := by decide +kernel
theorem dX5_hasPerson_1 : decode cX5_hasPerson 1 = .ok (.ifCond .lt 15, 3) := by decide +kernel
theorem dX5_hasPerson_4 : decode cX5_hasPerson 4 = .ok (.iload_n 1, 1) := by decide +kernel
theorem dX5_hasPerson_5 : decode cX5_hasPerson 5 = .ok (.aload_n 0, 1) := by decide +kernel
theorem dX5_hasPerson_6 : decode cX5_hasPerson 6 = .ok (.getfield 17, 3) := by decide +kernel
theorem dX5_hasPerson_9 : decode cX5_hasPerson 9 = .ok (.if_icmp .ge 7, 3) := by decide +kernel
theorem dX5_hasPerson_12 : decode cX5_hasPerson 12 = .ok (.iconst 1, 1) := by decide +kernel
theorem dX5_hasPerson_13 : decode cX5_hasPerson 13 = .ok (.goto 4, 3) := by decide +kernel
theorem dX5_hasPerson_16 : decode cX5_hasPerson 16 = .ok (.iconst 0, 1) := by decide +kernel
theorem dX5_hasPerson_17 : decode cX5_hasPerson 17 = .ok (.ireturn, 1) := by decide +kernel
theorem dX5_gainAt_0 : decode cX5_gainAt 0 = .ok (.iload_n 2, 1) := by decide +kernel
theorem dX5_gainAt_1 : decode cX5_gainAt 1 = .ok (.ifCond .ge 12, 3) := by decide +kernel
theorem dX5_gainAt_4 : decode cX5_gainAt 4 = .ok (.iload_n 2, 1) := by decide +kernel
theorem dX5_gainAt_5 : decode cX5_gainAt 5 = .ok (.aload_n 0, 1) := by decide +kernel
theorem dX5_gainAt_6 : decode cX5_gainAt 6 = .ok (.getfield 31, 3) := by decide +kernel
theorem dX5_gainAt_9 : decode cX5_gainAt 9 = .ok (.iload_n 1, 1) := by decide +kernel
theorem dX5_gainAt_10 : decode cX5_gainAt 10 = .ok (.iaload, 1) := by decide +kernel
theorem dX5_gainAt_11 : decode cX5_gainAt 11 = .ok (.imul, 1) := by decide +kernel
theorem dX5_gainAt_12 : decode cX5_gainAt 12 = .ok (.ireturn, 1) := by decide +kernel
theorem dX5_gainAt_13 : decode cX5_gainAt 13 = .ok (.iconst 0, 1) := by decide +kernel
theorem dX5_gainAt_14 : decode cX5_gainAt 14 = .ok (.istore 4, 2) := by decide +kernel
theorem dX5_gainAt_16 : decode cX5_gainAt 16 = .ok (.iconst 0, 1) := by decide +kernel
theorem dX5_gainAt_17 : decode cX5_gainAt 17 = .ok (.istore 5, 2) := by decide +kernel
theorem dX5_gainAt_19 : decode cX5_gainAt 19 = .ok (.iload 5, 2) := by decide +kernel
theorem dX5_gainAt_21 : decode cX5_gainAt 21 = .ok (.aload_n 0, 1) := by decide +kernel
theorem dX5_gainAt_22 : decode cX5_gainAt 22 = .ok (.getfield 17, 3) := by decide +kernel
theorem dX5_gainAt_25 : decode cX5_gainAt 25 = .ok (.if_icmp .ge 62, 3) := by decide +kernel
theorem dX5_gainAt_28 : decode cX5_gainAt 28 = .ok (.iconst 0, 1) := by decide +kernel
theorem dX5_gainAt_29 : decode cX5_gainAt 29 = .ok (.istore 6, 2) := by decide +kernel
theorem dX5_gainAt_31 : decode cX5_gainAt 31 = .ok (.iload 6, 2) := by decide +kernel
theorem dX5_gainAt_33 : decode cX5_gainAt 33 = .ok (.iload_n 2, 1) := by decide +kernel
theorem dX5_gainAt_34 : decode cX5_gainAt 34 = .ok (.if_icmp .ge 47, 3) := by decide +kernel
theorem dX5_gainAt_37 : decode cX5_gainAt 37 = .ok (.iload 5, 2) := by decide +kernel
theorem dX5_gainAt_39 : decode cX5_gainAt 39 = .ok (.iload_n 3, 1) := by decide +kernel
theorem dX5_gainAt_40 : decode cX5_gainAt 40 = .ok (.if_icmp .eq 41, 3) := by decide +kernel
theorem dX5_gainAt_43 : decode cX5_gainAt 43 = .ok (.aload_n 0, 1) := by decide +kernel
theorem dX5_gainAt_44 : decode cX5_gainAt 44 = .ok (.getfield 11, 3) := by decide +kernel
theorem dX5_gainAt_47 : decode cX5_gainAt 47 = .ok (.iload 5, 2) := by decide +kernel
theorem dX5_gainAt_49 : decode cX5_gainAt 49 = .ok (.aaload, 1) := by decide +kernel
theorem dX5_gainAt_50 : decode cX5_gainAt 50 = .ok (.getfield 79, 3) := by decide +kernel
theorem dX5_gainAt_53 : decode cX5_gainAt 53 = .ok (.iconst 1, 1) := by decide +kernel
theorem dX5_gainAt_54 : decode cX5_gainAt 54 = .ok (.if_icmp .ne 27, 3) := by decide +kernel
theorem dX5_gainAt_57 : decode cX5_gainAt 57 = .ok (.iload 4, 2) := by decide +kernel
theorem dX5_gainAt_59 : decode cX5_gainAt 59 = .ok (.aload_n 0, 1) := by decide +kernel
theorem dX5_gainAt_60 : decode cX5_gainAt 60 = .ok (.getfield 11, 3) := by decide +kernel
theorem dX5_gainAt_63 : decode cX5_gainAt 63 = .ok (.iload 5, 2) := by decide +kernel
theorem dX5_gainAt_65 : decode cX5_gainAt 65 = .ok (.aaload, 1) := by decide +kernel
theorem dX5_gainAt_66 : decode cX5_gainAt 66 = .ok (.iload_n 1, 1) := by decide +kernel
theorem dX5_gainAt_67 : decode cX5_gainAt 67 = .ok (.iload 6, 2) := by decide +kernel
theorem dX5_gainAt_69 : decode cX5_gainAt 69 = .ok (.invokevirtual 82, 3) := by decide +kernel
theorem dX5_gainAt_72 : decode cX5_gainAt 72 = .ok (.iadd, 1) := by decide +kernel
theorem dX5_gainAt_73 : decode cX5_gainAt 73 = .ok (.istore 4, 2) := by decide +kernel
theorem dX5_gainAt_75 : decode cX5_gainAt 75 = .ok (.iinc 6 1, 3) := by decide +kernel
theorem dX5_gainAt_78 : decode cX5_gainAt 78 = .ok (.goto (-47), 3) := by decide +kernel
theorem dX5_gainAt_81 : decode cX5_gainAt 81 = .ok (.iinc 5 1, 3) := by decide +kernel
theorem dX5_gainAt_84 : decode cX5_gainAt 84 = .ok (.goto (-65), 3) := by decide +kernel
theorem dX5_gainAt_87 : decode cX5_gainAt 87 = .ok (.iload 4, 2) := by decide +kernel
theorem dX5_gainAt_89 : decode cX5_gainAt 89 = .ok (.ireturn, 1) := by decide +kernel
theorem dX5_gainOf_0 : decode cX5_gainOf 0 = .ok (.iconst 0, 1) := by decide +kernel
theorem dX5_gainOf_1 : decode cX5_gainOf 1 = .ok (.istore_n 2, 1) := by decide +kernel
theorem dX5_gainOf_2 : decode cX5_gainOf 2 = .ok (.iconst 0, 1) := by decide +kernel
theorem dX5_gainOf_3 : decode cX5_gainOf 3 = .ok (.istore_n 3, 1) := by decide +kernel
theorem dX5_gainOf_4 : decode cX5_gainOf 4 = .ok (.iload_n 3, 1) := by decide +kernel
theorem dX5_gainOf_5 : decode cX5_gainOf 5 = .ok (.bipush 24, 2) := by decide +kernel
theorem dX5_gainOf_7 : decode cX5_gainOf 7 = .ok (.if_icmp .ge 21, 3) := by decide +kernel
theorem dX5_gainOf_10 : decode cX5_gainOf 10 = .ok (.iload_n 2, 1) := by decide +kernel
theorem dX5_gainOf_11 : decode cX5_gainOf 11 = .ok (.aload_n 0, 1) := by decide +kernel
theorem dX5_gainOf_12 : decode cX5_gainOf 12 = .ok (.iload_n 3, 1) := by decide +kernel
theorem dX5_gainOf_13 : decode cX5_gainOf 13 = .ok (.aload_n 1, 1) := by decide +kernel
theorem dX5_gainOf_14 : decode cX5_gainOf 14 = .ok (.iload_n 3, 1) := by decide +kernel
theorem dX5_gainOf_15 : decode cX5_gainOf 15 = .ok (.iaload, 1) := by decide +kernel
theorem dX5_gainOf_16 : decode cX5_gainOf 16 = .ok (.iconst (-1), 1) := by decide +kernel
theorem dX5_gainOf_17 : decode cX5_gainOf 17 = .ok (.invokevirtual 86, 3) := by decide +kernel
theorem dX5_gainOf_20 : decode cX5_gainOf 20 = .ok (.iadd, 1) := by decide +kernel
theorem dX5_gainOf_21 : decode cX5_gainOf 21 = .ok (.istore_n 2, 1) := by decide +kernel
theorem dX5_gainOf_22 : decode cX5_gainOf 22 = .ok (.iinc 3 1, 3) := by decide +kernel
theorem dX5_gainOf_25 : decode cX5_gainOf 25 = .ok (.goto (-21), 3) := by decide +kernel
theorem dX5_gainOf_28 : decode cX5_gainOf 28 = .ok (.iload_n 2, 1) := by decide +kernel
theorem dX5_gainOf_29 : decode cX5_gainOf 29 = .ok (.ireturn, 1) := by decide +kernel
theorem dX5_mostLateAt_0 : decode cX5_mostLateAt 0 = .ok (.aload_n 0, 1) := by decide +kernel
theorem dX5_mostLateAt_1 : decode cX5_mostLateAt 1 = .ok (.getfield 37, 3) := by decide +kernel
theorem dX5_mostLateAt_4 : decode cX5_mostLateAt 4 = .ok (.istore_n 2, 1) := by decide +kernel
theorem dX5_mostLateAt_5 : decode cX5_mostLateAt 5 = .ok (.iconst 0, 1) := by decide +kernel
theorem dX5_mostLateAt_6 : decode cX5_mostLateAt 6 = .ok (.istore_n 3, 1) := by decide +kernel
theorem dX5_mostLateAt_7 : decode cX5_mostLateAt 7 = .ok (.iload_n 3, 1) := by decide +kernel
theorem dX5_mostLateAt_8 : decode cX5_mostLateAt 8 = .ok (.aload_n 0, 1) := by decide +kernel
theorem dX5_mostLateAt_9 : decode cX5_mostLateAt 9 = .ok (.getfield 28, 3) := by decide +kernel
theorem dX5_mostLateAt_12 : decode cX5_mostLateAt 12 = .ok (.if_icmp .ge 30, 3) := by decide +kernel
theorem dX5_mostLateAt_15 : decode cX5_mostLateAt 15 = .ok (.aload_n 0, 1) := by decide +kernel
theorem dX5_mostLateAt_16 : decode cX5_mostLateAt 16 = .ok (.getfield 21, 3) := by decide +kernel
theorem dX5_mostLateAt_19 : decode cX5_mostLateAt 19 = .ok (.iload_n 3, 1) := by decide +kernel
theorem dX5_mostLateAt_20 : decode cX5_mostLateAt 20 = .ok (.iaload, 1) := by decide +kernel
theorem dX5_mostLateAt_21 : decode cX5_mostLateAt 21 = .ok (.iload_n 1, 1) := by decide +kernel
theorem dX5_mostLateAt_22 : decode cX5_mostLateAt 22 = .ok (.if_icmp .ne 14, 3) := by decide +kernel
theorem dX5_mostLateAt_25 : decode cX5_mostLateAt 25 = .ok (.iload_n 2, 1) := by decide +kernel
theorem dX5_mostLateAt_26 : decode cX5_mostLateAt 26 = .ok (.aload_n 0, 1) := by decide +kernel
theorem dX5_mostLateAt_27 : decode cX5_mostLateAt 27 = .ok (.getfield 25, 3) := by decide +kernel
theorem dX5_mostLateAt_30 : decode cX5_mostLateAt 30 = .ok (.iload_n 3, 1) := by decide +kernel
theorem dX5_mostLateAt_31 : decode cX5_mostLateAt 31 = .ok (.iaload, 1) := by decide +kernel
theorem dX5_mostLateAt_32 : decode cX5_mostLateAt 32 = .ok (.invokestatic 90, 3) := by decide +kernel
theorem dX5_mostLateAt_35 : decode cX5_mostLateAt 35 = .ok (.istore_n 2, 1) := by decide +kernel
theorem dX5_mostLateAt_36 : decode cX5_mostLateAt 36 = .ok (.iinc 3 1, 3) := by decide +kernel
theorem dX5_mostLateAt_39 : decode cX5_mostLateAt 39 = .ok (.goto (-32), 3) := by decide +kernel
theorem dX5_mostLateAt_42 : decode cX5_mostLateAt 42 = .ok (.iload_n 2, 1) := by decide +kernel
theorem dX5_mostLateAt_43 : decode cX5_mostLateAt 43 = .ok (.ireturn, 1) := by decide +kernel
theorem dX5_missedBy_0 : decode cX5_missedBy 0 = .ok (.iconst 0, 1) := by decide +kernel
theorem dX5_missedBy_1 : decode cX5_missedBy 1 = .ok (.istore_n 2, 1) := by decide +kernel
theorem dX5_missedBy_2 : decode cX5_missedBy 2 = .ok (.iconst 0, 1) := by decide +kernel
theorem dX5_missedBy_3 : decode cX5_missedBy 3 = .ok (.istore_n 3, 1) := by decide +kernel
theorem dX5_missedBy_4 : decode cX5_missedBy 4 = .ok (.iload_n 3, 1) := by decide +kernel
theorem dX5_missedBy_5 : decode cX5_missedBy 5 = .ok (.aload_n 0, 1) := by decide +kernel
theorem dX5_missedBy_6 : decode cX5_missedBy 6 = .ok (.getfield 28, 3) := by decide +kernel
theorem dX5_missedBy_9 : decode cX5_missedBy 9 = .ok (.if_icmp .ge 34, 3) := by decide +kernel
theorem dX5_missedBy_12 : decode cX5_missedBy 12 = .ok (.aload_n 1, 1) := by decide +kernel
theorem dX5_missedBy_13 : decode cX5_missedBy 13 = .ok (.aload_n 0, 1) := by decide +kernel
theorem dX5_missedBy_14 : decode cX5_missedBy 14 = .ok (.getfield 21, 3) := by decide +kernel
theorem dX5_missedBy_17 : decode cX5_missedBy 17 = .ok (.iload_n 3, 1) := by decide +kernel
theorem dX5_missedBy_18 : decode cX5_missedBy 18 = .ok (.iaload, 1) := by decide +kernel
theorem dX5_missedBy_19 : decode cX5_missedBy 19 = .ok (.invokestatic 95, 3) := by decide +kernel
theorem dX5_missedBy_22 : decode cX5_missedBy 22 = .ok (.aload_n 0, 1) := by decide +kernel
theorem dX5_missedBy_23 : decode cX5_missedBy 23 = .ok (.getfield 25, 3) := by decide +kernel
theorem dX5_missedBy_26 : decode cX5_missedBy 26 = .ok (.iload_n 3, 1) := by decide +kernel
theorem dX5_missedBy_27 : decode cX5_missedBy 27 = .ok (.iaload, 1) := by decide +kernel
theorem dX5_missedBy_28 : decode cX5_missedBy 28 = .ok (.if_icmp .le 9, 3) := by decide +kernel
theorem dX5_missedBy_31 : decode cX5_missedBy 31 = .ok (.iload_n 2, 1) := by decide +kernel
theorem dX5_missedBy_32 : decode cX5_missedBy 32 = .ok (.iconst 1, 1) := by decide +kernel
theorem dX5_missedBy_33 : decode cX5_missedBy 33 = .ok (.iload_n 3, 1) := by decide +kernel
theorem dX5_missedBy_34 : decode cX5_missedBy 34 = .ok (.ishl, 1) := by decide +kernel
theorem dX5_missedBy_35 : decode cX5_missedBy 35 = .ok (.ior, 1) := by decide +kernel
theorem dX5_missedBy_36 : decode cX5_missedBy 36 = .ok (.istore_n 2, 1) := by decide +kernel
theorem dX5_missedBy_37 : decode cX5_missedBy 37 = .ok (.iinc 3 1, 3) := by decide +kernel
theorem dX5_missedBy_40 : decode cX5_missedBy 40 = .ok (.goto (-36), 3) := by decide +kernel
theorem dX5_missedBy_43 : decode cX5_missedBy 43 = .ok (.iload_n 2, 1) := by decide +kernel
theorem dX5_missedBy_44 : decode cX5_missedBy 44 = .ok (.ireturn, 1) := by decide +kernel
theorem dX5_firstWrong_0 : decode cX5_firstWrong 0 = .ok (.iconst 0, 1) := by decide +kernel
theorem dX5_firstWrong_1 : decode cX5_firstWrong 1 = .ok (.istore_n 2, 1) := by decide +kernel
theorem dX5_firstWrong_2 : decode cX5_firstWrong 2 = .ok (.iconst 0, 1) := by decide +kernel
theorem dX5_firstWrong_3 : decode cX5_firstWrong 3 = .ok (.istore_n 3, 1) := by decide +kernel
theorem dX5_firstWrong_4 : decode cX5_firstWrong 4 = .ok (.iload_n 3, 1) := by decide +kernel
theorem dX5_firstWrong_5 : decode cX5_firstWrong 5 = .ok (.bipush 24, 2) := by decide +kernel
theorem dX5_firstWrong_7 : decode cX5_firstWrong 7 = .ok (.if_icmp .ge 40, 3) := by decide +kernel
theorem dX5_firstWrong_10 : decode cX5_firstWrong 10 = .ok (.iload_n 2, 1) := by decide +kernel
theorem dX5_firstWrong_11 : decode cX5_firstWrong 11 = .ok (.aload_n 0, 1) := by decide +kernel
theorem dX5_firstWrong_12 : decode cX5_firstWrong 12 = .ok (.iload_n 3, 1) := by decide +kernel
theorem dX5_firstWrong_13 : decode cX5_firstWrong 13 = .ok (.invokevirtual 99, 3) := by decide +kernel
theorem dX5_firstWrong_16 : decode cX5_firstWrong 16 = .ok (.if_icmp .le 5, 3) := by decide +kernel
theorem dX5_firstWrong_19 : decode cX5_firstWrong 19 = .ok (.iload_n 3, 1) := by decide +kernel
theorem dX5_firstWrong_20 : decode cX5_firstWrong 20 = .ok (.ireturn, 1) := by decide +kernel
theorem dX5_firstWrong_21 : decode cX5_firstWrong 21 = .ok (.iload_n 2, 1) := by decide +kernel
theorem dX5_firstWrong_22 : decode cX5_firstWrong 22 = .ok (.aload_n 1, 1) := by decide +kernel
theorem dX5_firstWrong_23 : decode cX5_firstWrong 23 = .ok (.iload_n 3, 1) := by decide +kernel
theorem dX5_firstWrong_24 : decode cX5_firstWrong 24 = .ok (.iaload, 1) := by decide +kernel
theorem dX5_firstWrong_25 : decode cX5_firstWrong 25 = .ok (.iadd, 1) := by decide +kernel
theorem dX5_firstWrong_26 : decode cX5_firstWrong 26 = .ok (.istore_n 2, 1) := by decide +kernel
theorem dX5_firstWrong_27 : decode cX5_firstWrong 27 = .ok (.iload_n 2, 1) := by decide +kernel
theorem dX5_firstWrong_28 : decode cX5_firstWrong 28 = .ok (.ifCond .lt 11, 3) := by decide +kernel
theorem dX5_firstWrong_31 : decode cX5_firstWrong 31 = .ok (.iload_n 2, 1) := by decide +kernel
theorem dX5_firstWrong_32 : decode cX5_firstWrong 32 = .ok (.aload_n 0, 1) := by decide +kernel
theorem dX5_firstWrong_33 : decode cX5_firstWrong 33 = .ok (.getfield 37, 3) := by decide +kernel
theorem dX5_firstWrong_36 : decode cX5_firstWrong 36 = .ok (.if_icmp .le 5, 3) := by decide +kernel
theorem dX5_firstWrong_39 : decode cX5_firstWrong 39 = .ok (.iload_n 3, 1) := by decide +kernel
theorem dX5_firstWrong_40 : decode cX5_firstWrong 40 = .ok (.ireturn, 1) := by decide +kernel
theorem dX5_firstWrong_41 : decode cX5_firstWrong 41 = .ok (.iinc 3 1, 3) := by decide +kernel
theorem dX5_firstWrong_44 : decode cX5_firstWrong 44 = .ok (.goto (-40), 3) := by decide +kernel
theorem dX5_firstWrong_47 : decode cX5_firstWrong 47 = .ok (.bipush (-4), 2) := by decide +kernel
theorem dX5_firstWrong_49 : decode cX5_firstWrong 49 = .ok (.ireturn, 1) := by decide +kernel
theorem dX5_liveDay_0 : decode cX5_liveDay 0 = .ok (.aload_n 0, 1) := by decide +kernel
theorem dX5_liveDay_1 : decode cX5_liveDay 1 = .ok (.aload_n 1, 1) := by decide +kernel
theorem dX5_liveDay_2 : decode cX5_liveDay 2 = .ok (.invokevirtual 103, 3) := by decide +kernel
theorem dX5_liveDay_5 : decode cX5_liveDay 5 = .ok (.istore_n 2, 1) := by decide +kernel
theorem dX5_liveDay_6 : decode cX5_liveDay 6 = .ok (.aload_n 0, 1) := by decide +kernel
theorem dX5_liveDay_7 : decode cX5_liveDay 7 = .ok (.dup, 1) := by decide +kernel
theorem dX5_liveDay_8 : decode cX5_liveDay 8 = .ok (.getfield 37, 3) := by decide +kernel
theorem dX5_liveDay_11 : decode cX5_liveDay 11 = .ok (.aload_n 1, 1) := by decide +kernel
theorem dX5_liveDay_12 : decode cX5_liveDay 12 = .ok (.bipush 24, 2) := by decide +kernel
theorem dX5_liveDay_14 : decode cX5_liveDay 14 = .ok (.invokestatic 95, 3) := by decide +kernel
theorem dX5_liveDay_17 : decode cX5_liveDay 17 = .ok (.isub, 1) := by decide +kernel
theorem dX5_liveDay_18 : decode cX5_liveDay 18 = .ok (.putfield 37, 3) := by decide +kernel
theorem dX5_liveDay_21 : decode cX5_liveDay 21 = .ok (.aload_n 0, 1) := by decide +kernel
theorem dX5_liveDay_22 : decode cX5_liveDay 22 = .ok (.dup, 1) := by decide +kernel
theorem dX5_liveDay_23 : decode cX5_liveDay 23 = .ok (.getfield 52, 3) := by decide +kernel
theorem dX5_liveDay_26 : decode cX5_liveDay 26 = .ok (.iload_n 2, 1) := by decide +kernel
theorem dX5_liveDay_27 : decode cX5_liveDay 27 = .ok (.iadd, 1) := by decide +kernel
theorem dX5_liveDay_28 : decode cX5_liveDay 28 = .ok (.putfield 52, 3) := by decide +kernel
theorem dX5_liveDay_31 : decode cX5_liveDay 31 = .ok (.aload_n 0, 1) := by decide +kernel
theorem dX5_liveDay_32 : decode cX5_liveDay 32 = .ok (.dup, 1) := by decide +kernel
theorem dX5_liveDay_33 : decode cX5_liveDay 33 = .ok (.getfield 49, 3) := by decide +kernel
theorem dX5_liveDay_36 : decode cX5_liveDay 36 = .ok (.iconst 1, 1) := by decide +kernel
theorem dX5_liveDay_37 : decode cX5_liveDay 37 = .ok (.iadd, 1) := by decide +kernel
theorem dX5_liveDay_38 : decode cX5_liveDay 38 = .ok (.putfield 49, 3) := by decide +kernel
theorem dX5_liveDay_41 : decode cX5_liveDay 41 = .ok (.aload_n 0, 1) := by decide +kernel
theorem dX5_liveDay_42 : decode cX5_liveDay 42 = .ok (.getfield 40, 3) := by decide +kernel
theorem dX5_liveDay_45 : decode cX5_liveDay 45 = .ok (.ifCond .le 29, 3) := by decide +kernel
theorem dX5_liveDay_48 : decode cX5_liveDay 48 = .ok (.aload_n 0, 1) := by decide +kernel
theorem dX5_liveDay_49 : decode cX5_liveDay 49 = .ok (.getfield 49, 3) := by decide +kernel
theorem dX5_liveDay_52 : decode cX5_liveDay 52 = .ok (.aload_n 0, 1) := by decide +kernel
theorem dX5_liveDay_53 : decode cX5_liveDay 53 = .ok (.getfield 40, 3) := by decide +kernel
theorem dX5_liveDay_56 : decode cX5_liveDay 56 = .ok (.irem, 1) := by decide +kernel
theorem dX5_liveDay_57 : decode cX5_liveDay 57 = .ok (.ifCond .ne 17, 3) := by decide +kernel
theorem dX5_liveDay_60 : decode cX5_liveDay 60 = .ok (.aload_n 0, 1) := by decide +kernel
theorem dX5_liveDay_61 : decode cX5_liveDay 61 = .ok (.aload_n 0, 1) := by decide +kernel
theorem dX5_liveDay_62 : decode cX5_liveDay 62 = .ok (.getfield 37, 3) := by decide +kernel
theorem dX5_liveDay_65 : decode cX5_liveDay 65 = .ok (.iconst 1, 1) := by decide +kernel
theorem dX5_liveDay_66 : decode cX5_liveDay 66 = .ok (.isub, 1) := by decide +kernel
theorem dX5_liveDay_67 : decode cX5_liveDay 67 = .ok (.iconst 0, 1) := by decide +kernel
theorem dX5_liveDay_68 : decode cX5_liveDay 68 = .ok (.invokestatic 107, 3) := by decide +kernel
theorem dX5_liveDay_71 : decode cX5_liveDay 71 = .ok (.putfield 37, 3) := by decide +kernel
theorem dX5_liveDay_74 : decode cX5_liveDay 74 = .ok (.aload_n 0, 1) := by decide +kernel
theorem dX5_liveDay_75 : decode cX5_liveDay 75 = .ok (.getfield 43, 3) := by decide +kernel
theorem dX5_liveDay_78 : decode cX5_liveDay 78 = .ok (.ifCond .le 33, 3) := by decide +kernel
theorem dX5_liveDay_81 : decode cX5_liveDay 81 = .ok (.aload_n 0, 1) := by decide +kernel
theorem dX5_liveDay_82 : decode cX5_liveDay 82 = .ok (.getfield 49, 3) := by decide +kernel
theorem dX5_liveDay_85 : decode cX5_liveDay 85 = .ok (.aload_n 0, 1) := by decide +kernel
theorem dX5_liveDay_86 : decode cX5_liveDay 86 = .ok (.getfield 43, 3) := by decide +kernel
theorem dX5_liveDay_89 : decode cX5_liveDay 89 = .ok (.irem, 1) := by decide +kernel
theorem dX5_liveDay_90 : decode cX5_liveDay 90 = .ok (.ifCond .ne 21, 3) := by decide +kernel
theorem dX5_liveDay_93 : decode cX5_liveDay 93 = .ok (.aload_n 0, 1) := by decide +kernel
theorem dX5_liveDay_94 : decode cX5_liveDay 94 = .ok (.aload_n 0, 1) := by decide +kernel
theorem dX5_liveDay_95 : decode cX5_liveDay 95 = .ok (.getfield 37, 3) := by decide +kernel
theorem dX5_liveDay_98 : decode cX5_liveDay 98 = .ok (.aload_n 0, 1) := by decide +kernel
theorem dX5_liveDay_99 : decode cX5_liveDay 99 = .ok (.getfield 46, 3) := by decide +kernel
theorem dX5_liveDay_102 : decode cX5_liveDay 102 = .ok (.iadd, 1) := by decide +kernel
theorem dX5_liveDay_103 : decode cX5_liveDay 103 = .ok (.bipush 99, 2) := by decide +kernel
theorem dX5_liveDay_105 : decode cX5_liveDay 105 = .ok (.invokestatic 90, 3) := by decide +kernel
theorem dX5_liveDay_108 : decode cX5_liveDay 108 = .ok (.putfield 37, 3) := by decide +kernel
theorem dX5_liveDay_111 : decode cX5_liveDay 111 = .ok (.iload_n 2, 1) := by decide +kernel
theorem dX5_liveDay_112 : decode cX5_liveDay 112 = .ok (.ireturn, 1) := by decide +kernel
theorem dX5_votesFor_0 : decode cX5_votesFor 0 = .ok (.iconst 0, 1) := by decide +kernel
theorem dX5_votesFor_1 : decode cX5_votesFor 1 = .ok (.istore_n 3, 1) := by decide +kernel
theorem dX5_votesFor_2 : decode cX5_votesFor 2 = .ok (.iconst 0, 1) := by decide +kernel
theorem dX5_votesFor_3 : decode cX5_votesFor 3 = .ok (.istore 4, 2) := by decide +kernel
theorem dX5_votesFor_5 : decode cX5_votesFor 5 = .ok (.iload 4, 2) := by decide +kernel
theorem dX5_votesFor_7 : decode cX5_votesFor 7 = .ok (.aload_n 0, 1) := by decide +kernel
theorem dX5_votesFor_8 : decode cX5_votesFor 8 = .ok (.getfield 17, 3) := by decide +kernel
theorem dX5_votesFor_11 : decode cX5_votesFor 11 = .ok (.if_icmp .ge 75, 3) := by decide +kernel
theorem dX5_votesFor_14 : decode cX5_votesFor 14 = .ok (.aload_n 0, 1) := by decide +kernel
theorem dX5_votesFor_15 : decode cX5_votesFor 15 = .ok (.getfield 11, 3) := by decide +kernel
theorem dX5_votesFor_18 : decode cX5_votesFor 18 = .ok (.iload 4, 2) := by decide +kernel
theorem dX5_votesFor_20 : decode cX5_votesFor 20 = .ok (.aaload, 1) := by decide +kernel
theorem dX5_votesFor_21 : decode cX5_votesFor 21 = .ok (.astore 5, 2) := by decide +kernel
theorem dX5_votesFor_23 : decode cX5_votesFor 23 = .ok (.iload_n 2, 1) := by decide +kernel
theorem dX5_votesFor_24 : decode cX5_votesFor 24 = .ok (.iconst 2, 1) := by decide +kernel
theorem dX5_votesFor_25 : decode cX5_votesFor 25 = .ok (.if_icmp .ne 29, 3) := by decide +kernel
theorem dX5_votesFor_28 : decode cX5_votesFor 28 = .ok (.iload_n 3, 1) := by decide +kernel
theorem dX5_votesFor_29 : decode cX5_votesFor 29 = .ok (.aload 5, 2) := by decide +kernel
theorem dX5_votesFor_31 : decode cX5_votesFor 31 = .ok (.getfield 79, 3) := by decide +kernel
theorem dX5_votesFor_34 : decode cX5_votesFor 34 = .ok (.iconst 1, 1) := by decide +kernel
theorem dX5_votesFor_35 : decode cX5_votesFor 35 = .ok (.if_icmp .ne 13, 3) := by decide +kernel
theorem dX5_votesFor_38 : decode cX5_votesFor 38 = .ok (.aload 5, 2) := by decide +kernel
theorem dX5_votesFor_40 : decode cX5_votesFor 40 = .ok (.iload_n 1, 1) := by decide +kernel
theorem dX5_votesFor_41 : decode cX5_votesFor 41 = .ok (.iconst 0, 1) := by decide +kernel
theorem dX5_votesFor_42 : decode cX5_votesFor 42 = .ok (.invokevirtual 82, 3) := by decide +kernel
theorem dX5_votesFor_45 : decode cX5_votesFor 45 = .ok (.goto 4, 3) := by decide +kernel
theorem dX5_votesFor_48 : decode cX5_votesFor 48 = .ok (.iconst 0, 1) := by decide +kernel
theorem dX5_votesFor_49 : decode cX5_votesFor 49 = .ok (.iadd, 1) := by decide +kernel
theorem dX5_votesFor_50 : decode cX5_votesFor 50 = .ok (.istore_n 3, 1) := by decide +kernel
theorem dX5_votesFor_51 : decode cX5_votesFor 51 = .ok (.goto 29, 3) := by decide +kernel
theorem dX5_votesFor_54 : decode cX5_votesFor 54 = .ok (.aload 5, 2) := by decide +kernel
theorem dX5_votesFor_56 : decode cX5_votesFor 56 = .ok (.invokevirtual 110, 3) := by decide +kernel
theorem dX5_votesFor_59 : decode cX5_votesFor 59 = .ok (.iload_n 1, 1) := by decide +kernel
theorem dX5_votesFor_60 : decode cX5_votesFor 60 = .ok (.if_icmp .ne 20, 3) := by decide +kernel
theorem dX5_votesFor_63 : decode cX5_votesFor 63 = .ok (.iload_n 3, 1) := by decide +kernel
theorem dX5_votesFor_64 : decode cX5_votesFor 64 = .ok (.iload_n 2, 1) := by decide +kernel
theorem dX5_votesFor_65 : decode cX5_votesFor 65 = .ok (.iconst 1, 1) := by decide +kernel
theorem dX5_votesFor_66 : decode cX5_votesFor 66 = .ok (.if_icmp .ne 11, 3) := by decide +kernel
theorem dX5_votesFor_69 : decode cX5_votesFor 69 = .ok (.aload 5, 2) := by decide +kernel
theorem dX5_votesFor_71 : decode cX5_votesFor 71 = .ok (.getfield 114, 3) := by decide +kernel
theorem dX5_votesFor_74 : decode cX5_votesFor 74 = .ok (.goto 4, 3) := by decide +kernel
theorem dX5_votesFor_77 : decode cX5_votesFor 77 = .ok (.iconst 1, 1) := by decide +kernel
theorem dX5_votesFor_78 : decode cX5_votesFor 78 = .ok (.iadd, 1) := by decide +kernel
theorem dX5_votesFor_79 : decode cX5_votesFor 79 = .ok (.istore_n 3, 1) := by decide +kernel
theorem dX5_votesFor_80 : decode cX5_votesFor 80 = .ok (.iinc 4 1, 3) := by decide +kernel
theorem dX5_votesFor_83 : decode cX5_votesFor 83 = .ok (.goto (-78), 3) := by decide +kernel
theorem dX5_votesFor_86 : decode cX5_votesFor 86 = .ok (.iload_n 3, 1) := by decide +kernel
theorem dX5_votesFor_87 : decode cX5_votesFor 87 = .ok (.ireturn, 1) := by decide +kernel
theorem dX5_drawPlan_0 : decode cX5_drawPlan 0 = .ok (.iconst 0, 1) := by decide +kernel
theorem dX5_drawPlan_1 : decode cX5_drawPlan 1 = .ok (.istore_n 2, 1) := by decide +kernel
theorem dX5_drawPlan_2 : decode cX5_drawPlan 2 = .ok (.iconst 0, 1) := by decide +kernel
theorem dX5_drawPlan_3 : decode cX5_drawPlan 3 = .ok (.istore_n 3, 1) := by decide +kernel
theorem dX5_drawPlan_4 : decode cX5_drawPlan 4 = .ok (.iload_n 3, 1) := by decide +kernel
theorem dX5_drawPlan_5 : decode cX5_drawPlan 5 = .ok (.bipush 24, 2) := by decide +kernel
theorem dX5_drawPlan_7 : decode cX5_drawPlan 7 = .ok (.if_icmp .ge 84, 3) := by decide +kernel
theorem dX5_drawPlan_10 : decode cX5_drawPlan 10 = .ok (.aload_n 0, 1) := by decide +kernel
theorem dX5_drawPlan_11 : decode cX5_drawPlan 11 = .ok (.aload_n 0, 1) := by decide +kernel
theorem dX5_drawPlan_12 : decode cX5_drawPlan 12 = .ok (.getfield 55, 3) := by decide +kernel
theorem dX5_drawPlan_15 : decode cX5_drawPlan 15 = .ok (.i2l, 1) := by decide +kernel
theorem dX5_drawPlan_16 : decode cX5_drawPlan 16 = .ok (.ldc2_w 117, 3) := by decide +kernel
theorem dX5_drawPlan_19 : decode cX5_drawPlan 19 = .ok (.lmul, 1) := by decide +kernel
theorem dX5_drawPlan_20 : decode cX5_drawPlan 20 = .ok (.ldc2_w 119, 3) := by decide +kernel
theorem dX5_drawPlan_23 : decode cX5_drawPlan 23 = .ok (.ladd, 1) := by decide +kernel
theorem dX5_drawPlan_24 : decode cX5_drawPlan 24 = .ok (.ldc2_w 121, 3) := by decide +kernel
theorem dX5_drawPlan_27 : decode cX5_drawPlan 27 = .ok (.land, 1) := by decide +kernel
theorem dX5_drawPlan_28 : decode cX5_drawPlan 28 = .ok (.l2i, 1) := by decide +kernel
theorem dX5_drawPlan_29 : decode cX5_drawPlan 29 = .ok (.putfield 55, 3) := by decide +kernel
theorem dX5_drawPlan_32 : decode cX5_drawPlan 32 = .ok (.aload_n 0, 1) := by decide +kernel
theorem dX5_drawPlan_33 : decode cX5_drawPlan 33 = .ok (.getfield 55, 3) := by decide +kernel
theorem dX5_drawPlan_36 : decode cX5_drawPlan 36 = .ok (.ldc 123, 2) := by decide +kernel
theorem dX5_drawPlan_38 : decode cX5_drawPlan 38 = .ok (.idiv, 1) := by decide +kernel
theorem dX5_drawPlan_39 : decode cX5_drawPlan 39 = .ok (.bipush 8, 2) := by decide +kernel
theorem dX5_drawPlan_41 : decode cX5_drawPlan 41 = .ok (.irem, 1) := by decide +kernel
theorem dX5_drawPlan_42 : decode cX5_drawPlan 42 = .ok (.bipush (-2), 2) := by decide +kernel
theorem dX5_drawPlan_44 : decode cX5_drawPlan 44 = .ok (.iadd, 1) := by decide +kernel
theorem dX5_drawPlan_45 : decode cX5_drawPlan 45 = .ok (.istore 4, 2) := by decide +kernel
theorem dX5_drawPlan_47 : decode cX5_drawPlan 47 = .ok (.iload_n 2, 1) := by decide +kernel
theorem dX5_drawPlan_48 : decode cX5_drawPlan 48 = .ok (.iload 4, 2) := by decide +kernel
theorem dX5_drawPlan_50 : decode cX5_drawPlan 50 = .ok (.iadd, 1) := by decide +kernel
theorem dX5_drawPlan_51 : decode cX5_drawPlan 51 = .ok (.istore 5, 2) := by decide +kernel
theorem dX5_drawPlan_53 : decode cX5_drawPlan 53 = .ok (.aload_n 1, 1) := by decide +kernel
theorem dX5_drawPlan_54 : decode cX5_drawPlan 54 = .ok (.iload_n 3, 1) := by decide +kernel
theorem dX5_drawPlan_55 : decode cX5_drawPlan 55 = .ok (.iload 5, 2) := by decide +kernel
theorem dX5_drawPlan_57 : decode cX5_drawPlan 57 = .ok (.ifCond .lt 20, 3) := by decide +kernel
theorem dX5_drawPlan_60 : decode cX5_drawPlan 60 = .ok (.iload 5, 2) := by decide +kernel
theorem dX5_drawPlan_62 : decode cX5_drawPlan 62 = .ok (.aload_n 0, 1) := by decide +kernel
theorem dX5_drawPlan_63 : decode cX5_drawPlan 63 = .ok (.iload_n 3, 1) := by decide +kernel
theorem dX5_drawPlan_64 : decode cX5_drawPlan 64 = .ok (.iconst 1, 1) := by decide +kernel
theorem dX5_drawPlan_65 : decode cX5_drawPlan 65 = .ok (.iadd, 1) := by decide +kernel
theorem dX5_drawPlan_66 : decode cX5_drawPlan 66 = .ok (.invokevirtual 99, 3) := by decide +kernel
theorem dX5_drawPlan_69 : decode cX5_drawPlan 69 = .ok (.if_icmp .gt 8, 3) := by decide +kernel
theorem dX5_drawPlan_72 : decode cX5_drawPlan 72 = .ok (.iload 4, 2) := by decide +kernel
theorem dX5_drawPlan_74 : decode cX5_drawPlan 74 = .ok (.goto 4, 3) := by decide +kernel
theorem dX5_drawPlan_77 : decode cX5_drawPlan 77 = .ok (.iconst 0, 1) := by decide +kernel
theorem dX5_drawPlan_78 : decode cX5_drawPlan 78 = .ok (.iastore, 1) := by decide +kernel
theorem dX5_drawPlan_79 : decode cX5_drawPlan 79 = .ok (.iload_n 2, 1) := by decide +kernel
theorem dX5_drawPlan_80 : decode cX5_drawPlan 80 = .ok (.aload_n 1, 1) := by decide +kernel
theorem dX5_drawPlan_81 : decode cX5_drawPlan 81 = .ok (.iload_n 3, 1) := by decide +kernel
theorem dX5_drawPlan_82 : decode cX5_drawPlan 82 = .ok (.iaload, 1) := by decide +kernel
theorem dX5_drawPlan_83 : decode cX5_drawPlan 83 = .ok (.iadd, 1) := by decide +kernel
theorem dX5_drawPlan_84 : decode cX5_drawPlan 84 = .ok (.istore_n 2, 1) := by decide +kernel
theorem dX5_drawPlan_85 : decode cX5_drawPlan 85 = .ok (.iinc 3 1, 3) := by decide +kernel
theorem dX5_drawPlan_88 : decode cX5_drawPlan 88 = .ok (.goto (-84), 3) := by decide +kernel
theorem dX5_drawPlan_91 : decode cX5_drawPlan 91 = .ok (.aload_n 0, 1) := by decide +kernel
theorem dX5_drawPlan_92 : decode cX5_drawPlan 92 = .ok (.aload_n 1, 1) := by decide +kernel
theorem dX5_drawPlan_93 : decode cX5_drawPlan 93 = .ok (.invokevirtual 124, 3) := by decide +kernel
theorem dX5_drawPlan_96 : decode cX5_drawPlan 96 = .ok (.bipush (-4), 2) := by decide +kernel
theorem dX5_drawPlan_98 : decode cX5_drawPlan 98 = .ok (.if_icmp .eq 8, 3) := by decide +kernel
theorem dX5_drawPlan_101 : decode cX5_drawPlan 101 = .ok (.aload_n 1, 1) := by decide +kernel
theorem dX5_drawPlan_102 : decode cX5_drawPlan 102 = .ok (.iconst 0, 1) := by decide +kernel
theorem dX5_drawPlan_103 : decode cX5_drawPlan 103 = .ok (.invokestatic 59, 3) := by decide +kernel
theorem dX5_drawPlan_106 : decode cX5_drawPlan 106 = .ok (.return_, 1) := by decide +kernel
theorem dX6_init_0 : decode cX6_init 0 = .ok (.aload_n 0, 1) := by decide +kernel
theorem dX6_init_1 : decode cX6_init 1 = .ok (.invokespecial 3, 3) := by decide +kernel
theorem dX6_init_4 : decode cX6_init 4 = .ok (.aload_n 0, 1) := by decide +kernel
theorem dX6_init_5 : decode cX6_init 5 = .ok (.new 9, 3) := by decide +kernel
theorem dX6_init_8 : decode cX6_init 8 = .ok (.dup, 1) := by decide +kernel
theorem dX6_init_9 : decode cX6_init 9 = .ok (.invokespecial 11, 3) := by decide +kernel
theorem dX6_init_12 : decode cX6_init 12 = .ok (.putfield 12, 3) := by decide +kernel
theorem dX6_init_15 : decode cX6_init 15 = .ok (.aload_n 0, 1) := by decide +kernel
theorem dX6_init_16 : decode cX6_init 16 = .ok (.new 9, 3) := by decide +kernel
theorem dX6_init_19 : decode cX6_init 19 = .ok (.dup, 1) := by decide +kernel
theorem dX6_init_20 : decode cX6_init 20 = .ok (.invokespecial 11, 3) := by decide +kernel
theorem dX6_init_23 : decode cX6_init 23 = .ok (.putfield 16, 3) := by decide +kernel
theorem dX6_init_26 : decode cX6_init 26 = .ok (.aload_n 0, 1) := by decide +kernel
theorem dX6_init_27 : decode cX6_init 27 = .ok (.iconst 0, 1) := by decide +kernel
theorem dX6_init_28 : decode cX6_init 28 = .ok (.putfield 19, 3) := by decide +kernel
theorem dX6_init_31 : decode cX6_init 31 = .ok (.aload_n 0, 1) := by decide +kernel
theorem dX6_init_32 : decode cX6_init 32 = .ok (.new 23, 3) := by decide +kernel
theorem dX6_init_35 : decode cX6_init 35 = .ok (.dup, 1) := by decide +kernel
theorem dX6_init_36 : decode cX6_init 36 = .ok (.invokespecial 25, 3) := by decide +kernel
theorem dX6_init_39 : decode cX6_init 39 = .ok (.putfield 26, 3) := by decide +kernel
theorem dX6_init_42 : decode cX6_init 42 = .ok (.aload_n 0, 1) := by decide +kernel
theorem dX6_init_43 : decode cX6_init 43 = .ok (.new 30, 3) := by decide +kernel
theorem dX6_init_46 : decode cX6_init 46 = .ok (.dup, 1) := by decide +kernel
theorem dX6_init_47 : decode cX6_init 47 = .ok (.invokespecial 32, 3) := by decide +kernel
theorem dX6_init_50 : decode cX6_init 50 = .ok (.putfield 33, 3) := by decide +kernel
theorem dX6_init_53 : decode cX6_init 53 = .ok (.aload_n 0, 1) := by decide +kernel
theorem dX6_init_54 : decode cX6_init 54 = .ok (.new 37, 3) := by decide +kernel
theorem dX6_init_57 : decode cX6_init 57 = .ok (.dup, 1) := by decide +kernel
theorem dX6_init_58 : decode cX6_init 58 = .ok (.invokespecial 39, 3) := by decide +kernel
theorem dX6_init_61 : decode cX6_init 61 = .ok (.putfield 40, 3) := by decide +kernel
theorem dX6_init_64 : decode cX6_init 64 = .ok (.aload_n 0, 1) := by decide +kernel
theorem dX6_init_65 : decode cX6_init 65 = .ok (.iconst 4, 1) := by decide +kernel
theorem dX6_init_66 : decode cX6_init 66 = .ok (.anewarray 44, 3) := by decide +kernel
theorem dX6_init_69 : decode cX6_init 69 = .ok (.putfield 46, 3) := by decide +kernel
theorem dX6_init_72 : decode cX6_init 72 = .ok (.aload_n 0, 1) := by decide +kernel
theorem dX6_init_73 : decode cX6_init 73 = .ok (.bipush 24, 2) := by decide +kernel
theorem dX6_init_75 : decode cX6_init 75 = .ok (.newarray .int, 2) := by decide +kernel
theorem dX6_init_77 : decode cX6_init 77 = .ok (.putfield 50, 3) := by decide +kernel
theorem dX6_init_80 : decode cX6_init 80 = .ok (.iconst 0, 1) := by decide +kernel
theorem dX6_init_81 : decode cX6_init 81 = .ok (.istore_n 1, 1) := by decide +kernel
theorem dX6_init_82 : decode cX6_init 82 = .ok (.iload_n 1, 1) := by decide +kernel
theorem dX6_init_83 : decode cX6_init 83 = .ok (.iconst 4, 1) := by decide +kernel
theorem dX6_init_84 : decode cX6_init 84 = .ok (.if_icmp .ge 22, 3) := by decide +kernel
theorem dX6_init_87 : decode cX6_init 87 = .ok (.aload_n 0, 1) := by decide +kernel
theorem dX6_init_88 : decode cX6_init 88 = .ok (.getfield 46, 3) := by decide +kernel
theorem dX6_init_91 : decode cX6_init 91 = .ok (.iload_n 1, 1) := by decide +kernel
theorem dX6_init_92 : decode cX6_init 92 = .ok (.new 44, 3) := by decide +kernel
theorem dX6_init_95 : decode cX6_init 95 = .ok (.dup, 1) := by decide +kernel
theorem dX6_init_96 : decode cX6_init 96 = .ok (.invokespecial 54, 3) := by decide +kernel
theorem dX6_init_99 : decode cX6_init 99 = .ok (.aastore, 1) := by decide +kernel
theorem dX6_init_100 : decode cX6_init 100 = .ok (.iinc 1 1, 3) := by decide +kernel
theorem dX6_init_103 : decode cX6_init 103 = .ok (.goto (-21), 3) := by decide +kernel
theorem dX6_init_106 : decode cX6_init 106 = .ok (.return_, 1) := by decide +kernel
theorem dX6_person_0 : decode cX6_person 0 = .ok (.iload_n 1, 1) := by decide +kernel
theorem dX6_person_1 : decode cX6_person 1 = .ok (.ifCond .lt 24, 3) := by decide +kernel
theorem dX6_person_4 : decode cX6_person 4 = .ok (.iload_n 1, 1) := by decide +kernel
theorem dX6_person_5 : decode cX6_person 5 = .ok (.iconst 3, 1) := by decide +kernel
theorem dX6_person_6 : decode cX6_person 6 = .ok (.if_icmp .gt 19, 3) := by decide +kernel
theorem dX6_person_9 : decode cX6_person 9 = .ok (.iload_n 2, 1) := by decide +kernel
theorem dX6_person_10 : decode cX6_person 10 = .ok (.invokestatic 55, 3) := by decide +kernel
theorem dX6_person_13 : decode cX6_person 13 = .ok (.ifCond .eq 12, 3) := by decide +kernel
theorem dX6_person_16 : decode cX6_person 16 = .ok (.iload_n 3, 1) := by decide +kernel
theorem dX6_person_17 : decode cX6_person 17 = .ok (.bipush 99, 2) := by decide +kernel
theorem dX6_person_19 : decode cX6_person 19 = .ok (.invokestatic 59, 3) := by decide +kernel
theorem dX6_person_22 : decode cX6_person 22 = .ok (.ifCond .ne 5, 3) := by decide +kernel
theorem dX6_person_25 : decode cX6_person 25 = .ok (.iconst (-1), 1) := by decide +kernel
theorem dX6_person_26 : decode cX6_person 26 = .ok (.ireturn, 1) := by decide +kernel
theorem dX6_person_27 : decode cX6_person 27 = .ok (.aload_n 0, 1) := by decide +kernel
theorem dX6_person_28 : decode cX6_person 28 = .ok (.getfield 12, 3) := by decide +kernel
theorem dX6_person_31 : decode cX6_person 31 = .ok (.getfield 63, 3) := by decide +kernel
theorem dX6_person_34 : decode cX6_person 34 = .ok (.bipush 8, 2) := by decide +kernel
theorem dX6_person_36 : decode cX6_person 36 = .ok (.if_icmp .lt 6, 3) := by decide +kernel
theorem dX6_person_39 : decode cX6_person 39 = .ok (.bipush (-3), 2) := by decide +kernel
theorem dX6_person_41 : decode cX6_person 41 = .ok (.ireturn, 1) := by decide +kernel
theorem dX6_person_42 : decode cX6_person 42 = .ok (.aload_n 0, 1) := by decide +kernel
theorem dX6_person_43 : decode cX6_person 43 = .ok (.getfield 12, 3) := by decide +kernel
theorem dX6_person_46 : decode cX6_person 46 = .ok (.getfield 67, 3) := by decide +kernel
theorem dX6_person_49 : decode cX6_person 49 = .ok (.aload_n 0, 1) := by decide +kernel
theorem dX6_person_50 : decode cX6_person 50 = .ok (.getfield 12, 3) := by decide +kernel
theorem dX6_person_53 : decode cX6_person 53 = .ok (.getfield 63, 3) := by decide +kernel
theorem dX6_person_56 : decode cX6_person 56 = .ok (.aaload, 1) := by decide +kernel
theorem dX6_person_57 : decode cX6_person 57 = .ok (.iload_n 1, 1) := by decide +kernel
theorem dX6_person_58 : decode cX6_person 58 = .ok (.iload_n 2, 1) := by decide +kernel
theorem dX6_person_59 : decode cX6_person 59 = .ok (.iload_n 3, 1) := by decide +kernel
theorem dX6_person_60 : decode cX6_person 60 = .ok (.iconst 1, 1) := by decide +kernel
theorem dX6_person_61 : decode cX6_person 61 = .ok (.invokevirtual 71, 3) := by decide +kernel
theorem dX6_person_64 : decode cX6_person 64 = .ok (.aload_n 0, 1) := by decide +kernel
theorem dX6_person_65 : decode cX6_person 65 = .ok (.getfield 12, 3) := by decide +kernel
theorem dX6_person_68 : decode cX6_person 68 = .ok (.dup, 1) := by decide +kernel
theorem dX6_person_69 : decode cX6_person 69 = .ok (.getfield 63, 3) := by decide +kernel
theorem dX6_person_72 : decode cX6_person 72 = .ok (.iconst 1, 1) := by decide +kernel
theorem dX6_person_73 : decode cX6_person 73 = .ok (.iadd, 1) := by decide +kernel
theorem dX6_person_74 : decode cX6_person 74 = .ok (.putfield 63, 3) := by decide +kernel
theorem dX6_person_77 : decode cX6_person 77 = .ok (.aload_n 0, 1) := by decide +kernel
theorem dX6_person_78 : decode cX6_person 78 = .ok (.getfield 12, 3) := by decide +kernel
theorem dX6_person_81 : decode cX6_person 81 = .ok (.getfield 63, 3) := by decide +kernel
theorem dX6_person_84 : decode cX6_person 84 = .ok (.iconst 1, 1) := by decide +kernel
theorem dX6_person_85 : decode cX6_person 85 = .ok (.isub, 1) := by decide +kernel
theorem dX6_person_86 : decode cX6_person 86 = .ok (.ireturn, 1) := by decide +kernel
theorem dX6_may_0 : decode cX6_may 0 = .ok (.aload_n 0, 1) := by decide +kernel
theorem dX6_may_1 : decode cX6_may 1 = .ok (.getfield 12, 3) := by decide +kernel
theorem dX6_may_4 : decode cX6_may 4 = .ok (.iload_n 1, 1) := by decide +kernel
theorem dX6_may_5 : decode cX6_may 5 = .ok (.invokevirtual 77, 3) := by decide +kernel
theorem dX6_may_8 : decode cX6_may 8 = .ok (.ifCond .eq 11, 3) := by decide +kernel
theorem dX6_may_11 : decode cX6_may 11 = .ok (.iload_n 2, 1) := by decide +kernel
theorem dX6_may_12 : decode cX6_may 12 = .ok (.iconst 1, 1) := by decide +kernel
theorem dX6_may_13 : decode cX6_may 13 = .ok (.invokestatic 59, 3) := by decide +kernel
theorem dX6_may_16 : decode cX6_may 16 = .ok (.ifCond .ne 5, 3) := by decide +kernel
theorem dX6_may_19 : decode cX6_may 19 = .ok (.iconst (-1), 1) := by decide +kernel
theorem dX6_may_20 : decode cX6_may 20 = .ok (.ireturn, 1) := by decide +kernel
theorem dX6_may_21 : decode cX6_may 21 = .ok (.aload_n 0, 1) := by decide +kernel
theorem dX6_may_22 : decode cX6_may 22 = .ok (.getfield 12, 3) := by decide +kernel
theorem dX6_may_25 : decode cX6_may 25 = .ok (.getfield 67, 3) := by decide +kernel
theorem dX6_may_28 : decode cX6_may 28 = .ok (.iload_n 1, 1) := by decide +kernel
theorem dX6_may_29 : decode cX6_may 29 = .ok (.aaload, 1) := by decide +kernel
theorem dX6_may_30 : decode cX6_may 30 = .ok (.getfield 80, 3) := by decide +kernel
theorem dX6_may_33 : decode cX6_may 33 = .ok (.istore_n 3, 1) := by decide +kernel
theorem dX6_may_34 : decode cX6_may 34 = .ok (.aload_n 0, 1) := by decide +kernel
theorem dX6_may_35 : decode cX6_may 35 = .ok (.getfield 12, 3) := by decide +kernel
theorem dX6_may_38 : decode cX6_may 38 = .ok (.getfield 67, 3) := by decide +kernel
theorem dX6_may_41 : decode cX6_may 41 = .ok (.iload_n 1, 1) := by decide +kernel
theorem dX6_may_42 : decode cX6_may 42 = .ok (.aaload, 1) := by decide +kernel
theorem dX6_may_43 : decode cX6_may 43 = .ok (.iload_n 2, 1) := by decide +kernel
theorem dX6_may_44 : decode cX6_may 44 = .ok (.putfield 80, 3) := by decide +kernel
theorem dX6_may_47 : decode cX6_may 47 = .ok (.iload_n 3, 1) := by decide +kernel
theorem dX6_may_48 : decode cX6_may 48 = .ok (.ireturn, 1) := by decide +kernel
theorem dX6_told_0 : decode cX6_told 0 = .ok (.aload_n 0, 1) := by decide +kernel
theorem dX6_told_1 : decode cX6_told 1 = .ok (.getfield 12, 3) := by decide +kernel
theorem dX6_told_4 : decode cX6_told 4 = .ok (.iload_n 1, 1) := by decide +kernel
theorem dX6_told_5 : decode cX6_told 5 = .ok (.invokevirtual 77, 3) := by decide +kernel
theorem dX6_told_8 : decode cX6_told 8 = .ok (.ifCond .ne 5, 3) := by decide +kernel
theorem dX6_told_11 : decode cX6_told 11 = .ok (.iconst (-1), 1) := by decide +kernel
theorem dX6_told_12 : decode cX6_told 12 = .ok (.ireturn, 1) := by decide +kernel
theorem dX6_told_13 : decode cX6_told 13 = .ok (.aload_n 0, 1) := by decide +kernel
theorem dX6_told_14 : decode cX6_told 14 = .ok (.getfield 12, 3) := by decide +kernel
theorem dX6_told_17 : decode cX6_told 17 = .ok (.getfield 67, 3) := by decide +kernel
theorem dX6_told_20 : decode cX6_told 20 = .ok (.iload_n 1, 1) := by decide +kernel
theorem dX6_told_21 : decode cX6_told 21 = .ok (.aaload, 1) := by decide +kernel
theorem dX6_told_22 : decode cX6_told 22 = .ok (.astore_n 3, 1) := by decide +kernel
theorem dX6_told_23 : decode cX6_told 23 = .ok (.iload_n 2, 1) := by decide +kernel
theorem dX6_told_24 : decode cX6_told 24 = .ok (.tableswitch 52 0 3 #[32, 37, 42, 47], 32) := by decide +kernel
theorem dX6_told_56 : decode cX6_told 56 = .ok (.aload_n 3, 1) := by decide +kernel
theorem dX6_told_57 : decode cX6_told 57 = .ok (.getfield 83, 3) := by decide +kernel
theorem dX6_told_60 : decode cX6_told 60 = .ok (.ireturn, 1) := by decide +kernel
theorem dX6_told_61 : decode cX6_told 61 = .ok (.aload_n 3, 1) := by decide +kernel
theorem dX6_told_62 : decode cX6_told 62 = .ok (.getfield 86, 3) := by decide +kernel
theorem dX6_told_65 : decode cX6_told 65 = .ok (.ireturn, 1) := by decide +kernel
theorem dX6_told_66 : decode cX6_told 66 = .ok (.aload_n 3, 1) := by decide +kernel
theorem dX6_told_67 : decode cX6_told 67 = .ok (.getfield 89, 3) := by decide +kernel
theorem dX6_told_70 : decode cX6_told 70 = .ok (.ireturn, 1) := by decide +kernel
theorem dX6_told_71 : decode cX6_told 71 = .ok (.aload_n 3, 1) := by decide +kernel
theorem dX6_told_72 : decode cX6_told 72 = .ok (.getfield 80, 3) := by decide +kernel
theorem dX6_told_75 : decode cX6_told 75 = .ok (.ireturn, 1) := by decide +kernel
theorem dX6_told_76 : decode cX6_told 76 = .ok (.iconst (-1), 1) := by decide +kernel
theorem dX6_told_77 : decode cX6_told 77 = .ok (.ireturn, 1) := by decide +kernel
theorem dX6_worth_0 : decode cX6_worth 0 = .ok (.aload_n 0, 1) := by decide +kernel
theorem dX6_worth_1 : decode cX6_worth 1 = .ok (.getfield 12, 3) := by decide +kernel
theorem dX6_worth_4 : decode cX6_worth 4 = .ok (.iload_n 1, 1) := by decide +kernel
theorem dX6_worth_5 : decode cX6_worth 5 = .ok (.invokevirtual 77, 3) := by decide +kernel
theorem dX6_worth_8 : decode cX6_worth 8 = .ok (.ifCond .eq 18, 3) := by decide +kernel
theorem dX6_worth_11 : decode cX6_worth 11 = .ok (.iload_n 2, 1) := by decide +kernel
theorem dX6_worth_12 : decode cX6_worth 12 = .ok (.invokestatic 55, 3) := by decide +kernel
theorem dX6_worth_15 : decode cX6_worth 15 = .ok (.ifCond .eq 11, 3) := by decide +kernel
theorem dX6_worth_18 : decode cX6_worth 18 = .ok (.iload_n 3, 1) := by decide +kernel
theorem dX6_worth_19 : decode cX6_worth 19 = .ok (.iconst 4, 1) := by decide +kernel
theorem dX6_worth_20 : decode cX6_worth 20 = .ok (.invokestatic 59, 3) := by decide +kernel
theorem dX6_worth_23 : decode cX6_worth 23 = .ok (.ifCond .ne 5, 3) := by decide +kernel
theorem dX6_worth_26 : decode cX6_worth 26 = .ok (.iconst (-1), 1) := by decide +kernel
theorem dX6_worth_27 : decode cX6_worth 27 = .ok (.ireturn, 1) := by decide +kernel
theorem dX6_worth_28 : decode cX6_worth 28 = .ok (.aload_n 0, 1) := by decide +kernel
theorem dX6_worth_29 : decode cX6_worth 29 = .ok (.getfield 12, 3) := by decide +kernel
theorem dX6_worth_32 : decode cX6_worth 32 = .ok (.getfield 67, 3) := by decide +kernel
theorem dX6_worth_35 : decode cX6_worth 35 = .ok (.iload_n 1, 1) := by decide +kernel
theorem dX6_worth_36 : decode cX6_worth 36 = .ok (.aaload, 1) := by decide +kernel
theorem dX6_worth_37 : decode cX6_worth 37 = .ok (.iload_n 2, 1) := by decide +kernel
theorem dX6_worth_38 : decode cX6_worth 38 = .ok (.iload_n 3, 1) := by decide +kernel
theorem dX6_worth_39 : decode cX6_worth 39 = .ok (.invokevirtual 92, 3) := by decide +kernel
theorem dX6_worth_42 : decode cX6_worth 42 = .ok (.ireturn, 1) := by decide +kernel
theorem dX6_train_0 : decode cX6_train 0 = .ok (.iload_n 1, 1) := by decide +kernel
theorem dX6_train_1 : decode cX6_train 1 = .ok (.invokestatic 55, 3) := by decide +kernel
theorem dX6_train_4 : decode cX6_train 4 = .ok (.ifCond .eq 12, 3) := by decide +kernel
theorem dX6_train_7 : decode cX6_train 7 = .ok (.iload_n 2, 1) := by decide +kernel
theorem dX6_train_8 : decode cX6_train 8 = .ok (.bipush 99, 2) := by decide +kernel
theorem dX6_train_10 : decode cX6_train 10 = .ok (.invokestatic 59, 3) := by decide +kernel
theorem dX6_train_13 : decode cX6_train 13 = .ok (.ifCond .ne 5, 3) := by decide +kernel
theorem dX6_train_16 : decode cX6_train 16 = .ok (.iconst (-1), 1) := by decide +kernel
theorem dX6_train_17 : decode cX6_train 17 = .ok (.ireturn, 1) := by decide +kernel
theorem dX6_train_18 : decode cX6_train 18 = .ok (.aload_n 0, 1) := by decide +kernel
theorem dX6_train_19 : decode cX6_train 19 = .ok (.getfield 12, 3) := by decide +kernel
theorem dX6_train_22 : decode cX6_train 22 = .ok (.getfield 96, 3) := by decide +kernel
theorem dX6_train_25 : decode cX6_train 25 = .ok (.bipush 6, 2) := by decide +kernel
theorem dX6_train_27 : decode cX6_train 27 = .ok (.if_icmp .lt 6, 3) := by decide +kernel
theorem dX6_train_30 : decode cX6_train 30 = .ok (.bipush (-3), 2) := by decide +kernel
theorem dX6_train_32 : decode cX6_train 32 = .ok (.ireturn, 1) := by decide +kernel
theorem dX6_train_33 : decode cX6_train 33 = .ok (.aload_n 0, 1) := by decide +kernel
theorem dX6_train_34 : decode cX6_train 34 = .ok (.getfield 12, 3) := by decide +kernel
theorem dX6_train_37 : decode cX6_train 37 = .ok (.getfield 99, 3) := by decide +kernel
theorem dX6_train_40 : decode cX6_train 40 = .ok (.aload_n 0, 1) := by decide +kernel
theorem dX6_train_41 : decode cX6_train 41 = .ok (.getfield 12, 3) := by decide +kernel
theorem dX6_train_44 : decode cX6_train 44 = .ok (.getfield 96, 3) := by decide +kernel
theorem dX6_train_47 : decode cX6_train 47 = .ok (.iload_n 1, 1) := by decide +kernel
theorem dX6_train_48 : decode cX6_train 48 = .ok (.iastore, 1) := by decide +kernel
theorem dX6_train_49 : decode cX6_train 49 = .ok (.aload_n 0, 1) := by decide +kernel
theorem dX6_train_50 : decode cX6_train 50 = .ok (.getfield 12, 3) := by decide +kernel
theorem dX6_train_53 : decode cX6_train 53 = .ok (.getfield 102, 3) := by decide +kernel
theorem dX6_train_56 : decode cX6_train 56 = .ok (.aload_n 0, 1) := by decide +kernel
theorem dX6_train_57 : decode cX6_train 57 = .ok (.getfield 12, 3) := by decide +kernel
theorem dX6_train_60 : decode cX6_train 60 = .ok (.getfield 96, 3) := by decide +kernel
theorem dX6_train_63 : decode cX6_train 63 = .ok (.iload_n 2, 1) := by decide +kernel
theorem dX6_train_64 : decode cX6_train 64 = .ok (.iastore, 1) := by decide +kernel
theorem dX6_train_65 : decode cX6_train 65 = .ok (.aload_n 0, 1) := by decide +kernel
theorem dX6_train_66 : decode cX6_train 66 = .ok (.getfield 12, 3) := by decide +kernel
theorem dX6_train_69 : decode cX6_train 69 = .ok (.dup, 1) := by decide +kernel
theorem dX6_train_70 : decode cX6_train 70 = .ok (.getfield 96, 3) := by decide +kernel
theorem dX6_train_73 : decode cX6_train 73 = .ok (.iconst 1, 1) := by decide +kernel
theorem dX6_train_74 : decode cX6_train 74 = .ok (.iadd, 1) := by decide +kernel
theorem dX6_train_75 : decode cX6_train 75 = .ok (.putfield 96, 3) := by decide +kernel
theorem dX6_train_78 : decode cX6_train 78 = .ok (.aload_n 0, 1) := by decide +kernel
theorem dX6_train_79 : decode cX6_train 79 = .ok (.getfield 12, 3) := by decide +kernel
theorem dX6_train_82 : decode cX6_train 82 = .ok (.getfield 96, 3) := by decide +kernel
theorem dX6_train_85 : decode cX6_train 85 = .ok (.iconst 1, 1) := by decide +kernel
theorem dX6_train_86 : decode cX6_train 86 = .ok (.isub, 1) := by decide +kernel
theorem dX6_train_87 : decode cX6_train 87 = .ok (.ireturn, 1) := by decide +kernel
theorem dX6_strike_0 : decode cX6_strike 0 = .ok (.aload_n 0, 1) := by decide +kernel
theorem dX6_strike_1 : decode cX6_strike 1 = .ok (.getfield 12, 3) := by decide +kernel
theorem dX6_strike_4 : decode cX6_strike 4 = .ok (.getfield 96, 3) := by decide +kernel
theorem dX6_strike_7 : decode cX6_strike 7 = .ok (.ifCond .ne 6, 3) := by decide +kernel
theorem dX6_strike_10 : decode cX6_strike 10 = .ok (.bipush (-4), 2) := by decide +kernel
theorem dX6_strike_12 : decode cX6_strike 12 = .ok (.ireturn, 1) := by decide +kernel
theorem dX6_strike_13 : decode cX6_strike 13 = .ok (.aload_n 0, 1) := by decide +kernel
theorem dX6_strike_14 : decode cX6_strike 14 = .ok (.getfield 12, 3) := by decide +kernel
theorem dX6_strike_17 : decode cX6_strike 17 = .ok (.dup, 1) := by decide +kernel
theorem dX6_strike_18 : decode cX6_strike 18 = .ok (.getfield 96, 3) := by decide +kernel
theorem dX6_strike_21 : decode cX6_strike 21 = .ok (.iconst 1, 1) := by decide +kernel
theorem dX6_strike_22 : decode cX6_strike 22 = .ok (.isub, 1) := by decide +kernel
theorem dX6_strike_23 : decode cX6_strike 23 = .ok (.putfield 96, 3) := by decide +kernel
theorem dX6_strike_26 : decode cX6_strike 26 = .ok (.aload_n 0, 1) := by decide +kernel
theorem dX6_strike_27 : decode cX6_strike 27 = .ok (.getfield 12, 3) := by decide +kernel
theorem dX6_strike_30 : decode cX6_strike 30 = .ok (.getfield 96, 3) := by decide +kernel
theorem dX6_strike_33 : decode cX6_strike 33 = .ok (.ireturn, 1) := by decide +kernel
theorem dX6_set_0 : decode cX6_set 0 = .ok (.iload_n 2, 1) := by decide +kernel
theorem dX6_set_1 : decode cX6_set 1 = .ok (.iload_n 1, 1) := by decide +kernel
theorem dX6_set_2 : decode cX6_set 2 = .ok (.invokestatic 105, 3) := by decide +kernel
theorem dX6_set_5 : decode cX6_set 5 = .ok (.invokestatic 59, 3) := by decide +kernel
theorem dX6_set_8 : decode cX6_set 8 = .ok (.ifCond .ne 5, 3) := by decide +kernel
theorem dX6_set_11 : decode cX6_set 11 = .ok (.iconst (-1), 1) := by decide +kernel
theorem dX6_set_12 : decode cX6_set 12 = .ok (.ireturn, 1) := by decide +kernel
theorem dX6_set_13 : decode cX6_set 13 = .ok (.aload_n 0, 1) := by decide +kernel
theorem dX6_set_14 : decode cX6_set 14 = .ok (.iload_n 1, 1) := by decide +kernel
theorem dX6_set_15 : decode cX6_set 15 = .ok (.invokevirtual 109, 3) := by decide +kernel
theorem dX6_set_18 : decode cX6_set 18 = .ok (.istore_n 3, 1) := by decide +kernel
theorem dX6_set_19 : decode cX6_set 19 = .ok (.iload_n 1, 1) := by decide +kernel
theorem dX6_set_20 : decode cX6_set 20 = .ok (.tableswitch 61 0 2 #[28, 39, 50], 28) := by decide +kernel
theorem dX6_set_48 : decode cX6_set 48 = .ok (.aload_n 0, 1) := by decide +kernel
theorem dX6_set_49 : decode cX6_set 49 = .ok (.getfield 12, 3) := by decide +kernel
theorem dX6_set_52 : decode cX6_set 52 = .ok (.iload_n 2, 1) := by decide +kernel
theorem dX6_set_53 : decode cX6_set 53 = .ok (.putfield 112, 3) := by decide +kernel
theorem dX6_set_56 : decode cX6_set 56 = .ok (.goto 33, 3) := by decide +kernel
theorem dX6_set_59 : decode cX6_set 59 = .ok (.aload_n 0, 1) := by decide +kernel
theorem dX6_set_60 : decode cX6_set 60 = .ok (.getfield 12, 3) := by decide +kernel
theorem dX6_set_63 : decode cX6_set 63 = .ok (.iload_n 2, 1) := by decide +kernel
theorem dX6_set_64 : decode cX6_set 64 = .ok (.putfield 115, 3) := by decide +kernel
theorem dX6_set_67 : decode cX6_set 67 = .ok (.goto 22, 3) := by decide +kernel
theorem dX6_set_70 : decode cX6_set 70 = .ok (.aload_n 0, 1) := by decide +kernel
theorem dX6_set_71 : decode cX6_set 71 = .ok (.getfield 12, 3) := by decide +kernel
theorem dX6_set_74 : decode cX6_set 74 = .ok (.iload_n 2, 1) := by decide +kernel
theorem dX6_set_75 : decode cX6_set 75 = .ok (.putfield 118, 3) := by decide +kernel
theorem dX6_set_78 : decode cX6_set 78 = .ok (.goto 11, 3) := by decide +kernel
theorem dX6_set_81 : decode cX6_set 81 = .ok (.aload_n 0, 1) := by decide +kernel
theorem dX6_set_82 : decode cX6_set 82 = .ok (.getfield 12, 3) := by decide +kernel
theorem dX6_set_85 : decode cX6_set 85 = .ok (.iload_n 2, 1) := by decide +kernel
theorem dX6_set_86 : decode cX6_set 86 = .ok (.putfield 121, 3) := by decide +kernel
theorem dX6_set_89 : decode cX6_set 89 = .ok (.iload_n 3, 1) := by decide +kernel
theorem dX6_set_90 : decode cX6_set 90 = .ok (.ireturn, 1) := by decide +kernel
theorem dX6_loss_0 : decode cX6_loss 0 = .ok (.iload_n 1, 1) := by decide +kernel
theorem dX6_loss_1 : decode cX6_loss 1 = .ok (.invokestatic 55, 3) := by decide +kernel
theorem dX6_loss_4 : decode cX6_loss 4 = .ok (.ifCond .eq 12, 3) := by decide +kernel
theorem dX6_loss_7 : decode cX6_loss 7 = .ok (.iload_n 2, 1) := by decide +kernel
theorem dX6_loss_8 : decode cX6_loss 8 = .ok (.bipush 99, 2) := by decide +kernel
theorem dX6_loss_10 : decode cX6_loss 10 = .ok (.invokestatic 59, 3) := by decide +kernel
theorem dX6_loss_13 : decode cX6_loss 13 = .ok (.ifCond .ne 5, 3) := by decide +kernel
theorem dX6_loss_16 : decode cX6_loss 16 = .ok (.iconst (-1), 1) := by decide +kernel
theorem dX6_loss_17 : decode cX6_loss 17 = .ok (.ireturn, 1) := by decide +kernel
theorem dX6_loss_18 : decode cX6_loss 18 = .ok (.aload_n 0, 1) := by decide +kernel
theorem dX6_loss_19 : decode cX6_loss 19 = .ok (.getfield 12, 3) := by decide +kernel
theorem dX6_loss_22 : decode cX6_loss 22 = .ok (.getfield 124, 3) := by decide +kernel
theorem dX6_loss_25 : decode cX6_loss 25 = .ok (.iload_n 1, 1) := by decide +kernel
theorem dX6_loss_26 : decode cX6_loss 26 = .ok (.iaload, 1) := by decide +kernel
theorem dX6_loss_27 : decode cX6_loss 27 = .ok (.istore_n 3, 1) := by decide +kernel
theorem dX6_loss_28 : decode cX6_loss 28 = .ok (.aload_n 0, 1) := by decide +kernel
theorem dX6_loss_29 : decode cX6_loss 29 = .ok (.getfield 12, 3) := by decide +kernel
theorem dX6_loss_32 : decode cX6_loss 32 = .ok (.getfield 124, 3) := by decide +kernel
theorem dX6_loss_35 : decode cX6_loss 35 = .ok (.iload_n 1, 1) := by decide +kernel
theorem dX6_loss_36 : decode cX6_loss 36 = .ok (.iload_n 2, 1) := by decide +kernel
theorem dX6_loss_37 : decode cX6_loss 37 = .ok (.iastore, 1) := by decide +kernel
theorem dX6_loss_38 : decode cX6_loss 38 = .ok (.iload_n 3, 1) := by decide +kernel
theorem dX6_loss_39 : decode cX6_loss 39 = .ok (.ireturn, 1) := by decide +kernel
theorem dX6_type_0 : decode cX6_type 0 = .ok (.iload_n 3, 1) := by decide +kernel
theorem dX6_type_1 : decode cX6_type 1 = .ok (.iconst 1, 1) := by decide +kernel
theorem dX6_type_2 : decode cX6_type 2 = .ok (.if_icmp .lt 9, 3) := by decide +kernel
theorem dX6_type_5 : decode cX6_type 5 = .ok (.iload_n 3, 1) := by decide +kernel
theorem dX6_type_6 : decode cX6_type 6 = .ok (.bipush 8, 2) := by decide +kernel
theorem dX6_type_8 : decode cX6_type 8 = .ok (.if_icmp .le 5, 3) := by decide +kernel
theorem dX6_type_11 : decode cX6_type 11 = .ok (.iconst (-1), 1) := by decide +kernel
theorem dX6_type_12 : decode cX6_type 12 = .ok (.ireturn, 1) := by decide +kernel
theorem dX6_type_13 : decode cX6_type 13 = .ok (.iconst 0, 1) := by decide +kernel
theorem dX6_type_14 : decode cX6_type 14 = .ok (.istore 4, 2) := by decide +kernel
theorem dX6_type_16 : decode cX6_type 16 = .ok (.iload 4, 2) := by decide +kernel
theorem dX6_type_18 : decode cX6_type 18 = .ok (.iload_n 3, 1) := by decide +kernel
theorem dX6_type_19 : decode cX6_type 19 = .ok (.if_icmp .ge 23, 3) := by decide +kernel
theorem dX6_type_22 : decode cX6_type 22 = .ok (.lload_n 1, 1) := by decide +kernel
theorem dX6_type_23 : decode cX6_type 23 = .ok (.iload 4, 2) := by decide +kernel
theorem dX6_type_25 : decode cX6_type 25 = .ok (.invokestatic 127, 3) := by decide +kernel
theorem dX6_type_28 : decode cX6_type 28 = .ok (.invokestatic 131, 3) := by decide +kernel
theorem dX6_type_31 : decode cX6_type 31 = .ok (.ifCond .ne 5, 3) := by decide +kernel
theorem dX6_type_34 : decode cX6_type 34 = .ok (.iconst (-1), 1) := by decide +kernel
theorem dX6_type_35 : decode cX6_type 35 = .ok (.ireturn, 1) := by decide +kernel
theorem dX6_type_36 : decode cX6_type 36 = .ok (.iinc 4 1, 3) := by decide +kernel
theorem dX6_type_39 : decode cX6_type 39 = .ok (.goto (-23), 3) := by decide +kernel
theorem dX6_type_42 : decode cX6_type 42 = .ok (.aload_n 0, 1) := by decide +kernel
theorem dX6_type_43 : decode cX6_type 43 = .ok (.getfield 26, 3) := by decide +kernel
theorem dX6_type_46 : decode cX6_type 46 = .ok (.getfield 134, 3) := by decide +kernel
theorem dX6_type_49 : decode cX6_type 49 = .ok (.sipush 140, 3) := by decide +kernel
theorem dX6_type_52 : decode cX6_type 52 = .ok (.iload_n 3, 1) := by decide +kernel
theorem dX6_type_53 : decode cX6_type 53 = .ok (.isub, 1) := by decide +kernel
theorem dX6_type_54 : decode cX6_type 54 = .ok (.if_icmp .le 6, 3) := by decide +kernel
theorem dX6_type_57 : decode cX6_type 57 = .ok (.bipush (-3), 2) := by decide +kernel
theorem dX6_type_59 : decode cX6_type 59 = .ok (.ireturn, 1) := by decide +kernel
theorem dX6_type_60 : decode cX6_type 60 = .ok (.iload_n 3, 1) := by decide +kernel
theorem dX6_type_61 : decode cX6_type 61 = .ok (.iconst 1, 1) := by decide +kernel
theorem dX6_type_62 : decode cX6_type 62 = .ok (.isub, 1) := by decide +kernel
theorem dX6_type_63 : decode cX6_type 63 = .ok (.istore 4, 2) := by decide +kernel
theorem dX6_type_65 : decode cX6_type 65 = .ok (.iload 4, 2) := by decide +kernel
theorem dX6_type_67 : decode cX6_type 67 = .ok (.ifCond .lt 22, 3) := by decide +kernel
theorem dX6_type_70 : decode cX6_type 70 = .ok (.aload_n 0, 1) := by decide +kernel
theorem dX6_type_71 : decode cX6_type 71 = .ok (.getfield 26, 3) := by decide +kernel
theorem dX6_type_74 : decode cX6_type 74 = .ok (.lload_n 1, 1) := by decide +kernel
theorem dX6_type_75 : decode cX6_type 75 = .ok (.iload 4, 2) := by decide +kernel
theorem dX6_type_77 : decode cX6_type 77 = .ok (.invokestatic 127, 3) := by decide +kernel
theorem dX6_type_80 : decode cX6_type 80 = .ok (.invokevirtual 137, 3) := by decide +kernel
theorem dX6_type_83 : decode cX6_type 83 = .ok (.iinc 4 (-1), 3) := by decide +kernel
theorem dX6_type_86 : decode cX6_type 86 = .ok (.goto (-21), 3) := by decide +kernel
theorem dX6_type_89 : decode cX6_type 89 = .ok (.aload_n 0, 1) := by decide +kernel
theorem dX6_type_90 : decode cX6_type 90 = .ok (.getfield 26, 3) := by decide +kernel
theorem dX6_type_93 : decode cX6_type 93 = .ok (.getfield 134, 3) := by decide +kernel
theorem dX6_type_96 : decode cX6_type 96 = .ok (.ireturn, 1) := by decide +kernel
theorem dX6_town_0 : decode cX6_town 0 = .ok (.aload_n 0, 1) := by decide +kernel
theorem dX6_town_1 : decode cX6_town 1 = .ok (.getfield 26, 3) := by decide +kernel
theorem dX6_town_4 : decode cX6_town 4 = .ok (.invokevirtual 141, 3) := by decide +kernel
theorem dX6_town_7 : decode cX6_town 7 = .ok (.istore_n 1, 1) := by decide +kernel
theorem dX6_town_8 : decode cX6_town 8 = .ok (.aload_n 0, 1) := by decide +kernel
theorem dX6_town_9 : decode cX6_town 9 = .ok (.getfield 26, 3) := by decide +kernel
theorem dX6_town_12 : decode cX6_town 12 = .ok (.invokevirtual 145, 3) := by decide +kernel
theorem dX6_town_15 : decode cX6_town 15 = .ok (.iload_n 1, 1) := by decide +kernel
theorem dX6_town_16 : decode cX6_town 16 = .ok (.ifCond .lt 18, 3) := by decide +kernel
theorem dX6_town_19 : decode cX6_town 19 = .ok (.aload_n 0, 1) := by decide +kernel
theorem dX6_town_20 : decode cX6_town 20 = .ok (.getfield 12, 3) := by decide +kernel
theorem dX6_town_23 : decode cX6_town 23 = .ok (.aload_n 0, 1) := by decide +kernel
theorem dX6_town_24 : decode cX6_town 24 = .ok (.getfield 26, 3) := by decide +kernel
theorem dX6_town_27 : decode cX6_town 27 = .ok (.getfield 148, 3) := by decide +kernel
theorem dX6_town_30 : decode cX6_town 30 = .ok (.iload_n 1, 1) := by decide +kernel
theorem dX6_town_31 : decode cX6_town 31 = .ok (.invokevirtual 151, 3) := by decide +kernel
theorem dX6_town_34 : decode cX6_town 34 = .ok (.iload_n 1, 1) := by decide +kernel
theorem dX6_town_35 : decode cX6_town 35 = .ok (.ireturn, 1) := by decide +kernel
theorem dX6_plan_0 : decode cX6_plan 0 = .ok (.aload_n 0, 1) := by decide +kernel
theorem dX6_plan_1 : decode cX6_plan 1 = .ok (.getfield 26, 3) := by decide +kernel
theorem dX6_plan_4 : decode cX6_plan 4 = .ok (.invokevirtual 155, 3) := by decide +kernel
theorem dX6_plan_7 : decode cX6_plan 7 = .ok (.istore_n 1, 1) := by decide +kernel
theorem dX6_plan_8 : decode cX6_plan 8 = .ok (.aload_n 0, 1) := by decide +kernel
theorem dX6_plan_9 : decode cX6_plan 9 = .ok (.getfield 26, 3) := by decide +kernel
theorem dX6_plan_12 : decode cX6_plan 12 = .ok (.invokevirtual 145, 3) := by decide +kernel
theorem dX6_plan_15 : decode cX6_plan 15 = .ok (.iload_n 1, 1) := by decide +kernel
theorem dX6_plan_16 : decode cX6_plan 16 = .ok (.ifCond .lt 24, 3) := by decide +kernel
theorem dX6_plan_19 : decode cX6_plan 19 = .ok (.aload_n 0, 1) := by decide +kernel
theorem dX6_plan_20 : decode cX6_plan 20 = .ok (.getfield 26, 3) := by decide +kernel
theorem dX6_plan_23 : decode cX6_plan 23 = .ok (.getfield 158, 3) := by decide +kernel
theorem dX6_plan_26 : decode cX6_plan 26 = .ok (.iconst 0, 1) := by decide +kernel
theorem dX6_plan_27 : decode cX6_plan 27 = .ok (.aload_n 0, 1) := by decide +kernel
theorem dX6_plan_28 : decode cX6_plan 28 = .ok (.getfield 12, 3) := by decide +kernel
theorem dX6_plan_31 : decode cX6_plan 31 = .ok (.getfield 161, 3) := by decide +kernel
theorem dX6_plan_34 : decode cX6_plan 34 = .ok (.iconst 0, 1) := by decide +kernel
theorem dX6_plan_35 : decode cX6_plan 35 = .ok (.bipush 24, 2) := by decide +kernel
theorem dX6_plan_37 : decode cX6_plan 37 = .ok (.invokestatic 164, 3) := by decide +kernel
theorem dX6_plan_40 : decode cX6_plan 40 = .ok (.iload_n 1, 1) := by decide +kernel
theorem dX6_plan_41 : decode cX6_plan 41 = .ok (.ireturn, 1) := by decide +kernel
theorem dX6_lay_0 : decode cX6_lay 0 = .ok (.iload_n 1, 1) := by decide +kernel
theorem dX6_lay_1 : decode cX6_lay 1 = .ok (.invokestatic 55, 3) := by decide +kernel
theorem dX6_lay_4 : decode cX6_lay 4 = .ok (.ifCond .eq 11, 3) := by decide +kernel
theorem dX6_lay_7 : decode cX6_lay 7 = .ok (.iload_n 2, 1) := by decide +kernel
theorem dX6_lay_8 : decode cX6_lay 8 = .ok (.i2l, 1) := by decide +kernel
theorem dX6_lay_9 : decode cX6_lay 9 = .ok (.invokestatic 170, 3) := by decide +kernel
theorem dX6_lay_12 : decode cX6_lay 12 = .ok (.ifCond .ne 6, 3) := by decide +kernel
theorem dX6_lay_15 : decode cX6_lay 15 = .ok (.ldc 174, 2) := by decide +kernel
theorem dX6_lay_17 : decode cX6_lay 17 = .ok (.ireturn, 1) := by decide +kernel
theorem dX6_lay_18 : decode cX6_lay 18 = .ok (.aload_n 0, 1) := by decide +kernel
theorem dX6_lay_19 : decode cX6_lay 19 = .ok (.getfield 12, 3) := by decide +kernel
theorem dX6_lay_22 : decode cX6_lay 22 = .ok (.getfield 161, 3) := by decide +kernel
theorem dX6_lay_25 : decode cX6_lay 25 = .ok (.iload_n 1, 1) := by decide +kernel
theorem dX6_lay_26 : decode cX6_lay 26 = .ok (.iaload, 1) := by decide +kernel
theorem dX6_lay_27 : decode cX6_lay 27 = .ok (.istore_n 3, 1) := by decide +kernel
theorem dX6_lay_28 : decode cX6_lay 28 = .ok (.aload_n 0, 1) := by decide +kernel
theorem dX6_lay_29 : decode cX6_lay 29 = .ok (.getfield 12, 3) := by decide +kernel
theorem dX6_lay_32 : decode cX6_lay 32 = .ok (.getfield 161, 3) := by decide +kernel
theorem dX6_lay_35 : decode cX6_lay 35 = .ok (.iload_n 1, 1) := by decide +kernel
theorem dX6_lay_36 : decode cX6_lay 36 = .ok (.iload_n 2, 1) := by decide +kernel
theorem dX6_lay_37 : decode cX6_lay 37 = .ok (.iastore, 1) := by decide +kernel
theorem dX6_lay_38 : decode cX6_lay 38 = .ok (.iload_n 3, 1) := by decide +kernel
theorem dX6_lay_39 : decode cX6_lay 39 = .ok (.ireturn, 1) := by decide +kernel
theorem dX6_is_0 : decode cX6_is 0 = .ok (.iload_n 1, 1) := by decide +kernel
theorem dX6_is_1 : decode cX6_is 1 = .ok (.tableswitch 111 0 7 #[47, 55, 63, 71, 79, 87, 95, 103], 47) := by decide +kernel
theorem dX6_is_48 : decode cX6_is 48 = .ok (.aload_n 0, 1) := by decide +kernel
theorem dX6_is_49 : decode cX6_is 49 = .ok (.getfield 12, 3) := by decide +kernel
theorem dX6_is_52 : decode cX6_is 52 = .ok (.getfield 112, 3) := by decide +kernel
theorem dX6_is_55 : decode cX6_is 55 = .ok (.ireturn, 1) := by decide +kernel
theorem dX6_is_56 : decode cX6_is 56 = .ok (.aload_n 0, 1) := by decide +kernel
theorem dX6_is_57 : decode cX6_is 57 = .ok (.getfield 12, 3) := by decide +kernel
theorem dX6_is_60 : decode cX6_is 60 = .ok (.getfield 115, 3) := by decide +kernel
theorem dX6_is_63 : decode cX6_is 63 = .ok (.ireturn, 1) := by decide +kernel
theorem dX6_is_64 : decode cX6_is 64 = .ok (.aload_n 0, 1) := by decide +kernel
theorem dX6_is_65 : decode cX6_is 65 = .ok (.getfield 12, 3) := by decide +kernel
theorem dX6_is_68 : decode cX6_is 68 = .ok (.getfield 118, 3) := by decide +kernel
theorem dX6_is_71 : decode cX6_is 71 = .ok (.ireturn, 1) := by decide +kernel
theorem dX6_is_72 : decode cX6_is 72 = .ok (.aload_n 0, 1) := by decide +kernel
theorem dX6_is_73 : decode cX6_is 73 = .ok (.getfield 12, 3) := by decide +kernel
theorem dX6_is_76 : decode cX6_is 76 = .ok (.getfield 121, 3) := by decide +kernel
theorem dX6_is_79 : decode cX6_is 79 = .ok (.ireturn, 1) := by decide +kernel
theorem dX6_is_80 : decode cX6_is 80 = .ok (.aload_n 0, 1) := by decide +kernel
theorem dX6_is_81 : decode cX6_is 81 = .ok (.getfield 12, 3) := by decide +kernel
theorem dX6_is_84 : decode cX6_is 84 = .ok (.getfield 63, 3) := by decide +kernel
theorem dX6_is_87 : decode cX6_is 87 = .ok (.ireturn, 1) := by decide +kernel
theorem dX6_is_88 : decode cX6_is 88 = .ok (.aload_n 0, 1) := by decide +kernel
theorem dX6_is_89 : decode cX6_is 89 = .ok (.getfield 12, 3) := by decide +kernel
theorem dX6_is_92 : decode cX6_is 92 = .ok (.getfield 96, 3) := by decide +kernel
theorem dX6_is_95 : decode cX6_is 95 = .ok (.ireturn, 1) := by decide +kernel
theorem dX6_is_96 : decode cX6_is 96 = .ok (.aload_n 0, 1) := by decide +kernel
theorem dX6_is_97 : decode cX6_is 97 = .ok (.getfield 12, 3) := by decide +kernel
theorem dX6_is_100 : decode cX6_is 100 = .ok (.getfield 175, 3) := by decide +kernel
theorem dX6_is_103 : decode cX6_is 103 = .ok (.ireturn, 1) := by decide +kernel
theorem dX6_is_104 : decode cX6_is 104 = .ok (.aload_n 0, 1) := by decide +kernel
theorem dX6_is_105 : decode cX6_is 105 = .ok (.getfield 12, 3) := by decide +kernel
theorem dX6_is_108 : decode cX6_is 108 = .ok (.getfield 178, 3) := by decide +kernel
theorem dX6_is_111 : decode cX6_is 111 = .ok (.ireturn, 1) := by decide +kernel
theorem dX6_is_112 : decode cX6_is 112 = .ok (.ldc 174, 2) := by decide +kernel
theorem dX6_is_114 : decode cX6_is 114 = .ok (.ireturn, 1) := by decide +kernel
theorem dX6_late_0 : decode cX6_late 0 = .ok (.iload_n 1, 1) := by decide +kernel
theorem dX6_late_1 : decode cX6_late 1 = .ok (.bipush 24, 2) := by decide +kernel
theorem dX6_late_3 : decode cX6_late 3 = .ok (.invokestatic 59, 3) := by decide +kernel
theorem dX6_late_6 : decode cX6_late 6 = .ok (.ifCond .ne 6, 3) := by decide +kernel
theorem dX6_late_9 : decode cX6_late 9 = .ok (.ldc 174, 2) := by decide +kernel
theorem dX6_late_11 : decode cX6_late 11 = .ok (.ireturn, 1) := by decide +kernel
theorem dX6_late_12 : decode cX6_late 12 = .ok (.aload_n 0, 1) := by decide +kernel
theorem dX6_late_13 : decode cX6_late 13 = .ok (.getfield 12, 3) := by decide +kernel
theorem dX6_late_16 : decode cX6_late 16 = .ok (.getfield 161, 3) := by decide +kernel
theorem dX6_late_19 : decode cX6_late 19 = .ok (.iload_n 1, 1) := by decide +kernel
theorem dX6_late_20 : decode cX6_late 20 = .ok (.invokestatic 181, 3) := by decide +kernel
theorem dX6_late_23 : decode cX6_late 23 = .ok (.ireturn, 1) := by decide +kernel
theorem dX6_gain_0 : decode cX6_gain 0 = .ok (.aload_n 0, 1) := by decide +kernel
theorem dX6_gain_1 : decode cX6_gain 1 = .ok (.getfield 12, 3) := by decide +kernel
theorem dX6_gain_4 : decode cX6_gain 4 = .ok (.aload_n 0, 1) := by decide +kernel
theorem dX6_gain_5 : decode cX6_gain 5 = .ok (.getfield 12, 3) := by decide +kernel
theorem dX6_gain_8 : decode cX6_gain 8 = .ok (.getfield 161, 3) := by decide +kernel
theorem dX6_gain_11 : decode cX6_gain 11 = .ok (.invokevirtual 185, 3) := by decide +kernel
theorem dX6_gain_14 : decode cX6_gain 14 = .ok (.ireturn, 1) := by decide +kernel
theorem dX6_wrong_0 : decode cX6_wrong 0 = .ok (.aload_n 0, 1) := by decide +kernel
theorem dX6_wrong_1 : decode cX6_wrong 1 = .ok (.getfield 12, 3) := by decide +kernel
theorem dX6_wrong_4 : decode cX6_wrong 4 = .ok (.aload_n 0, 1) := by decide +kernel
theorem dX6_wrong_5 : decode cX6_wrong 5 = .ok (.getfield 12, 3) := by decide +kernel
theorem dX6_wrong_8 : decode cX6_wrong 8 = .ok (.getfield 161, 3) := by decide +kernel
theorem dX6_wrong_11 : decode cX6_wrong 11 = .ok (.invokevirtual 189, 3) := by decide +kernel
theorem dX6_wrong_14 : decode cX6_wrong 14 = .ok (.ireturn, 1) := by decide +kernel
theorem dX6_missed_0 : decode cX6_missed 0 = .ok (.aload_n 0, 1) := by decide +kernel
theorem dX6_missed_1 : decode cX6_missed 1 = .ok (.getfield 12, 3) := by decide +kernel
theorem dX6_missed_4 : decode cX6_missed 4 = .ok (.aload_n 0, 1) := by decide +kernel
theorem dX6_missed_5 : decode cX6_missed 5 = .ok (.getfield 12, 3) := by decide +kernel
theorem dX6_missed_8 : decode cX6_missed 8 = .ok (.getfield 161, 3) := by decide +kernel
theorem dX6_missed_11 : decode cX6_missed 11 = .ok (.invokevirtual 192, 3) := by decide +kernel
theorem dX6_missed_14 : decode cX6_missed 14 = .ok (.ireturn, 1) := by decide +kernel
theorem dX6_day_0 : decode cX6_day 0 = .ok (.aload_n 0, 1) := by decide +kernel
theorem dX6_day_1 : decode cX6_day 1 = .ok (.getfield 12, 3) := by decide +kernel
theorem dX6_day_4 : decode cX6_day 4 = .ok (.aload_n 0, 1) := by decide +kernel
theorem dX6_day_5 : decode cX6_day 5 = .ok (.getfield 12, 3) := by decide +kernel
theorem dX6_day_8 : decode cX6_day 8 = .ok (.getfield 161, 3) := by decide +kernel
theorem dX6_day_11 : decode cX6_day 11 = .ok (.invokevirtual 189, 3) := by decide +kernel
theorem dX6_day_14 : decode cX6_day 14 = .ok (.bipush (-4), 2) := by decide +kernel
theorem dX6_day_16 : decode cX6_day 16 = .ok (.if_icmp .eq 6, 3) := by decide +kernel
theorem dX6_day_19 : decode cX6_day 19 = .ok (.ldc 195, 2) := by decide +kernel
theorem dX6_day_21 : decode cX6_day 21 = .ok (.ireturn, 1) := by decide +kernel
theorem dX6_day_22 : decode cX6_day 22 = .ok (.aload_n 0, 1) := by decide +kernel
theorem dX6_day_23 : decode cX6_day 23 = .ok (.getfield 12, 3) := by decide +kernel
theorem dX6_day_26 : decode cX6_day 26 = .ok (.getfield 175, 3) := by decide +kernel
theorem dX6_day_29 : decode cX6_day 29 = .ok (.sipush 9999, 3) := by decide +kernel
theorem dX6_day_32 : decode cX6_day 32 = .ok (.if_icmp .lt 6, 3) := by decide +kernel
theorem dX6_day_35 : decode cX6_day 35 = .ok (.ldc 196, 2) := by decide +kernel
theorem dX6_day_37 : decode cX6_day 37 = .ok (.ireturn, 1) := by decide +kernel
theorem dX6_day_38 : decode cX6_day 38 = .ok (.aload_n 0, 1) := by decide +kernel
theorem dX6_day_39 : decode cX6_day 39 = .ok (.getfield 12, 3) := by decide +kernel
theorem dX6_day_42 : decode cX6_day 42 = .ok (.aload_n 0, 1) := by decide +kernel
theorem dX6_day_43 : decode cX6_day 43 = .ok (.getfield 12, 3) := by decide +kernel
theorem dX6_day_46 : decode cX6_day 46 = .ok (.getfield 161, 3) := by decide +kernel
theorem dX6_day_49 : decode cX6_day 49 = .ok (.invokevirtual 197, 3) := by decide +kernel
theorem dX6_day_52 : decode cX6_day 52 = .ok (.ireturn, 1) := by decide +kernel
theorem dX6_best_0 : decode cX6_best 0 = .ok (.iload_n 1, 1) := by decide +kernel
theorem dX6_best_1 : decode cX6_best 1 = .ok (.iconst 1, 1) := by decide +kernel
theorem dX6_best_2 : decode cX6_best 2 = .ok (.invokestatic 59, 3) := by decide +kernel
theorem dX6_best_5 : decode cX6_best 5 = .ok (.ifCond .eq 14, 3) := by decide +kernel
theorem dX6_best_8 : decode cX6_best 8 = .ok (.iload_n 2, 1) := by decide +kernel
theorem dX6_best_9 : decode cX6_best 9 = .ok (.iconst (-1), 1) := by decide +kernel
theorem dX6_best_10 : decode cX6_best 10 = .ok (.if_icmp .lt 9, 3) := by decide +kernel
theorem dX6_best_13 : decode cX6_best 13 = .ok (.iload_n 2, 1) := by decide +kernel
theorem dX6_best_14 : decode cX6_best 14 = .ok (.bipush 24, 2) := by decide +kernel
theorem dX6_best_16 : decode cX6_best 16 = .ok (.if_icmp .lt 6, 3) := by decide +kernel
theorem dX6_best_19 : decode cX6_best 19 = .ok (.ldc 174, 2) := by decide +kernel
theorem dX6_best_21 : decode cX6_best 21 = .ok (.ireturn, 1) := by decide +kernel
theorem dX6_best_22 : decode cX6_best 22 = .ok (.aload_n 0, 1) := by decide +kernel
theorem dX6_best_23 : decode cX6_best 23 = .ok (.getfield 33, 3) := by decide +kernel
theorem dX6_best_26 : decode cX6_best 26 = .ok (.aload_n 0, 1) := by decide +kernel
theorem dX6_best_27 : decode cX6_best 27 = .ok (.getfield 12, 3) := by decide +kernel
theorem dX6_best_30 : decode cX6_best 30 = .ok (.iconst (-1), 1) := by decide +kernel
theorem dX6_best_31 : decode cX6_best 31 = .ok (.iload_n 1, 1) := by decide +kernel
theorem dX6_best_32 : decode cX6_best 32 = .ok (.iconst 1, 1) := by decide +kernel
theorem dX6_best_33 : decode cX6_best 33 = .ok (.if_icmp .ne 7, 3) := by decide +kernel
theorem dX6_best_36 : decode cX6_best 36 = .ok (.iconst 1, 1) := by decide +kernel
theorem dX6_best_37 : decode cX6_best 37 = .ok (.goto 4, 3) := by decide +kernel
theorem dX6_best_40 : decode cX6_best 40 = .ok (.iconst 0, 1) := by decide +kernel
theorem dX6_best_41 : decode cX6_best 41 = .ok (.invokevirtual 200, 3) := by decide +kernel
theorem dX6_best_44 : decode cX6_best 44 = .ok (.istore_n 3, 1) := by decide +kernel
theorem dX6_best_45 : decode cX6_best 45 = .ok (.iload_n 2, 1) := by decide +kernel
theorem dX6_best_46 : decode cX6_best 46 = .ok (.ifCond .ge 5, 3) := by decide +kernel
theorem dX6_best_49 : decode cX6_best 49 = .ok (.iload_n 3, 1) := by decide +kernel
theorem dX6_best_50 : decode cX6_best 50 = .ok (.ireturn, 1) := by decide +kernel
theorem dX6_best_51 : decode cX6_best 51 = .ok (.aload_n 0, 1) := by decide +kernel
theorem dX6_best_52 : decode cX6_best 52 = .ok (.getfield 33, 3) := by decide +kernel
theorem dX6_best_55 : decode cX6_best 55 = .ok (.invokevirtual 204, 3) := by decide +kernel
theorem dX6_best_58 : decode cX6_best 58 = .ok (.aload_n 0, 1) := by decide +kernel
theorem dX6_best_59 : decode cX6_best 59 = .ok (.getfield 33, 3) := by decide +kernel
theorem dX6_best_62 : decode cX6_best 62 = .ok (.getfield 207, 3) := by decide +kernel
theorem dX6_best_65 : decode cX6_best 65 = .ok (.iload_n 2, 1) := by decide +kernel
theorem dX6_best_66 : decode cX6_best 66 = .ok (.iaload, 1) := by decide +kernel
theorem dX6_best_67 : decode cX6_best 67 = .ok (.ireturn, 1) := by decide +kernel
theorem dX6_spend_0 : decode cX6_spend 0 = .ok (.iload_n 1, 1) := by decide +kernel
theorem dX6_spend_1 : decode cX6_spend 1 = .ok (.iconst 1, 1) := by decide +kernel
theorem dX6_spend_2 : decode cX6_spend 2 = .ok (.if_icmp .lt 9, 3) := by decide +kernel
theorem dX6_spend_5 : decode cX6_spend 5 = .ok (.iload_n 1, 1) := by decide +kernel
theorem dX6_spend_6 : decode cX6_spend 6 = .ok (.bipush 30, 2) := by decide +kernel
theorem dX6_spend_8 : decode cX6_spend 8 = .ok (.if_icmp .le 6, 3) := by decide +kernel
theorem dX6_spend_11 : decode cX6_spend 11 = .ok (.ldc 174, 2) := by decide +kernel
theorem dX6_spend_13 : decode cX6_spend 13 = .ok (.ireturn, 1) := by decide +kernel
theorem dX6_spend_14 : decode cX6_spend 14 = .ok (.aload_n 0, 1) := by decide +kernel
theorem dX6_spend_15 : decode cX6_spend 15 = .ok (.getfield 12, 3) := by decide +kernel
theorem dX6_spend_18 : decode cX6_spend 18 = .ok (.getfield 175, 3) := by decide +kernel
theorem dX6_spend_21 : decode cX6_spend 21 = .ok (.sipush 9999, 3) := by decide +kernel
theorem dX6_spend_24 : decode cX6_spend 24 = .ok (.iload_n 1, 1) := by decide +kernel
theorem dX6_spend_25 : decode cX6_spend 25 = .ok (.isub, 1) := by decide +kernel
theorem dX6_spend_26 : decode cX6_spend 26 = .ok (.if_icmp .le 6, 3) := by decide +kernel
theorem dX6_spend_29 : decode cX6_spend 29 = .ok (.ldc 196, 2) := by decide +kernel
theorem dX6_spend_31 : decode cX6_spend 31 = .ok (.ireturn, 1) := by decide +kernel
theorem dX6_spend_32 : decode cX6_spend 32 = .ok (.iconst 0, 1) := by decide +kernel
theorem dX6_spend_33 : decode cX6_spend 33 = .ok (.istore_n 2, 1) := by decide +kernel
theorem dX6_spend_34 : decode cX6_spend 34 = .ok (.iconst 0, 1) := by decide +kernel
theorem dX6_spend_35 : decode cX6_spend 35 = .ok (.istore_n 3, 1) := by decide +kernel
theorem dX6_spend_36 : decode cX6_spend 36 = .ok (.iload_n 3, 1) := by decide +kernel
theorem dX6_spend_37 : decode cX6_spend 37 = .ok (.iload_n 1, 1) := by decide +kernel
theorem dX6_spend_38 : decode cX6_spend 38 = .ok (.if_icmp .ge 47, 3) := by decide +kernel
theorem dX6_spend_41 : decode cX6_spend 41 = .ok (.aload_n 0, 1) := by decide +kernel
theorem dX6_spend_42 : decode cX6_spend 42 = .ok (.getfield 33, 3) := by decide +kernel
theorem dX6_spend_45 : decode cX6_spend 45 = .ok (.aload_n 0, 1) := by decide +kernel
theorem dX6_spend_46 : decode cX6_spend 46 = .ok (.getfield 12, 3) := by decide +kernel
theorem dX6_spend_49 : decode cX6_spend 49 = .ok (.iconst (-1), 1) := by decide +kernel
theorem dX6_spend_50 : decode cX6_spend 50 = .ok (.iconst 0, 1) := by decide +kernel
theorem dX6_spend_51 : decode cX6_spend 51 = .ok (.invokevirtual 200, 3) := by decide +kernel
theorem dX6_spend_54 : decode cX6_spend 54 = .ok (.pop, 1) := by decide +kernel
theorem dX6_spend_55 : decode cX6_spend 55 = .ok (.aload_n 0, 1) := by decide +kernel
theorem dX6_spend_56 : decode cX6_spend 56 = .ok (.getfield 33, 3) := by decide +kernel
theorem dX6_spend_59 : decode cX6_spend 59 = .ok (.invokevirtual 204, 3) := by decide +kernel
theorem dX6_spend_62 : decode cX6_spend 62 = .ok (.iload_n 2, 1) := by decide +kernel
theorem dX6_spend_63 : decode cX6_spend 63 = .ok (.aload_n 0, 1) := by decide +kernel
theorem dX6_spend_64 : decode cX6_spend 64 = .ok (.getfield 12, 3) := by decide +kernel
theorem dX6_spend_67 : decode cX6_spend 67 = .ok (.aload_n 0, 1) := by decide +kernel
theorem dX6_spend_68 : decode cX6_spend 68 = .ok (.getfield 33, 3) := by decide +kernel
theorem dX6_spend_71 : decode cX6_spend 71 = .ok (.getfield 207, 3) := by decide +kernel
theorem dX6_spend_74 : decode cX6_spend 74 = .ok (.invokevirtual 197, 3) := by decide +kernel
theorem dX6_spend_77 : decode cX6_spend 77 = .ok (.iadd, 1) := by decide +kernel
theorem dX6_spend_78 : decode cX6_spend 78 = .ok (.istore_n 2, 1) := by decide +kernel
theorem dX6_spend_79 : decode cX6_spend 79 = .ok (.iinc 3 1, 3) := by decide +kernel
theorem dX6_spend_82 : decode cX6_spend 82 = .ok (.goto (-46), 3) := by decide +kernel
theorem dX6_spend_85 : decode cX6_spend 85 = .ok (.iload_n 2, 1) := by decide +kernel
theorem dX6_spend_86 : decode cX6_spend 86 = .ok (.ireturn, 1) := by decide +kernel
theorem dX6_share_0 : decode cX6_share 0 = .ok (.aload_n 0, 1) := by decide +kernel
theorem dX6_share_1 : decode cX6_share 1 = .ok (.getfield 12, 3) := by decide +kernel
theorem dX6_share_4 : decode cX6_share 4 = .ok (.iload_n 1, 1) := by decide +kernel
theorem dX6_share_5 : decode cX6_share 5 = .ok (.invokevirtual 77, 3) := by decide +kernel
theorem dX6_share_8 : decode cX6_share 8 = .ok (.ifCond .ne 5, 3) := by decide +kernel
theorem dX6_share_11 : decode cX6_share 11 = .ok (.iconst (-1), 1) := by decide +kernel
theorem dX6_share_12 : decode cX6_share 12 = .ok (.ireturn, 1) := by decide +kernel
theorem dX6_share_13 : decode cX6_share 13 = .ok (.aload_n 0, 1) := by decide +kernel
theorem dX6_share_14 : decode cX6_share 14 = .ok (.getfield 33, 3) := by decide +kernel
theorem dX6_share_17 : decode cX6_share 17 = .ok (.aload_n 0, 1) := by decide +kernel
theorem dX6_share_18 : decode cX6_share 18 = .ok (.getfield 12, 3) := by decide +kernel
theorem dX6_share_21 : decode cX6_share 21 = .ok (.iconst (-1), 1) := by decide +kernel
theorem dX6_share_22 : decode cX6_share 22 = .ok (.iconst 0, 1) := by decide +kernel
theorem dX6_share_23 : decode cX6_share 23 = .ok (.invokevirtual 200, 3) := by decide +kernel
theorem dX6_share_26 : decode cX6_share 26 = .ok (.istore_n 2, 1) := by decide +kernel
theorem dX6_share_27 : decode cX6_share 27 = .ok (.aload_n 0, 1) := by decide +kernel
theorem dX6_share_28 : decode cX6_share 28 = .ok (.getfield 33, 3) := by decide +kernel
theorem dX6_share_31 : decode cX6_share 31 = .ok (.aload_n 0, 1) := by decide +kernel
theorem dX6_share_32 : decode cX6_share 32 = .ok (.getfield 12, 3) := by decide +kernel
theorem dX6_share_35 : decode cX6_share 35 = .ok (.iload_n 1, 1) := by decide +kernel
theorem dX6_share_36 : decode cX6_share 36 = .ok (.iconst 0, 1) := by decide +kernel
theorem dX6_share_37 : decode cX6_share 37 = .ok (.invokevirtual 200, 3) := by decide +kernel
theorem dX6_share_40 : decode cX6_share 40 = .ok (.istore_n 3, 1) := by decide +kernel
theorem dX6_share_41 : decode cX6_share 41 = .ok (.iload_n 2, 1) := by decide +kernel
theorem dX6_share_42 : decode cX6_share 42 = .ok (.iload_n 3, 1) := by decide +kernel
theorem dX6_share_43 : decode cX6_share 43 = .ok (.isub, 1) := by decide +kernel
theorem dX6_share_44 : decode cX6_share 44 = .ok (.ireturn, 1) := by decide +kernel
theorem dX6_vote_0 : decode cX6_vote 0 = .ok (.iload_n 1, 1) := by decide +kernel
theorem dX6_vote_1 : decode cX6_vote 1 = .ok (.ifCond .lt 8, 3) := by decide +kernel
theorem dX6_vote_4 : decode cX6_vote 4 = .ok (.iload_n 1, 1) := by decide +kernel
theorem dX6_vote_5 : decode cX6_vote 5 = .ok (.iconst 2, 1) := by decide +kernel
theorem dX6_vote_6 : decode cX6_vote 6 = .ok (.if_icmp .le 5, 3) := by decide +kernel
theorem dX6_vote_9 : decode cX6_vote 9 = .ok (.iconst (-1), 1) := by decide +kernel
theorem dX6_vote_10 : decode cX6_vote 10 = .ok (.ireturn, 1) := by decide +kernel
theorem dX6_vote_11 : decode cX6_vote 11 = .ok (.bipush (-4), 2) := by decide +kernel
theorem dX6_vote_13 : decode cX6_vote 13 = .ok (.istore_n 2, 1) := by decide +kernel
theorem dX6_vote_14 : decode cX6_vote 14 = .ok (.iconst 0, 1) := by decide +kernel
theorem dX6_vote_15 : decode cX6_vote 15 = .ok (.istore_n 3, 1) := by decide +kernel
theorem dX6_vote_16 : decode cX6_vote 16 = .ok (.iconst 0, 1) := by decide +kernel
theorem dX6_vote_17 : decode cX6_vote 17 = .ok (.istore 4, 2) := by decide +kernel
theorem dX6_vote_19 : decode cX6_vote 19 = .ok (.iload 4, 2) := by decide +kernel
theorem dX6_vote_21 : decode cX6_vote 21 = .ok (.bipush 24, 2) := by decide +kernel
theorem dX6_vote_23 : decode cX6_vote 23 = .ok (.if_icmp .ge 33, 3) := by decide +kernel
theorem dX6_vote_26 : decode cX6_vote 26 = .ok (.aload_n 0, 1) := by decide +kernel
theorem dX6_vote_27 : decode cX6_vote 27 = .ok (.getfield 12, 3) := by decide +kernel
theorem dX6_vote_30 : decode cX6_vote 30 = .ok (.iload 4, 2) := by decide +kernel
theorem dX6_vote_32 : decode cX6_vote 32 = .ok (.iload_n 1, 1) := by decide +kernel
theorem dX6_vote_33 : decode cX6_vote 33 = .ok (.invokevirtual 210, 3) := by decide +kernel
theorem dX6_vote_36 : decode cX6_vote 36 = .ok (.istore 5, 2) := by decide +kernel
theorem dX6_vote_38 : decode cX6_vote 38 = .ok (.iload 5, 2) := by decide +kernel
theorem dX6_vote_40 : decode cX6_vote 40 = .ok (.iload_n 3, 1) := by decide +kernel
theorem dX6_vote_41 : decode cX6_vote 41 = .ok (.if_icmp .le 9, 3) := by decide +kernel
theorem dX6_vote_44 : decode cX6_vote 44 = .ok (.iload 5, 2) := by decide +kernel
theorem dX6_vote_46 : decode cX6_vote 46 = .ok (.istore_n 3, 1) := by decide +kernel
theorem dX6_vote_47 : decode cX6_vote 47 = .ok (.iload 4, 2) := by decide +kernel
theorem dX6_vote_49 : decode cX6_vote 49 = .ok (.istore_n 2, 1) := by decide +kernel
theorem dX6_vote_50 : decode cX6_vote 50 = .ok (.iinc 4 1, 3) := by decide +kernel
theorem dX6_vote_53 : decode cX6_vote 53 = .ok (.goto (-34), 3) := by decide +kernel
theorem dX6_vote_56 : decode cX6_vote 56 = .ok (.iload_n 2, 1) := by decide +kernel
theorem dX6_vote_57 : decode cX6_vote 57 = .ok (.ireturn, 1) := by decide +kernel
theorem dX6_choice_0 : decode cX6_choice 0 = .ok (.aload_n 0, 1) := by decide +kernel
theorem dX6_choice_1 : decode cX6_choice 1 = .ok (.getfield 12, 3) := by decide +kernel
theorem dX6_choice_4 : decode cX6_choice 4 = .ok (.iload_n 1, 1) := by decide +kernel
theorem dX6_choice_5 : decode cX6_choice 5 = .ok (.invokevirtual 77, 3) := by decide +kernel
theorem dX6_choice_8 : decode cX6_choice 8 = .ok (.ifCond .ne 5, 3) := by decide +kernel
theorem dX6_choice_11 : decode cX6_choice 11 = .ok (.iconst (-1), 1) := by decide +kernel
theorem dX6_choice_12 : decode cX6_choice 12 = .ok (.ireturn, 1) := by decide +kernel
theorem dX6_choice_13 : decode cX6_choice 13 = .ok (.aload_n 0, 1) := by decide +kernel
theorem dX6_choice_14 : decode cX6_choice 14 = .ok (.getfield 12, 3) := by decide +kernel
theorem dX6_choice_17 : decode cX6_choice 17 = .ok (.getfield 67, 3) := by decide +kernel
theorem dX6_choice_20 : decode cX6_choice 20 = .ok (.iload_n 1, 1) := by decide +kernel
theorem dX6_choice_21 : decode cX6_choice 21 = .ok (.aaload, 1) := by decide +kernel
theorem dX6_choice_22 : decode cX6_choice 22 = .ok (.invokevirtual 213, 3) := by decide +kernel
theorem dX6_choice_25 : decode cX6_choice 25 = .ok (.ireturn, 1) := by decide +kernel
theorem dX6_lots_0 : decode cX6_lots 0 = .ok (.iload_n 1, 1) := by decide +kernel
theorem dX6_lots_1 : decode cX6_lots 1 = .ok (.iconst 1, 1) := by decide +kernel
theorem dX6_lots_2 : decode cX6_lots 2 = .ok (.if_icmp .lt 9, 3) := by decide +kernel
theorem dX6_lots_5 : decode cX6_lots 5 = .ok (.iload_n 1, 1) := by decide +kernel
theorem dX6_lots_6 : decode cX6_lots 6 = .ok (.bipush 30, 2) := by decide +kernel
theorem dX6_lots_8 : decode cX6_lots 8 = .ok (.if_icmp .le 6, 3) := by decide +kernel
theorem dX6_lots_11 : decode cX6_lots 11 = .ok (.ldc 174, 2) := by decide +kernel
theorem dX6_lots_13 : decode cX6_lots 13 = .ok (.ireturn, 1) := by decide +kernel
theorem dX6_lots_14 : decode cX6_lots 14 = .ok (.aload_n 0, 1) := by decide +kernel
theorem dX6_lots_15 : decode cX6_lots 15 = .ok (.getfield 12, 3) := by decide +kernel
theorem dX6_lots_18 : decode cX6_lots 18 = .ok (.getfield 175, 3) := by decide +kernel
theorem dX6_lots_21 : decode cX6_lots 21 = .ok (.sipush 9999, 3) := by decide +kernel
theorem dX6_lots_24 : decode cX6_lots 24 = .ok (.iload_n 1, 1) := by decide +kernel
theorem dX6_lots_25 : decode cX6_lots 25 = .ok (.isub, 1) := by decide +kernel
theorem dX6_lots_26 : decode cX6_lots 26 = .ok (.if_icmp .le 6, 3) := by decide +kernel
theorem dX6_lots_29 : decode cX6_lots 29 = .ok (.ldc 196, 2) := by decide +kernel
theorem dX6_lots_31 : decode cX6_lots 31 = .ok (.ireturn, 1) := by decide +kernel
theorem dX6_lots_32 : decode cX6_lots 32 = .ok (.iconst 0, 1) := by decide +kernel
theorem dX6_lots_33 : decode cX6_lots 33 = .ok (.istore_n 2, 1) := by decide +kernel
theorem dX6_lots_34 : decode cX6_lots 34 = .ok (.iconst 0, 1) := by decide +kernel
theorem dX6_lots_35 : decode cX6_lots 35 = .ok (.istore_n 3, 1) := by decide +kernel
theorem dX6_lots_36 : decode cX6_lots 36 = .ok (.iload_n 3, 1) := by decide +kernel
theorem dX6_lots_37 : decode cX6_lots 37 = .ok (.iload_n 1, 1) := by decide +kernel
theorem dX6_lots_38 : decode cX6_lots 38 = .ok (.if_icmp .ge 34, 3) := by decide +kernel
theorem dX6_lots_41 : decode cX6_lots 41 = .ok (.aload_n 0, 1) := by decide +kernel
theorem dX6_lots_42 : decode cX6_lots 42 = .ok (.getfield 12, 3) := by decide +kernel
theorem dX6_lots_45 : decode cX6_lots 45 = .ok (.aload_n 0, 1) := by decide +kernel
theorem dX6_lots_46 : decode cX6_lots 46 = .ok (.getfield 50, 3) := by decide +kernel
theorem dX6_lots_49 : decode cX6_lots 49 = .ok (.invokevirtual 216, 3) := by decide +kernel
theorem dX6_lots_52 : decode cX6_lots 52 = .ok (.iload_n 2, 1) := by decide +kernel
theorem dX6_lots_53 : decode cX6_lots 53 = .ok (.aload_n 0, 1) := by decide +kernel
theorem dX6_lots_54 : decode cX6_lots 54 = .ok (.getfield 12, 3) := by decide +kernel
theorem dX6_lots_57 : decode cX6_lots 57 = .ok (.aload_n 0, 1) := by decide +kernel
theorem dX6_lots_58 : decode cX6_lots 58 = .ok (.getfield 50, 3) := by decide +kernel
theorem dX6_lots_61 : decode cX6_lots 61 = .ok (.invokevirtual 197, 3) := by decide +kernel
theorem dX6_lots_64 : decode cX6_lots 64 = .ok (.iadd, 1) := by decide +kernel
theorem dX6_lots_65 : decode cX6_lots 65 = .ok (.istore_n 2, 1) := by decide +kernel
theorem dX6_lots_66 : decode cX6_lots 66 = .ok (.iinc 3 1, 3) := by decide +kernel
theorem dX6_lots_69 : decode cX6_lots 69 = .ok (.goto (-33), 3) := by decide +kernel
theorem dX6_lots_72 : decode cX6_lots 72 = .ok (.iload_n 2, 1) := by decide +kernel
theorem dX6_lots_73 : decode cX6_lots 73 = .ok (.ireturn, 1) := by decide +kernel
theorem dX6_seed_0 : decode cX6_seed 0 = .ok (.iload_n 1, 1) := by decide +kernel
theorem dX6_seed_1 : decode cX6_seed 1 = .ok (.ifCond .ge 5, 3) := by decide +kernel
theorem dX6_seed_4 : decode cX6_seed 4 = .ok (.iconst (-1), 1) := by decide +kernel
theorem dX6_seed_5 : decode cX6_seed 5 = .ok (.ireturn, 1) := by decide +kernel
theorem dX6_seed_6 : decode cX6_seed 6 = .ok (.aload_n 0, 1) := by decide +kernel
theorem dX6_seed_7 : decode cX6_seed 7 = .ok (.getfield 12, 3) := by decide +kernel
theorem dX6_seed_10 : decode cX6_seed 10 = .ok (.getfield 220, 3) := by decide +kernel
theorem dX6_seed_13 : decode cX6_seed 13 = .ok (.istore_n 2, 1) := by decide +kernel
theorem dX6_seed_14 : decode cX6_seed 14 = .ok (.aload_n 0, 1) := by decide +kernel
theorem dX6_seed_15 : decode cX6_seed 15 = .ok (.getfield 12, 3) := by decide +kernel
theorem dX6_seed_18 : decode cX6_seed 18 = .ok (.iload_n 1, 1) := by decide +kernel
theorem dX6_seed_19 : decode cX6_seed 19 = .ok (.putfield 220, 3) := by decide +kernel
theorem dX6_seed_22 : decode cX6_seed 22 = .ok (.iload_n 2, 1) := by decide +kernel
theorem dX6_seed_23 : decode cX6_seed 23 = .ok (.ireturn, 1) := by decide +kernel
theorem dX6_image_0 : decode cX6_image 0 = .ok (.aload_n 0, 1) := by decide +kernel
theorem dX6_image_1 : decode cX6_image 1 = .ok (.getfield 16, 3) := by decide +kernel
theorem dX6_image_4 : decode cX6_image 4 = .ok (.aload_n 0, 1) := by decide +kernel
theorem dX6_image_5 : decode cX6_image 5 = .ok (.getfield 12, 3) := by decide +kernel
theorem dX6_image_8 : decode cX6_image 8 = .ok (.invokevirtual 223, 3) := by decide +kernel
theorem dX6_image_11 : decode cX6_image 11 = .ok (.aload_n 0, 1) := by decide +kernel
theorem dX6_image_12 : decode cX6_image 12 = .ok (.iconst 1, 1) := by decide +kernel
theorem dX6_image_13 : decode cX6_image 13 = .ok (.putfield 19, 3) := by decide +kernel
theorem dX6_image_16 : decode cX6_image 16 = .ok (.iconst 1, 1) := by decide +kernel
theorem dX6_image_17 : decode cX6_image 17 = .ok (.ireturn, 1) := by decide +kernel
theorem dX6_restore_0 : decode cX6_restore 0 = .ok (.aload_n 0, 1) := by decide +kernel
theorem dX6_restore_1 : decode cX6_restore 1 = .ok (.getfield 19, 3) := by decide +kernel
theorem dX6_restore_4 : decode cX6_restore 4 = .ok (.ifCond .ne 6, 3) := by decide +kernel
theorem dX6_restore_7 : decode cX6_restore 7 = .ok (.bipush (-4), 2) := by decide +kernel
theorem dX6_restore_9 : decode cX6_restore 9 = .ok (.ireturn, 1) := by decide +kernel
theorem dX6_restore_10 : decode cX6_restore 10 = .ok (.aload_n 0, 1) := by decide +kernel
theorem dX6_restore_11 : decode cX6_restore 11 = .ok (.getfield 12, 3) := by decide +kernel
theorem dX6_restore_14 : decode cX6_restore 14 = .ok (.aload_n 0, 1) := by decide +kernel
theorem dX6_restore_15 : decode cX6_restore 15 = .ok (.getfield 16, 3) := by decide +kernel
theorem dX6_restore_18 : decode cX6_restore 18 = .ok (.invokevirtual 223, 3) := by decide +kernel
theorem dX6_restore_21 : decode cX6_restore 21 = .ok (.iconst 1, 1) := by decide +kernel
theorem dX6_restore_22 : decode cX6_restore 22 = .ok (.ireturn, 1) := by decide +kernel
theorem dX6_clocks_0 : decode cX6_clocks 0 = .ok (.aload_n 0, 1) := by decide +kernel
theorem dX6_clocks_1 : decode cX6_clocks 1 = .ok (.iload_n 1, 1) := by decide +kernel
theorem dX6_clocks_2 : decode cX6_clocks 2 = .ok (.iload_n 2, 1) := by decide +kernel
theorem dX6_clocks_3 : decode cX6_clocks 3 = .ok (.iload_n 3, 1) := by decide +kernel
theorem dX6_clocks_4 : decode cX6_clocks 4 = .ok (.iload 4, 2) := by decide +kernel
theorem dX6_clocks_6 : decode cX6_clocks 6 = .ok (.invokevirtual 227, 3) := by decide +kernel
theorem dX6_clocks_9 : decode cX6_clocks 9 = .ok (.istore 5, 2) := by decide +kernel
theorem dX6_clocks_11 : decode cX6_clocks 11 = .ok (.iload 5, 2) := by decide +kernel
theorem dX6_clocks_13 : decode cX6_clocks 13 = .ok (.ifCond .eq 7, 3) := by decide +kernel
theorem dX6_clocks_16 : decode cX6_clocks 16 = .ok (.iload 5, 2) := by decide +kernel
theorem dX6_clocks_18 : decode cX6_clocks 18 = .ok (.i2l, 1) := by decide +kernel
theorem dX6_clocks_19 : decode cX6_clocks 19 = .ok (.lreturn, 1) := by decide +kernel
theorem dX6_clocks_20 : decode cX6_clocks 20 = .ok (.aload_n 0, 1) := by decide +kernel
theorem dX6_clocks_21 : decode cX6_clocks 21 = .ok (.getfield 40, 3) := by decide +kernel
theorem dX6_clocks_24 : decode cX6_clocks 24 = .ok (.aload_n 0, 1) := by decide +kernel
theorem dX6_clocks_25 : decode cX6_clocks 25 = .ok (.getfield 46, 3) := by decide +kernel
theorem dX6_clocks_28 : decode cX6_clocks 28 = .ok (.iload_n 1, 1) := by decide +kernel
theorem dX6_clocks_29 : decode cX6_clocks 29 = .ok (.aaload, 1) := by decide +kernel
theorem dX6_clocks_30 : decode cX6_clocks 30 = .ok (.iload_n 3, 1) := by decide +kernel
theorem dX6_clocks_31 : decode cX6_clocks 31 = .ok (.iload 4, 2) := by decide +kernel
theorem dX6_clocks_33 : decode cX6_clocks 33 = .ok (.invokevirtual 231, 3) := by decide +kernel
theorem dX6_clocks_36 : decode cX6_clocks 36 = .ok (.aload_n 0, 1) := by decide +kernel
theorem dX6_clocks_37 : decode cX6_clocks 37 = .ok (.getfield 40, 3) := by decide +kernel
theorem dX6_clocks_40 : decode cX6_clocks 40 = .ok (.invokevirtual 235, 3) := by decide +kernel
theorem dX6_clocks_43 : decode cX6_clocks 43 = .ok (.lreturn, 1) := by decide +kernel
theorem dX6_sure_0 : decode cX6_sure 0 = .ok (.iload_n 1, 1) := by decide +kernel
theorem dX6_sure_1 : decode cX6_sure 1 = .ok (.invokestatic 55, 3) := by decide +kernel
theorem dX6_sure_4 : decode cX6_sure 4 = .ok (.ifCond .ne 5, 3) := by decide +kernel
theorem dX6_sure_7 : decode cX6_sure 7 = .ok (.iconst (-1), 1) := by decide +kernel
theorem dX6_sure_8 : decode cX6_sure 8 = .ok (.ireturn, 1) := by decide +kernel
theorem dX6_sure_9 : decode cX6_sure 9 = .ok (.aload_n 0, 1) := by decide +kernel
theorem dX6_sure_10 : decode cX6_sure 10 = .ok (.iload_n 2, 1) := by decide +kernel
theorem dX6_sure_11 : decode cX6_sure 11 = .ok (.iload_n 3, 1) := by decide +kernel
theorem dX6_sure_12 : decode cX6_sure 12 = .ok (.iload 4, 2) := by decide +kernel
theorem dX6_sure_14 : decode cX6_sure 14 = .ok (.iload 5, 2) := by decide +kernel
theorem dX6_sure_16 : decode cX6_sure 16 = .ok (.invokevirtual 227, 3) := by decide +kernel
theorem dX6_sure_19 : decode cX6_sure 19 = .ok (.istore 6, 2) := by decide +kernel
theorem dX6_sure_21 : decode cX6_sure 21 = .ok (.iload 6, 2) := by decide +kernel
theorem dX6_sure_23 : decode cX6_sure 23 = .ok (.ifCond .eq 6, 3) := by decide +kernel
theorem dX6_sure_26 : decode cX6_sure 26 = .ok (.iload 6, 2) := by decide +kernel
theorem dX6_sure_28 : decode cX6_sure 28 = .ok (.ireturn, 1) := by decide +kernel
theorem dX6_sure_29 : decode cX6_sure 29 = .ok (.aload_n 0, 1) := by decide +kernel
theorem dX6_sure_30 : decode cX6_sure 30 = .ok (.getfield 40, 3) := by decide +kernel
theorem dX6_sure_33 : decode cX6_sure 33 = .ok (.aload_n 0, 1) := by decide +kernel
theorem dX6_sure_34 : decode cX6_sure 34 = .ok (.getfield 46, 3) := by decide +kernel
theorem dX6_sure_37 : decode cX6_sure 37 = .ok (.iload_n 2, 1) := by decide +kernel
theorem dX6_sure_38 : decode cX6_sure 38 = .ok (.aaload, 1) := by decide +kernel
theorem dX6_sure_39 : decode cX6_sure 39 = .ok (.iload 4, 2) := by decide +kernel
theorem dX6_sure_41 : decode cX6_sure 41 = .ok (.iload 5, 2) := by decide +kernel
theorem dX6_sure_43 : decode cX6_sure 43 = .ok (.invokevirtual 231, 3) := by decide +kernel
theorem dX6_sure_46 : decode cX6_sure 46 = .ok (.aload_n 0, 1) := by decide +kernel
theorem dX6_sure_47 : decode cX6_sure 47 = .ok (.getfield 40, 3) := by decide +kernel
theorem dX6_sure_50 : decode cX6_sure 50 = .ok (.iload_n 1, 1) := by decide +kernel
theorem dX6_sure_51 : decode cX6_sure 51 = .ok (.invokevirtual 239, 3) := by decide +kernel
theorem dX6_sure_54 : decode cX6_sure 54 = .ok (.ireturn, 1) := by decide +kernel
theorem dX6_film_0 : decode cX6_film 0 = .ok (.aload_n 0, 1) := by decide +kernel
theorem dX6_film_1 : decode cX6_film 1 = .ok (.iload_n 1, 1) := by decide +kernel
theorem dX6_film_2 : decode cX6_film 2 = .ok (.iload_n 2, 1) := by decide +kernel
theorem dX6_film_3 : decode cX6_film 3 = .ok (.iload_n 3, 1) := by decide +kernel
theorem dX6_film_4 : decode cX6_film 4 = .ok (.bipush 24, 2) := by decide +kernel
theorem dX6_film_6 : decode cX6_film 6 = .ok (.invokevirtual 242, 3) := by decide +kernel
theorem dX6_film_9 : decode cX6_film 9 = .ok (.istore 4, 2) := by decide +kernel
theorem dX6_film_11 : decode cX6_film 11 = .ok (.iload 4, 2) := by decide +kernel
theorem dX6_film_13 : decode cX6_film 13 = .ok (.ifCond .eq 6, 3) := by decide +kernel
theorem dX6_film_16 : decode cX6_film 16 = .ok (.iload 4, 2) := by decide +kernel
theorem dX6_film_18 : decode cX6_film 18 = .ok (.ireturn, 1) := by decide +kernel
theorem dX6_film_19 : decode cX6_film 19 = .ok (.iconst 0, 1) := by decide +kernel
theorem dX6_film_20 : decode cX6_film 20 = .ok (.istore 5, 2) := by decide +kernel
theorem dX6_film_22 : decode cX6_film 22 = .ok (.iload 5, 2) := by decide +kernel
theorem dX6_film_24 : decode cX6_film 24 = .ok (.bipush 24, 2) := by decide +kernel
theorem dX6_film_26 : decode cX6_film 26 = .ok (.if_icmp .ge 33, 3) := by decide +kernel
theorem dX6_film_29 : decode cX6_film 29 = .ok (.aload_n 0, 1) := by decide +kernel
theorem dX6_film_30 : decode cX6_film 30 = .ok (.getfield 46, 3) := by decide +kernel
theorem dX6_film_33 : decode cX6_film 33 = .ok (.iload_n 1, 1) := by decide +kernel
theorem dX6_film_34 : decode cX6_film 34 = .ok (.aaload, 1) := by decide +kernel
theorem dX6_film_35 : decode cX6_film 35 = .ok (.iload_n 3, 1) := by decide +kernel
theorem dX6_film_36 : decode cX6_film 36 = .ok (.iload 5, 2) := by decide +kernel
theorem dX6_film_38 : decode cX6_film 38 = .ok (.iadd, 1) := by decide +kernel
theorem dX6_film_39 : decode cX6_film 39 = .ok (.aload_n 0, 1) := by decide +kernel
theorem dX6_film_40 : decode cX6_film 40 = .ok (.getfield 12, 3) := by decide +kernel
theorem dX6_film_43 : decode cX6_film 43 = .ok (.getfield 161, 3) := by decide +kernel
theorem dX6_film_46 : decode cX6_film 46 = .ok (.iload 5, 2) := by decide +kernel
theorem dX6_film_48 : decode cX6_film 48 = .ok (.iaload, 1) := by decide +kernel
theorem dX6_film_49 : decode cX6_film 49 = .ok (.i2l, 1) := by decide +kernel
theorem dX6_film_50 : decode cX6_film 50 = .ok (.invokevirtual 245, 3) := by decide +kernel
theorem dX6_film_53 : decode cX6_film 53 = .ok (.iinc 5 1, 3) := by decide +kernel
theorem dX6_film_56 : decode cX6_film 56 = .ok (.goto (-34), 3) := by decide +kernel
theorem dX6_film_59 : decode cX6_film 59 = .ok (.bipush 24, 2) := by decide +kernel
theorem dX6_film_61 : decode cX6_film 61 = .ok (.ireturn, 1) := by decide +kernel
theorem dX6_build_0 : decode cX6_build 0 = .ok (.aload_n 0, 1) := by decide +kernel
theorem dX6_build_1 : decode cX6_build 1 = .ok (.iload_n 1, 1) := by decide +kernel
theorem dX6_build_2 : decode cX6_build 2 = .ok (.iload_n 2, 1) := by decide +kernel
theorem dX6_build_3 : decode cX6_build 3 = .ok (.iload_n 3, 1) := by decide +kernel
theorem dX6_build_4 : decode cX6_build 4 = .ok (.bipush 24, 2) := by decide +kernel
theorem dX6_build_6 : decode cX6_build 6 = .ok (.invokevirtual 242, 3) := by decide +kernel
theorem dX6_build_9 : decode cX6_build 9 = .ok (.istore 4, 2) := by decide +kernel
theorem dX6_build_11 : decode cX6_build 11 = .ok (.iload 4, 2) := by decide +kernel
theorem dX6_build_13 : decode cX6_build 13 = .ok (.ifCond .eq 9, 3) := by decide +kernel
theorem dX6_build_16 : decode cX6_build 16 = .ok (.iload 4, 2) := by decide +kernel
theorem dX6_build_18 : decode cX6_build 18 = .ok (.ldc 249, 2) := by decide +kernel
theorem dX6_build_20 : decode cX6_build 20 = .ok (.isub, 1) := by decide +kernel
theorem dX6_build_21 : decode cX6_build 21 = .ok (.ireturn, 1) := by decide +kernel
theorem dX6_build_22 : decode cX6_build 22 = .ok (.aload_n 0, 1) := by decide +kernel
theorem dX6_build_23 : decode cX6_build 23 = .ok (.getfield 46, 3) := by decide +kernel
theorem dX6_build_26 : decode cX6_build 26 = .ok (.iload_n 1, 1) := by decide +kernel
theorem dX6_build_27 : decode cX6_build 27 = .ok (.aaload, 1) := by decide +kernel
theorem dX6_build_28 : decode cX6_build 28 = .ok (.getfield 250, 3) := by decide +kernel
theorem dX6_build_31 : decode cX6_build 31 = .ok (.astore 5, 2) := by decide +kernel
theorem dX6_build_33 : decode cX6_build 33 = .ok (.iconst 0, 1) := by decide +kernel
theorem dX6_build_34 : decode cX6_build 34 = .ok (.istore 6, 2) := by decide +kernel
theorem dX6_build_36 : decode cX6_build 36 = .ok (.iload 6, 2) := by decide +kernel
theorem dX6_build_38 : decode cX6_build 38 = .ok (.bipush 24, 2) := by decide +kernel
theorem dX6_build_40 : decode cX6_build 40 = .ok (.if_icmp .ge 25, 3) := by decide +kernel
theorem dX6_build_43 : decode cX6_build 43 = .ok (.aload 5, 2) := by decide +kernel
theorem dX6_build_45 : decode cX6_build 45 = .ok (.iload_n 3, 1) := by decide +kernel
theorem dX6_build_46 : decode cX6_build 46 = .ok (.iload 6, 2) := by decide +kernel
theorem dX6_build_48 : decode cX6_build 48 = .ok (.iadd, 1) := by decide +kernel
theorem dX6_build_49 : decode cX6_build 49 = .ok (.laload, 1) := by decide +kernel
theorem dX6_build_50 : decode cX6_build 50 = .ok (.invokestatic 170, 3) := by decide +kernel
theorem dX6_build_53 : decode cX6_build 53 = .ok (.ifCond .ne 6, 3) := by decide +kernel
theorem dX6_build_56 : decode cX6_build 56 = .ok (.ldc 195, 2) := by decide +kernel
theorem dX6_build_58 : decode cX6_build 58 = .ok (.ireturn, 1) := by decide +kernel
theorem dX6_build_59 : decode cX6_build 59 = .ok (.iinc 6 1, 3) := by decide +kernel
theorem dX6_build_62 : decode cX6_build 62 = .ok (.goto (-26), 3) := by decide +kernel
theorem dX6_build_65 : decode cX6_build 65 = .ok (.iconst 0, 1) := by decide +kernel
theorem dX6_build_66 : decode cX6_build 66 = .ok (.istore 6, 2) := by decide +kernel
theorem dX6_build_68 : decode cX6_build 68 = .ok (.iload 6, 2) := by decide +kernel
theorem dX6_build_70 : decode cX6_build 70 = .ok (.bipush 24, 2) := by decide +kernel
theorem dX6_build_72 : decode cX6_build 72 = .ok (.if_icmp .ge 27, 3) := by decide +kernel
theorem dX6_build_75 : decode cX6_build 75 = .ok (.aload_n 0, 1) := by decide +kernel
theorem dX6_build_76 : decode cX6_build 76 = .ok (.getfield 12, 3) := by decide +kernel
theorem dX6_build_79 : decode cX6_build 79 = .ok (.getfield 161, 3) := by decide +kernel
theorem dX6_build_82 : decode cX6_build 82 = .ok (.iload 6, 2) := by decide +kernel
theorem dX6_build_84 : decode cX6_build 84 = .ok (.aload 5, 2) := by decide +kernel
theorem dX6_build_86 : decode cX6_build 86 = .ok (.iload_n 3, 1) := by decide +kernel
theorem dX6_build_87 : decode cX6_build 87 = .ok (.iload 6, 2) := by decide +kernel
theorem dX6_build_89 : decode cX6_build 89 = .ok (.iadd, 1) := by decide +kernel
theorem dX6_build_90 : decode cX6_build 90 = .ok (.laload, 1) := by decide +kernel
theorem dX6_build_91 : decode cX6_build 91 = .ok (.l2i, 1) := by decide +kernel
theorem dX6_build_92 : decode cX6_build 92 = .ok (.iastore, 1) := by decide +kernel
theorem dX6_build_93 : decode cX6_build 93 = .ok (.iinc 6 1, 3) := by decide +kernel
theorem dX6_build_96 : decode cX6_build 96 = .ok (.goto (-28), 3) := by decide +kernel
theorem dX6_build_99 : decode cX6_build 99 = .ok (.aload_n 0, 1) := by decide +kernel
theorem dX6_build_100 : decode cX6_build 100 = .ok (.getfield 12, 3) := by decide +kernel
theorem dX6_build_103 : decode cX6_build 103 = .ok (.aload_n 0, 1) := by decide +kernel
theorem dX6_build_104 : decode cX6_build 104 = .ok (.getfield 12, 3) := by decide +kernel
theorem dX6_build_107 : decode cX6_build 107 = .ok (.getfield 161, 3) := by decide +kernel
theorem dX6_build_110 : decode cX6_build 110 = .ok (.invokevirtual 185, 3) := by decide +kernel
theorem dX6_build_113 : decode cX6_build 113 = .ok (.ireturn, 1) := by decide +kernel
theorem dX6_sheet_0 : decode cX6_sheet 0 = .ok (.iload_n 1, 1) := by decide +kernel
theorem dX6_sheet_1 : decode cX6_sheet 1 = .ok (.invokestatic 254, 3) := by decide +kernel
theorem dX6_sheet_4 : decode cX6_sheet 4 = .ok (.ifCond .eq 16, 3) := by decide +kernel
theorem dX6_sheet_7 : decode cX6_sheet 7 = .ok (.iload_n 2, 1) := by decide +kernel
theorem dX6_sheet_8 : decode cX6_sheet 8 = .ok (.invokestatic 257, 3) := by decide +kernel
theorem dX6_sheet_11 : decode cX6_sheet 11 = .ok (.ifCond .eq 9, 3) := by decide +kernel
theorem dX6_sheet_14 : decode cX6_sheet 14 = .ok (.iload_n 3, 1) := by decide +kernel
theorem dX6_sheet_15 : decode cX6_sheet 15 = .ok (.bipush 24, 2) := by decide +kernel
theorem dX6_sheet_17 : decode cX6_sheet 17 = .ok (.if_icmp .le 5, 3) := by decide +kernel
theorem dX6_sheet_20 : decode cX6_sheet 20 = .ok (.iconst (-1), 1) := by decide +kernel
theorem dX6_sheet_21 : decode cX6_sheet 21 = .ok (.ireturn, 1) := by decide +kernel
theorem dX6_sheet_22 : decode cX6_sheet 22 = .ok (.iload_n 3, 1) := by decide +kernel
theorem dX6_sheet_23 : decode cX6_sheet 23 = .ok (.ifCond .ge 6, 3) := by decide +kernel
theorem dX6_sheet_26 : decode cX6_sheet 26 = .ok (.bipush (-14), 2) := by decide +kernel
theorem dX6_sheet_28 : decode cX6_sheet 28 = .ok (.ireturn, 1) := by decide +kernel
theorem dX6_sheet_29 : decode cX6_sheet 29 = .ok (.aload_n 0, 1) := by decide +kernel
theorem dX6_sheet_30 : decode cX6_sheet 30 = .ok (.getfield 46, 3) := by decide +kernel
theorem dX6_sheet_33 : decode cX6_sheet 33 = .ok (.iload_n 1, 1) := by decide +kernel
theorem dX6_sheet_34 : decode cX6_sheet 34 = .ok (.aaload, 1) := by decide +kernel
theorem dX6_sheet_35 : decode cX6_sheet 35 = .ok (.iload_n 2, 1) := by decide +kernel
theorem dX6_sheet_36 : decode cX6_sheet 36 = .ok (.iload_n 3, 1) := by decide +kernel
theorem dX6_sheet_37 : decode cX6_sheet 37 = .ok (.invokevirtual 260, 3) := by decide +kernel
theorem dX6_sheet_40 : decode cX6_sheet 40 = .ok (.iload_n 3, 1) := by decide +kernel
theorem dX6_sheet_41 : decode cX6_sheet 41 = .ok (.ireturn, 1) := by decide +kernel
theorem dX6_drop_0 : decode cX6_drop 0 = .ok (.iload_n 1, 1) := by decide +kernel
theorem dX6_drop_1 : decode cX6_drop 1 = .ok (.invokestatic 254, 3) := by decide +kernel
theorem dX6_drop_4 : decode cX6_drop 4 = .ok (.ifCond .ne 5, 3) := by decide +kernel
theorem dX6_drop_7 : decode cX6_drop 7 = .ok (.iconst (-1), 1) := by decide +kernel
theorem dX6_drop_8 : decode cX6_drop 8 = .ok (.ireturn, 1) := by decide +kernel
theorem dX6_drop_9 : decode cX6_drop 9 = .ok (.aload_n 0, 1) := by decide +kernel
theorem dX6_drop_10 : decode cX6_drop 10 = .ok (.getfield 46, 3) := by decide +kernel
theorem dX6_drop_13 : decode cX6_drop 13 = .ok (.iload_n 1, 1) := by decide +kernel
theorem dX6_drop_14 : decode cX6_drop 14 = .ok (.aaload, 1) := by decide +kernel
theorem dX6_drop_15 : decode cX6_drop 15 = .ok (.getfield 264, 3) := by decide +kernel
theorem dX6_drop_18 : decode cX6_drop 18 = .ok (.iconst (-1), 1) := by decide +kernel
theorem dX6_drop_19 : decode cX6_drop 19 = .ok (.if_icmp .ne 6, 3) := by decide +kernel
theorem dX6_drop_22 : decode cX6_drop 22 = .ok (.bipush (-11), 2) := by decide +kernel
theorem dX6_drop_24 : decode cX6_drop 24 = .ok (.ireturn, 1) := by decide +kernel
theorem dX6_drop_25 : decode cX6_drop 25 = .ok (.aload_n 0, 1) := by decide +kernel
theorem dX6_drop_26 : decode cX6_drop 26 = .ok (.getfield 46, 3) := by decide +kernel
theorem dX6_drop_29 : decode cX6_drop 29 = .ok (.iload_n 1, 1) := by decide +kernel
theorem dX6_drop_30 : decode cX6_drop 30 = .ok (.aaload, 1) := by decide +kernel
theorem dX6_drop_31 : decode cX6_drop 31 = .ok (.getfield 267, 3) := by decide +kernel
theorem dX6_drop_34 : decode cX6_drop 34 = .ok (.istore_n 2, 1) := by decide +kernel
theorem dX6_drop_35 : decode cX6_drop 35 = .ok (.aload_n 0, 1) := by decide +kernel
theorem dX6_drop_36 : decode cX6_drop 36 = .ok (.getfield 46, 3) := by decide +kernel
theorem dX6_drop_39 : decode cX6_drop 39 = .ok (.iload_n 1, 1) := by decide +kernel
theorem dX6_drop_40 : decode cX6_drop 40 = .ok (.aaload, 1) := by decide +kernel
theorem dX6_drop_41 : decode cX6_drop 41 = .ok (.iconst (-1), 1) := by decide +kernel
theorem dX6_drop_42 : decode cX6_drop 42 = .ok (.iconst 0, 1) := by decide +kernel
theorem dX6_drop_43 : decode cX6_drop 43 = .ok (.invokevirtual 260, 3) := by decide +kernel
theorem dX6_drop_46 : decode cX6_drop 46 = .ok (.iload_n 2, 1) := by decide +kernel
theorem dX6_drop_47 : decode cX6_drop 47 = .ok (.ireturn, 1) := by decide +kernel
theorem dX6_item_0 : decode cX6_item 0 = .ok (.aload_n 0, 1) := by decide +kernel
theorem dX6_item_1 : decode cX6_item 1 = .ok (.iload_n 1, 1) := by decide +kernel
theorem dX6_item_2 : decode cX6_item 2 = .ok (.iload_n 2, 1) := by decide +kernel
theorem dX6_item_3 : decode cX6_item 3 = .ok (.iload_n 3, 1) := by decide +kernel
theorem dX6_item_4 : decode cX6_item 4 = .ok (.iconst 1, 1) := by decide +kernel
theorem dX6_item_5 : decode cX6_item 5 = .ok (.invokevirtual 242, 3) := by decide +kernel
theorem dX6_item_8 : decode cX6_item 8 = .ok (.istore 6, 2) := by decide +kernel
theorem dX6_item_10 : decode cX6_item 10 = .ok (.iload 6, 2) := by decide +kernel
theorem dX6_item_12 : decode cX6_item 12 = .ok (.ifCond .eq 6, 3) := by decide +kernel
theorem dX6_item_15 : decode cX6_item 15 = .ok (.iload 6, 2) := by decide +kernel
theorem dX6_item_17 : decode cX6_item 17 = .ok (.ireturn, 1) := by decide +kernel
theorem dX6_item_18 : decode cX6_item 18 = .ok (.aload_n 0, 1) := by decide +kernel
theorem dX6_item_19 : decode cX6_item 19 = .ok (.getfield 46, 3) := by decide +kernel
theorem dX6_item_22 : decode cX6_item 22 = .ok (.iload_n 1, 1) := by decide +kernel
theorem dX6_item_23 : decode cX6_item 23 = .ok (.aaload, 1) := by decide +kernel
theorem dX6_item_24 : decode cX6_item 24 = .ok (.iload_n 3, 1) := by decide +kernel
theorem dX6_item_25 : decode cX6_item 25 = .ok (.lload 4, 2) := by decide +kernel
theorem dX6_item_27 : decode cX6_item 27 = .ok (.invokevirtual 245, 3) := by decide +kernel
theorem dX6_item_30 : decode cX6_item 30 = .ok (.iconst 1, 1) := by decide +kernel
theorem dX6_item_31 : decode cX6_item 31 = .ok (.ireturn, 1) := by decide +kernel
theorem dX6_copy_0 : decode cX6_copy 0 = .ok (.iload_n 1, 1) := by decide +kernel
theorem dX6_copy_1 : decode cX6_copy 1 = .ok (.invokestatic 254, 3) := by decide +kernel
theorem dX6_copy_4 : decode cX6_copy 4 = .ok (.ifCond .eq 10, 3) := by decide +kernel
theorem dX6_copy_7 : decode cX6_copy 7 = .ok (.iload_n 3, 1) := by decide +kernel
theorem dX6_copy_8 : decode cX6_copy 8 = .ok (.invokestatic 254, 3) := by decide +kernel
theorem dX6_copy_11 : decode cX6_copy 11 = .ok (.ifCond .ne 5, 3) := by decide +kernel
theorem dX6_copy_14 : decode cX6_copy 14 = .ok (.iconst (-1), 1) := by decide +kernel
theorem dX6_copy_15 : decode cX6_copy 15 = .ok (.ireturn, 1) := by decide +kernel
theorem dX6_copy_16 : decode cX6_copy 16 = .ok (.aload_n 0, 1) := by decide +kernel
theorem dX6_copy_17 : decode cX6_copy 17 = .ok (.getfield 46, 3) := by decide +kernel
theorem dX6_copy_20 : decode cX6_copy 20 = .ok (.iload_n 1, 1) := by decide +kernel
theorem dX6_copy_21 : decode cX6_copy 21 = .ok (.aaload, 1) := by decide +kernel
theorem dX6_copy_22 : decode cX6_copy 22 = .ok (.astore 6, 2) := by decide +kernel
theorem dX6_copy_24 : decode cX6_copy 24 = .ok (.aload_n 0, 1) := by decide +kernel
theorem dX6_copy_25 : decode cX6_copy 25 = .ok (.getfield 46, 3) := by decide +kernel
theorem dX6_copy_28 : decode cX6_copy 28 = .ok (.iload_n 3, 1) := by decide +kernel
theorem dX6_copy_29 : decode cX6_copy 29 = .ok (.aaload, 1) := by decide +kernel
theorem dX6_copy_30 : decode cX6_copy 30 = .ok (.astore 7, 2) := by decide +kernel
theorem dX6_copy_32 : decode cX6_copy 32 = .ok (.aload 6, 2) := by decide +kernel
theorem dX6_copy_34 : decode cX6_copy 34 = .ok (.getfield 264, 3) := by decide +kernel
theorem dX6_copy_37 : decode cX6_copy 37 = .ok (.iconst (-1), 1) := by decide +kernel
theorem dX6_copy_38 : decode cX6_copy 38 = .ok (.if_icmp .eq 12, 3) := by decide +kernel
theorem dX6_copy_41 : decode cX6_copy 41 = .ok (.aload 7, 2) := by decide +kernel
theorem dX6_copy_43 : decode cX6_copy 43 = .ok (.getfield 264, 3) := by decide +kernel
theorem dX6_copy_46 : decode cX6_copy 46 = .ok (.iconst (-1), 1) := by decide +kernel
theorem dX6_copy_47 : decode cX6_copy 47 = .ok (.if_icmp .ne 6, 3) := by decide +kernel
theorem dX6_copy_50 : decode cX6_copy 50 = .ok (.bipush (-11), 2) := by decide +kernel
theorem dX6_copy_52 : decode cX6_copy 52 = .ok (.ireturn, 1) := by decide +kernel
theorem dX6_copy_53 : decode cX6_copy 53 = .ok (.aload 6, 2) := by decide +kernel
theorem dX6_copy_55 : decode cX6_copy 55 = .ok (.getfield 264, 3) := by decide +kernel
theorem dX6_copy_58 : decode cX6_copy 58 = .ok (.aload 7, 2) := by decide +kernel
theorem dX6_copy_60 : decode cX6_copy 60 = .ok (.getfield 264, 3) := by decide +kernel
theorem dX6_copy_63 : decode cX6_copy 63 = .ok (.if_icmp .eq 6, 3) := by decide +kernel
theorem dX6_copy_66 : decode cX6_copy 66 = .ok (.bipush (-12), 2) := by decide +kernel
theorem dX6_copy_68 : decode cX6_copy 68 = .ok (.ireturn, 1) := by decide +kernel
theorem dX6_copy_69 : decode cX6_copy 69 = .ok (.aload 6, 2) := by decide +kernel
theorem dX6_copy_71 : decode cX6_copy 71 = .ok (.iload_n 2, 1) := by decide +kernel
theorem dX6_copy_72 : decode cX6_copy 72 = .ok (.iload 5, 2) := by decide +kernel
theorem dX6_copy_74 : decode cX6_copy 74 = .ok (.invokevirtual 268, 3) := by decide +kernel
theorem dX6_copy_77 : decode cX6_copy 77 = .ok (.ifCond .eq 15, 3) := by decide +kernel
theorem dX6_copy_80 : decode cX6_copy 80 = .ok (.aload 7, 2) := by decide +kernel
theorem dX6_copy_82 : decode cX6_copy 82 = .ok (.iload 4, 2) := by decide +kernel
theorem dX6_copy_84 : decode cX6_copy 84 = .ok (.iload 5, 2) := by decide +kernel
theorem dX6_copy_86 : decode cX6_copy 86 = .ok (.invokevirtual 268, 3) := by decide +kernel
theorem dX6_copy_89 : decode cX6_copy 89 = .ok (.ifCond .ne 6, 3) := by decide +kernel
theorem dX6_copy_92 : decode cX6_copy 92 = .ok (.bipush (-13), 2) := by decide +kernel
theorem dX6_copy_94 : decode cX6_copy 94 = .ok (.ireturn, 1) := by decide +kernel
theorem dX6_copy_95 : decode cX6_copy 95 = .ok (.aload 6, 2) := by decide +kernel
theorem dX6_copy_97 : decode cX6_copy 97 = .ok (.getfield 250, 3) := by decide +kernel
theorem dX6_copy_100 : decode cX6_copy 100 = .ok (.iload_n 2, 1) := by decide +kernel
theorem dX6_copy_101 : decode cX6_copy 101 = .ok (.aload 7, 2) := by decide +kernel
theorem dX6_copy_103 : decode cX6_copy 103 = .ok (.getfield 250, 3) := by decide +kernel
theorem dX6_copy_106 : decode cX6_copy 106 = .ok (.iload 4, 2) := by decide +kernel
theorem dX6_copy_108 : decode cX6_copy 108 = .ok (.iload 5, 2) := by decide +kernel
theorem dX6_copy_110 : decode cX6_copy 110 = .ok (.invokestatic 164, 3) := by decide +kernel
theorem dX6_copy_113 : decode cX6_copy 113 = .ok (.iload 5, 2) := by decide +kernel
theorem dX6_copy_115 : decode cX6_copy 115 = .ok (.ireturn, 1) := by decide +kernel
theorem dX6_isWithin_0 : decode cX6_isWithin 0 = .ok (.iload_n 0, 1) := by decide +kernel
theorem dX6_isWithin_1 : decode cX6_isWithin 1 = .ok (.ifCond .lt 12, 3) := by decide +kernel
theorem dX6_isWithin_4 : decode cX6_isWithin 4 = .ok (.iload_n 0, 1) := by decide +kernel
theorem dX6_isWithin_5 : decode cX6_isWithin 5 = .ok (.iload_n 1, 1) := by decide +kernel
theorem dX6_isWithin_6 : decode cX6_isWithin 6 = .ok (.if_icmp .gt 7, 3) := by decide +kernel
theorem dX6_isWithin_9 : decode cX6_isWithin 9 = .ok (.iconst 1, 1) := by decide +kernel
theorem dX6_isWithin_10 : decode cX6_isWithin 10 = .ok (.goto 4, 3) := by decide +kernel
theorem dX6_isWithin_13 : decode cX6_isWithin 13 = .ok (.iconst 0, 1) := by decide +kernel
theorem dX6_isWithin_14 : decode cX6_isWithin 14 = .ok (.ireturn, 1) := by decide +kernel
theorem dX6_isHour_0 : decode cX6_isHour 0 = .ok (.iload_n 0, 1) := by decide +kernel
theorem dX6_isHour_1 : decode cX6_isHour 1 = .ok (.ifCond .lt 13, 3) := by decide +kernel
theorem dX6_isHour_4 : decode cX6_isHour 4 = .ok (.iload_n 0, 1) := by decide +kernel
theorem dX6_isHour_5 : decode cX6_isHour 5 = .ok (.bipush 24, 2) := by decide +kernel
theorem dX6_isHour_7 : decode cX6_isHour 7 = .ok (.if_icmp .ge 7, 3) := by decide +kernel
theorem dX6_isHour_10 : decode cX6_isHour 10 = .ok (.iconst 1, 1) := by decide +kernel
theorem dX6_isHour_11 : decode cX6_isHour 11 = .ok (.goto 4, 3) := by decide +kernel
theorem dX6_isHour_14 : decode cX6_isHour 14 = .ok (.iconst 0, 1) := by decide +kernel
theorem dX6_isHour_15 : decode cX6_isHour 15 = .ok (.ireturn, 1) := by decide +kernel
theorem dX6_isNumber_0 : decode cX6_isNumber 0 = .ok (.lload_n 0, 1) := by decide +kernel
theorem dX6_isNumber_1 : decode cX6_isNumber 1 = .ok (.ldc2_w 271, 3) := by decide +kernel
theorem dX6_isNumber_4 : decode cX6_isNumber 4 = .ok (.lcmp, 1) := by decide +kernel
theorem dX6_isNumber_5 : decode cX6_isNumber 5 = .ok (.ifCond .lt 15, 3) := by decide +kernel
theorem dX6_isNumber_8 : decode cX6_isNumber 8 = .ok (.lload_n 0, 1) := by decide +kernel
theorem dX6_isNumber_9 : decode cX6_isNumber 9 = .ok (.ldc2_w 273, 3) := by decide +kernel
theorem dX6_isNumber_12 : decode cX6_isNumber 12 = .ok (.lcmp, 1) := by decide +kernel
theorem dX6_isNumber_13 : decode cX6_isNumber 13 = .ok (.ifCond .gt 7, 3) := by decide +kernel
theorem dX6_isNumber_16 : decode cX6_isNumber 16 = .ok (.iconst 1, 1) := by decide +kernel
theorem dX6_isNumber_17 : decode cX6_isNumber 17 = .ok (.goto 4, 3) := by decide +kernel
theorem dX6_isNumber_20 : decode cX6_isNumber 20 = .ok (.iconst 0, 1) := by decide +kernel
theorem dX6_isNumber_21 : decode cX6_isNumber 21 = .ok (.ireturn, 1) := by decide +kernel
theorem dX6_isSheet_0 : decode cX6_isSheet 0 = .ok (.iload_n 0, 1) := by decide +kernel
theorem dX6_isSheet_1 : decode cX6_isSheet 1 = .ok (.ifCond .lt 12, 3) := by decide +kernel
theorem dX6_isSheet_4 : decode cX6_isSheet 4 = .ok (.iload_n 0, 1) := by decide +kernel
theorem dX6_isSheet_5 : decode cX6_isSheet 5 = .ok (.iconst 4, 1) := by decide +kernel
theorem dX6_isSheet_6 : decode cX6_isSheet 6 = .ok (.if_icmp .ge 7, 3) := by decide +kernel
theorem dX6_isSheet_9 : decode cX6_isSheet 9 = .ok (.iconst 1, 1) := by decide +kernel
theorem dX6_isSheet_10 : decode cX6_isSheet 10 = .ok (.goto 4, 3) := by decide +kernel
theorem dX6_isSheet_13 : decode cX6_isSheet 13 = .ok (.iconst 0, 1) := by decide +kernel
theorem dX6_isSheet_14 : decode cX6_isSheet 14 = .ok (.ireturn, 1) := by decide +kernel
theorem dX6_isLane_0 : decode cX6_isLane 0 = .ok (.iload_n 0, 1) := by decide +kernel
theorem dX6_isLane_1 : decode cX6_isLane 1 = .ok (.ifCond .lt 12, 3) := by decide +kernel
theorem dX6_isLane_4 : decode cX6_isLane 4 = .ok (.iload_n 0, 1) := by decide +kernel
theorem dX6_isLane_5 : decode cX6_isLane 5 = .ok (.iconst 2, 1) := by decide +kernel
theorem dX6_isLane_6 : decode cX6_isLane 6 = .ok (.if_icmp .gt 7, 3) := by decide +kernel
theorem dX6_isLane_9 : decode cX6_isLane 9 = .ok (.iconst 1, 1) := by decide +kernel
theorem dX6_isLane_10 : decode cX6_isLane 10 = .ok (.goto 4, 3) := by decide +kernel
theorem dX6_isLane_13 : decode cX6_isLane 13 = .ok (.iconst 0, 1) := by decide +kernel
theorem dX6_isLane_14 : decode cX6_isLane 14 = .ok (.ireturn, 1) := by decide +kernel
theorem dX6_mostOfSetting_0 : decode cX6_mostOfSetting 0 = .ok (.iload_n 0, 1) := by decide +kernel
theorem dX6_mostOfSetting_1 : decode cX6_mostOfSetting 1 = .ok (.tableswitch 40 0 3 #[31, 34, 34, 37], 31) := by decide +kernel
theorem dX6_mostOfSetting_32 : decode cX6_mostOfSetting 32 = .ok (.bipush 99, 2) := by decide +kernel
theorem dX6_mostOfSetting_34 : decode cX6_mostOfSetting 34 = .ok (.ireturn, 1) := by decide +kernel
theorem dX6_mostOfSetting_35 : decode cX6_mostOfSetting 35 = .ok (.bipush 60, 2) := by decide +kernel
theorem dX6_mostOfSetting_37 : decode cX6_mostOfSetting 37 = .ok (.ireturn, 1) := by decide +kernel
theorem dX6_mostOfSetting_38 : decode cX6_mostOfSetting 38 = .ok (.bipush 20, 2) := by decide +kernel
theorem dX6_mostOfSetting_40 : decode cX6_mostOfSetting 40 = .ok (.ireturn, 1) := by decide +kernel
theorem dX6_mostOfSetting_41 : decode cX6_mostOfSetting 41 = .ok (.iconst (-1), 1) := by decide +kernel
theorem dX6_mostOfSetting_42 : decode cX6_mostOfSetting 42 = .ok (.ireturn, 1) := by decide +kernel
theorem dX6_byteOf_0 : decode cX6_byteOf 0 = .ok (.lload_n 0, 1) := by decide +kernel
theorem dX6_byteOf_1 : decode cX6_byteOf 1 = .ok (.bipush 8, 2) := by decide +kernel
theorem dX6_byteOf_3 : decode cX6_byteOf 3 = .ok (.iload_n 2, 1) := by decide +kernel
theorem dX6_byteOf_4 : decode cX6_byteOf 4 = .ok (.imul, 1) := by decide +kernel
theorem dX6_byteOf_5 : decode cX6_byteOf 5 = .ok (.lushr, 1) := by decide +kernel
theorem dX6_byteOf_6 : decode cX6_byteOf 6 = .ok (.l2i, 1) := by decide +kernel
theorem dX6_byteOf_7 : decode cX6_byteOf 7 = .ok (.sipush 255, 3) := by decide +kernel
theorem dX6_byteOf_10 : decode cX6_byteOf 10 = .ok (.iand, 1) := by decide +kernel
theorem dX6_byteOf_11 : decode cX6_byteOf 11 = .ok (.ireturn, 1) := by decide +kernel
theorem dX6_apart_0 : decode cX6_apart 0 = .ok (.iload_n 0, 1) := by decide +kernel
theorem dX6_apart_1 : decode cX6_apart 1 = .ok (.iload_n 1, 1) := by decide +kernel
theorem dX6_apart_2 : decode cX6_apart 2 = .ok (.isub, 1) := by decide +kernel
theorem dX6_apart_3 : decode cX6_apart 3 = .ok (.invokestatic 275, 3) := by decide +kernel
theorem dX6_apart_6 : decode cX6_apart 6 = .ok (.istore_n 2, 1) := by decide +kernel
theorem dX6_apart_7 : decode cX6_apart 7 = .ok (.iload_n 2, 1) := by decide +kernel
theorem dX6_apart_8 : decode cX6_apart 8 = .ok (.bipush 24, 2) := by decide +kernel
theorem dX6_apart_10 : decode cX6_apart 10 = .ok (.iload_n 2, 1) := by decide +kernel
theorem dX6_apart_11 : decode cX6_apart 11 = .ok (.isub, 1) := by decide +kernel
theorem dX6_apart_12 : decode cX6_apart 12 = .ok (.invokestatic 280, 3) := by decide +kernel
theorem dX6_apart_15 : decode cX6_apart 15 = .ok (.ireturn, 1) := by decide +kernel
theorem dX6_lateAt_0 : decode cX6_lateAt 0 = .ok (.iconst 0, 1) := by decide +kernel
theorem dX6_lateAt_1 : decode cX6_lateAt 1 = .ok (.istore_n 2, 1) := by decide +kernel
theorem dX6_lateAt_2 : decode cX6_lateAt 2 = .ok (.iconst 0, 1) := by decide +kernel
theorem dX6_lateAt_3 : decode cX6_lateAt 3 = .ok (.istore_n 3, 1) := by decide +kernel
theorem dX6_lateAt_4 : decode cX6_lateAt 4 = .ok (.iload_n 3, 1) := by decide +kernel
theorem dX6_lateAt_5 : decode cX6_lateAt 5 = .ok (.iload_n 1, 1) := by decide +kernel
theorem dX6_lateAt_6 : decode cX6_lateAt 6 = .ok (.if_icmp .ge 21, 3) := by decide +kernel
theorem dX6_lateAt_9 : decode cX6_lateAt 9 = .ok (.iload_n 3, 1) := by decide +kernel
theorem dX6_lateAt_10 : decode cX6_lateAt 10 = .ok (.aload_n 0, 1) := by decide +kernel
theorem dX6_lateAt_11 : decode cX6_lateAt 11 = .ok (.arraylength, 1) := by decide +kernel
theorem dX6_lateAt_12 : decode cX6_lateAt 12 = .ok (.if_icmp .ge 15, 3) := by decide +kernel
theorem dX6_lateAt_15 : decode cX6_lateAt 15 = .ok (.iload_n 2, 1) := by decide +kernel
theorem dX6_lateAt_16 : decode cX6_lateAt 16 = .ok (.aload_n 0, 1) := by decide +kernel
theorem dX6_lateAt_17 : decode cX6_lateAt 17 = .ok (.iload_n 3, 1) := by decide +kernel
theorem dX6_lateAt_18 : decode cX6_lateAt 18 = .ok (.iaload, 1) := by decide +kernel
theorem dX6_lateAt_19 : decode cX6_lateAt 19 = .ok (.iadd, 1) := by decide +kernel
theorem dX6_lateAt_20 : decode cX6_lateAt 20 = .ok (.istore_n 2, 1) := by decide +kernel
theorem dX6_lateAt_21 : decode cX6_lateAt 21 = .ok (.iinc 3 1, 3) := by decide +kernel
theorem dX6_lateAt_24 : decode cX6_lateAt 24 = .ok (.goto (-20), 3) := by decide +kernel
theorem dX6_lateAt_27 : decode cX6_lateAt 27 = .ok (.iload_n 2, 1) := by decide +kernel
theorem dX6_lateAt_28 : decode cX6_lateAt 28 = .ok (.ireturn, 1) := by decide +kernel
theorem dX6_rowRefusal_0 : decode cX6_rowRefusal 0 = .ok (.iload_n 1, 1) := by decide +kernel
theorem dX6_rowRefusal_1 : decode cX6_rowRefusal 1 = .ok (.invokestatic 254, 3) := by decide +kernel
theorem dX6_rowRefusal_4 : decode cX6_rowRefusal 4 = .ok (.ifCond .eq 10, 3) := by decide +kernel
theorem dX6_rowRefusal_7 : decode cX6_rowRefusal 7 = .ok (.iload_n 2, 1) := by decide +kernel
theorem dX6_rowRefusal_8 : decode cX6_rowRefusal 8 = .ok (.invokestatic 257, 3) := by decide +kernel
theorem dX6_rowRefusal_11 : decode cX6_rowRefusal 11 = .ok (.ifCond .ne 5, 3) := by decide +kernel
theorem dX6_rowRefusal_14 : decode cX6_rowRefusal 14 = .ok (.iconst (-1), 1) := by decide +kernel
theorem dX6_rowRefusal_15 : decode cX6_rowRefusal 15 = .ok (.ireturn, 1) := by decide +kernel
theorem dX6_rowRefusal_16 : decode cX6_rowRefusal 16 = .ok (.aload_n 0, 1) := by decide +kernel
theorem dX6_rowRefusal_17 : decode cX6_rowRefusal 17 = .ok (.getfield 46, 3) := by decide +kernel
theorem dX6_rowRefusal_20 : decode cX6_rowRefusal 20 = .ok (.iload_n 1, 1) := by decide +kernel
theorem dX6_rowRefusal_21 : decode cX6_rowRefusal 21 = .ok (.aaload, 1) := by decide +kernel
theorem dX6_rowRefusal_22 : decode cX6_rowRefusal 22 = .ok (.getfield 264, 3) := by decide +kernel
theorem dX6_rowRefusal_25 : decode cX6_rowRefusal 25 = .ok (.iconst (-1), 1) := by decide +kernel
theorem dX6_rowRefusal_26 : decode cX6_rowRefusal 26 = .ok (.if_icmp .ne 6, 3) := by decide +kernel
theorem dX6_rowRefusal_29 : decode cX6_rowRefusal 29 = .ok (.bipush (-11), 2) := by decide +kernel
theorem dX6_rowRefusal_31 : decode cX6_rowRefusal 31 = .ok (.ireturn, 1) := by decide +kernel
theorem dX6_rowRefusal_32 : decode cX6_rowRefusal 32 = .ok (.aload_n 0, 1) := by decide +kernel
theorem dX6_rowRefusal_33 : decode cX6_rowRefusal 33 = .ok (.getfield 46, 3) := by decide +kernel
theorem dX6_rowRefusal_36 : decode cX6_rowRefusal 36 = .ok (.iload_n 1, 1) := by decide +kernel
theorem dX6_rowRefusal_37 : decode cX6_rowRefusal 37 = .ok (.aaload, 1) := by decide +kernel
theorem dX6_rowRefusal_38 : decode cX6_rowRefusal 38 = .ok (.getfield 264, 3) := by decide +kernel
theorem dX6_rowRefusal_41 : decode cX6_rowRefusal 41 = .ok (.iload_n 2, 1) := by decide +kernel
theorem dX6_rowRefusal_42 : decode cX6_rowRefusal 42 = .ok (.if_icmp .eq 6, 3) := by decide +kernel
theorem dX6_rowRefusal_45 : decode cX6_rowRefusal 45 = .ok (.bipush (-12), 2) := by decide +kernel
theorem dX6_rowRefusal_47 : decode cX6_rowRefusal 47 = .ok (.ireturn, 1) := by decide +kernel
theorem dX6_rowRefusal_48 : decode cX6_rowRefusal 48 = .ok (.aload_n 0, 1) := by decide +kernel
theorem dX6_rowRefusal_49 : decode cX6_rowRefusal 49 = .ok (.getfield 46, 3) := by decide +kernel
theorem dX6_rowRefusal_52 : decode cX6_rowRefusal 52 = .ok (.iload_n 1, 1) := by decide +kernel
theorem dX6_rowRefusal_53 : decode cX6_rowRefusal 53 = .ok (.aaload, 1) := by decide +kernel
theorem dX6_rowRefusal_54 : decode cX6_rowRefusal 54 = .ok (.iload_n 3, 1) := by decide +kernel
theorem dX6_rowRefusal_55 : decode cX6_rowRefusal 55 = .ok (.iload 4, 2) := by decide +kernel
theorem dX6_rowRefusal_57 : decode cX6_rowRefusal 57 = .ok (.invokevirtual 268, 3) := by decide +kernel
theorem dX6_rowRefusal_60 : decode cX6_rowRefusal 60 = .ok (.ifCond .eq 7, 3) := by decide +kernel
theorem dX6_rowRefusal_63 : decode cX6_rowRefusal 63 = .ok (.iconst 0, 1) := by decide +kernel
theorem dX6_rowRefusal_64 : decode cX6_rowRefusal 64 = .ok (.goto 5, 3) := by decide +kernel
theorem dX6_rowRefusal_67 : decode cX6_rowRefusal 67 = .ok (.bipush (-13), 2) := by decide +kernel
theorem dX6_rowRefusal_69 : decode cX6_rowRefusal 69 = .ok (.ireturn, 1) := by decide +kernel
theorem dX6_clocksRefusal_0 : decode cX6_clocksRefusal 0 = .ok (.iload 4, 2) := by decide +kernel
theorem dX6_clocksRefusal_2 : decode cX6_clocksRefusal 2 = .ok (.iconst 1, 1) := by decide +kernel
theorem dX6_clocksRefusal_3 : decode cX6_clocksRefusal 3 = .ok (.if_icmp .lt 10, 3) := by decide +kernel
theorem dX6_clocksRefusal_6 : decode cX6_clocksRefusal 6 = .ok (.iload 4, 2) := by decide +kernel
theorem dX6_clocksRefusal_8 : decode cX6_clocksRefusal 8 = .ok (.bipush 8, 2) := by decide +kernel
theorem dX6_clocksRefusal_10 : decode cX6_clocksRefusal 10 = .ok (.if_icmp .le 5, 3) := by decide +kernel
theorem dX6_clocksRefusal_13 : decode cX6_clocksRefusal 13 = .ok (.iconst (-1), 1) := by decide +kernel
theorem dX6_clocksRefusal_14 : decode cX6_clocksRefusal 14 = .ok (.ireturn, 1) := by decide +kernel
theorem dX6_clocksRefusal_15 : decode cX6_clocksRefusal 15 = .ok (.aload_n 0, 1) := by decide +kernel
theorem dX6_clocksRefusal_16 : decode cX6_clocksRefusal 16 = .ok (.iload_n 1, 1) := by decide +kernel
theorem dX6_clocksRefusal_17 : decode cX6_clocksRefusal 17 = .ok (.iload_n 2, 1) := by decide +kernel
theorem dX6_clocksRefusal_18 : decode cX6_clocksRefusal 18 = .ok (.iload_n 3, 1) := by decide +kernel
theorem dX6_clocksRefusal_19 : decode cX6_clocksRefusal 19 = .ok (.iconst 2, 1) := by decide +kernel
theorem dX6_clocksRefusal_20 : decode cX6_clocksRefusal 20 = .ok (.iload 4, 2) := by decide +kernel
theorem dX6_clocksRefusal_22 : decode cX6_clocksRefusal 22 = .ok (.imul, 1) := by decide +kernel
theorem dX6_clocksRefusal_23 : decode cX6_clocksRefusal 23 = .ok (.invokevirtual 242, 3) := by decide +kernel
theorem dX6_clocksRefusal_26 : decode cX6_clocksRefusal 26 = .ok (.istore 5, 2) := by decide +kernel
theorem dX6_clocksRefusal_28 : decode cX6_clocksRefusal 28 = .ok (.iload 5, 2) := by decide +kernel
theorem dX6_clocksRefusal_30 : decode cX6_clocksRefusal 30 = .ok (.ifCond .eq 6, 3) := by decide +kernel
theorem dX6_clocksRefusal_33 : decode cX6_clocksRefusal 33 = .ok (.iload 5, 2) := by decide +kernel
theorem dX6_clocksRefusal_35 : decode cX6_clocksRefusal 35 = .ok (.ireturn, 1) := by decide +kernel
theorem dX6_clocksRefusal_36 : decode cX6_clocksRefusal 36 = .ok (.aload_n 0, 1) := by decide +kernel
theorem dX6_clocksRefusal_37 : decode cX6_clocksRefusal 37 = .ok (.getfield 46, 3) := by decide +kernel
theorem dX6_clocksRefusal_40 : decode cX6_clocksRefusal 40 = .ok (.iload_n 1, 1) := by decide +kernel
theorem dX6_clocksRefusal_41 : decode cX6_clocksRefusal 41 = .ok (.aaload, 1) := by decide +kernel
theorem dX6_clocksRefusal_42 : decode cX6_clocksRefusal 42 = .ok (.getfield 250, 3) := by decide +kernel
theorem dX6_clocksRefusal_45 : decode cX6_clocksRefusal 45 = .ok (.astore 6, 2) := by decide +kernel
theorem dX6_clocksRefusal_47 : decode cX6_clocksRefusal 47 = .ok (.iconst 0, 1) := by decide +kernel
theorem dX6_clocksRefusal_48 : decode cX6_clocksRefusal 48 = .ok (.istore 7, 2) := by decide +kernel
theorem dX6_clocksRefusal_50 : decode cX6_clocksRefusal 50 = .ok (.iload 7, 2) := by decide +kernel
theorem dX6_clocksRefusal_52 : decode cX6_clocksRefusal 52 = .ok (.iload 4, 2) := by decide +kernel
theorem dX6_clocksRefusal_54 : decode cX6_clocksRefusal 54 = .ok (.if_icmp .ge 39, 3) := by decide +kernel
theorem dX6_clocksRefusal_57 : decode cX6_clocksRefusal 57 = .ok (.aload 6, 2) := by decide +kernel
theorem dX6_clocksRefusal_59 : decode cX6_clocksRefusal 59 = .ok (.iload_n 3, 1) := by decide +kernel
theorem dX6_clocksRefusal_60 : decode cX6_clocksRefusal 60 = .ok (.iconst 2, 1) := by decide +kernel
theorem dX6_clocksRefusal_61 : decode cX6_clocksRefusal 61 = .ok (.iload 7, 2) := by decide +kernel
theorem dX6_clocksRefusal_63 : decode cX6_clocksRefusal 63 = .ok (.imul, 1) := by decide +kernel
theorem dX6_clocksRefusal_64 : decode cX6_clocksRefusal 64 = .ok (.iadd, 1) := by decide +kernel
theorem dX6_clocksRefusal_65 : decode cX6_clocksRefusal 65 = .ok (.laload, 1) := by decide +kernel
theorem dX6_clocksRefusal_66 : decode cX6_clocksRefusal 66 = .ok (.lstore 8, 2) := by decide +kernel
theorem dX6_clocksRefusal_68 : decode cX6_clocksRefusal 68 = .ok (.lload 8, 2) := by decide +kernel
theorem dX6_clocksRefusal_70 : decode cX6_clocksRefusal 70 = .ok (.lconst 0, 1) := by decide +kernel
theorem dX6_clocksRefusal_71 : decode cX6_clocksRefusal 71 = .ok (.lcmp, 1) := by decide +kernel
theorem dX6_clocksRefusal_72 : decode cX6_clocksRefusal 72 = .ok (.ifCond .lt 12, 3) := by decide +kernel
theorem dX6_clocksRefusal_75 : decode cX6_clocksRefusal 75 = .ok (.lload 8, 2) := by decide +kernel
theorem dX6_clocksRefusal_77 : decode cX6_clocksRefusal 77 = .ok (.ldc2_w 283, 3) := by decide +kernel
theorem dX6_clocksRefusal_80 : decode cX6_clocksRefusal 80 = .ok (.lcmp, 1) := by decide +kernel
theorem dX6_clocksRefusal_81 : decode cX6_clocksRefusal 81 = .ok (.ifCond .le 6, 3) := by decide +kernel
theorem dX6_clocksRefusal_84 : decode cX6_clocksRefusal 84 = .ok (.bipush (-2), 2) := by decide +kernel
theorem dX6_clocksRefusal_86 : decode cX6_clocksRefusal 86 = .ok (.ireturn, 1) := by decide +kernel
theorem dX6_clocksRefusal_87 : decode cX6_clocksRefusal 87 = .ok (.iinc 7 1, 3) := by decide +kernel
theorem dX6_clocksRefusal_90 : decode cX6_clocksRefusal 90 = .ok (.goto (-40), 3) := by decide +kernel
theorem dX6_clocksRefusal_93 : decode cX6_clocksRefusal 93 = .ok (.iconst 0, 1) := by decide +kernel
theorem dX6_clocksRefusal_94 : decode cX6_clocksRefusal 94 = .ok (.ireturn, 1) := by decide +kernel
theorem dJ9_abs_0f7a4_0 : decode cJ9_abs_0f7a4 0 = .ok (.iload_n 0, 1) := by decide +kernel
theorem dJ9_abs_0f7a4_1 : decode cJ9_abs_0f7a4 1 = .ok (.ifCond .ge 8, 3) := by decide +kernel
theorem dJ9_abs_0f7a4_4 : decode cJ9_abs_0f7a4 4 = .ok (.iload_n 0, 1) := by decide +kernel
theorem dJ9_abs_0f7a4_5 : decode cJ9_abs_0f7a4 5 = .ok (.ineg, 1) := by decide +kernel
theorem dJ9_abs_0f7a4_6 : decode cJ9_abs_0f7a4 6 = .ok (.goto 4, 3) := by decide +kernel
theorem dJ9_abs_0f7a4_9 : decode cJ9_abs_0f7a4 9 = .ok (.iload_n 0, 1) := by decide +kernel
theorem dJ9_abs_0f7a4_10 : decode cJ9_abs_0f7a4 10 = .ok (.ireturn, 1) := by decide +kernel
theorem dJ9_max_7cf53_0 : decode cJ9_max_7cf53 0 = .ok (.iload_n 0, 1) := by decide +kernel
theorem dJ9_max_7cf53_1 : decode cJ9_max_7cf53 1 = .ok (.iload_n 1, 1) := by decide +kernel
theorem dJ9_max_7cf53_2 : decode cJ9_max_7cf53 2 = .ok (.if_icmp .lt 7, 3) := by decide +kernel
theorem dJ9_max_7cf53_5 : decode cJ9_max_7cf53 5 = .ok (.iload_n 0, 1) := by decide +kernel
theorem dJ9_max_7cf53_6 : decode cJ9_max_7cf53 6 = .ok (.goto 4, 3) := by decide +kernel
theorem dJ9_max_7cf53_9 : decode cJ9_max_7cf53 9 = .ok (.iload_n 1, 1) := by decide +kernel
theorem dJ9_max_7cf53_10 : decode cJ9_max_7cf53 10 = .ok (.ireturn, 1) := by decide +kernel
theorem dJ9_min_7cf53_0 : decode cJ9_min_7cf53 0 = .ok (.iload_n 0, 1) := by decide +kernel
theorem dJ9_min_7cf53_1 : decode cJ9_min_7cf53 1 = .ok (.iload_n 1, 1) := by decide +kernel
theorem dJ9_min_7cf53_2 : decode cJ9_min_7cf53 2 = .ok (.if_icmp .gt 7, 3) := by decide +kernel
theorem dJ9_min_7cf53_5 : decode cJ9_min_7cf53 5 = .ok (.iload_n 0, 1) := by decide +kernel
theorem dJ9_min_7cf53_6 : decode cJ9_min_7cf53 6 = .ok (.goto 4, 3) := by decide +kernel
theorem dJ9_min_7cf53_9 : decode cJ9_min_7cf53 9 = .ok (.iload_n 1, 1) := by decide +kernel
theorem dJ9_min_7cf53_10 : decode cJ9_min_7cf53 10 = .ok (.ireturn, 1) := by decide +kernel
theorem dJ7_fill_d0a16_0 : decode cJ7_fill_d0a16 0 = .ok (.iconst 0, 1) := by decide +kernel
theorem dJ7_fill_d0a16_1 : decode cJ7_fill_d0a16 1 = .ok (.istore_n 3, 1) := by decide +kernel
theorem dJ7_fill_d0a16_2 : decode cJ7_fill_d0a16 2 = .ok (.aload_n 0, 1) := by decide +kernel
theorem dJ7_fill_d0a16_3 : decode cJ7_fill_d0a16 3 = .ok (.arraylength, 1) := by decide +kernel
theorem dJ7_fill_d0a16_4 : decode cJ7_fill_d0a16 4 = .ok (.istore 4, 2) := by decide +kernel
theorem dJ7_fill_d0a16_6 : decode cJ7_fill_d0a16 6 = .ok (.iload_n 3, 1) := by decide +kernel
theorem dJ7_fill_d0a16_7 : decode cJ7_fill_d0a16 7 = .ok (.iload 4, 2) := by decide +kernel
theorem dJ7_fill_d0a16_9 : decode cJ7_fill_d0a16 9 = .ok (.if_icmp .ge 13, 3) := by decide +kernel
theorem dJ7_fill_d0a16_12 : decode cJ7_fill_d0a16 12 = .ok (.aload_n 0, 1) := by decide +kernel
theorem dJ7_fill_d0a16_13 : decode cJ7_fill_d0a16 13 = .ok (.iload_n 3, 1) := by decide +kernel
theorem dJ7_fill_d0a16_14 : decode cJ7_fill_d0a16 14 = .ok (.lload_n 1, 1) := by decide +kernel
theorem dJ7_fill_d0a16_15 : decode cJ7_fill_d0a16 15 = .ok (.lastore, 1) := by decide +kernel
theorem dJ7_fill_d0a16_16 : decode cJ7_fill_d0a16 16 = .ok (.iinc 3 1, 3) := by decide +kernel
theorem dJ7_fill_d0a16_19 : decode cJ7_fill_d0a16 19 = .ok (.goto (-13), 3) := by decide +kernel
theorem dJ7_fill_d0a16_22 : decode cJ7_fill_d0a16 22 = .ok (.return_, 1) := by decide +kernel
theorem dJ7_fill_53178_0 : decode cJ7_fill_53178 0 = .ok (.iconst 0, 1) := by decide +kernel
theorem dJ7_fill_53178_1 : decode cJ7_fill_53178 1 = .ok (.istore_n 2, 1) := by decide +kernel
theorem dJ7_fill_53178_2 : decode cJ7_fill_53178 2 = .ok (.aload_n 0, 1) := by decide +kernel
theorem dJ7_fill_53178_3 : decode cJ7_fill_53178 3 = .ok (.arraylength, 1) := by decide +kernel
theorem dJ7_fill_53178_4 : decode cJ7_fill_53178 4 = .ok (.istore_n 3, 1) := by decide +kernel
theorem dJ7_fill_53178_5 : decode cJ7_fill_53178 5 = .ok (.iload_n 2, 1) := by decide +kernel
theorem dJ7_fill_53178_6 : decode cJ7_fill_53178 6 = .ok (.iload_n 3, 1) := by decide +kernel
theorem dJ7_fill_53178_7 : decode cJ7_fill_53178 7 = .ok (.if_icmp .ge 13, 3) := by decide +kernel
theorem dJ7_fill_53178_10 : decode cJ7_fill_53178 10 = .ok (.aload_n 0, 1) := by decide +kernel
theorem dJ7_fill_53178_11 : decode cJ7_fill_53178 11 = .ok (.iload_n 2, 1) := by decide +kernel
theorem dJ7_fill_53178_12 : decode cJ7_fill_53178 12 = .ok (.iload_n 1, 1) := by decide +kernel
theorem dJ7_fill_53178_13 : decode cJ7_fill_53178 13 = .ok (.iastore, 1) := by decide +kernel
theorem dJ7_fill_53178_14 : decode cJ7_fill_53178 14 = .ok (.iinc 2 1, 3) := by decide +kernel
theorem dJ7_fill_53178_17 : decode cJ7_fill_53178 17 = .ok (.goto (-12), 3) := by decide +kernel
theorem dJ7_fill_53178_20 : decode cJ7_fill_53178 20 = .ok (.return_, 1) := by decide +kernel
