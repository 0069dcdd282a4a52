/-! ===== the layout; what calls ask of names ===== -/
def LAY : List fm_E := [(0, 6, [3, 17, 0, 31, 43, 47, 50, 51]), (0, 5, [4, 0, 5, 6, 0, 7, 8, 0, 0, 0, 0, 0, 0, 0]), (4, 8, [8, 9, 10, 11, 12, 13, 14, 15]), (1, 6, []), (1, 6, []), (1, 24, []), (1, 24, []), (0, 1, [0, 0, 0, 0]), (0, 1, [0, 0, 0, 0]), (0, 1, [0, 0, 0, 0]), (0, 1, [0, 0, 0, 0]), (0, 1, [0, 0, 0, 0]), (0, 1, [0, 0, 0, 0]), (0, 1, [0, 0, 0, 0]), (0, 1, [0, 0, 0, 0]), (0, 5, [18, 0, 19, 20, 0, 21, 22, 0, 0, 0, 0, 0, 0, 0]), (4, 8, [22, 23, 24, 25, 26, 27, 28, 29]), (1, 6, []), (1, 6, []), (1, 24, []), (1, 24, []), (0, 1, [0, 0, 0, 0]), (0, 1, [0, 0, 0, 0]), (0, 1, [0, 0, 0, 0]), (0, 1, [0, 0, 0, 0]), (0, 1, [0, 0, 0, 0]), (0, 1, [0, 0, 0, 0]), (0, 1, [0, 0, 0, 0]), (0, 1, [0, 0, 0, 0]), (0, 4, [32, 0, 0, 0, 33, 34]), (3, 140, []), (4, 8, [34, 35, 36, 37, 38, 39, 40, 41]), (1, 24, []), (0, 1, [0, 0, 0, 0]), (0, 1, [0, 0, 0, 0]), (0, 1, [0, 0, 0, 0]), (0, 1, [0, 0, 0, 0]), (0, 1, [0, 0, 0, 0]), (0, 1, [0, 0, 0, 0]), (0, 1, [0, 0, 0, 0]), (0, 1, [0, 0, 0, 0]), (0, 2, [44, 45, 46]), (1, 192, []), (1, 2500, []), (1, 24, []), (0, 0, [48, 49]), (1, 25, []), (2, 49, []), (5, 4, [51, 53, 55, 57]), (1, 24, []), (0, 3, [0, 0, 53]), (2, 24, []), (0, 3, [0, 0, 55]), (2, 24, []), (0, 3, [0, 0, 57]), (2, 24, []), (0, 3, [0, 0, 59]), (2, 24, []), (0, 7, [61, 62, 63, 64, 0, 65, 66, 0, 67, 68, 0, 0, 0, 0, 0, 0, 0, 69, 0, 0, 0, 70, 0, 71, 72, 73, 0, 74, 75, 76, 77, 78, 79]), (1, 8, []), (1, 8, []), (1, 8, []), (1, 8, []), (1, 6, []), (1, 6, []), (1, 24, []), (1, 24, []), (1, 140, []), (1, 32, []), (1, 192, []), (1, 2500, []), (1, 24, []), (1, 101, []), (1, 4, []), (1, 4, []), (2, 96, []), (2, 49, []), (2, 24, [])]
theorem ly_0 : LAY[0]? = some (0, 6, [3, 17, 0, 31, 43, 47, 50, 51]) := rfl
theorem ly_1 : LAY[1]? = some (0, 5, [4, 0, 5, 6, 0, 7, 8, 0, 0, 0, 0, 0, 0, 0]) := rfl
theorem ly_2 : LAY[2]? = some (4, 8, [8, 9, 10, 11, 12, 13, 14, 15]) := rfl
theorem ly_3 : LAY[3]? = some (1, 6, []) := rfl
theorem ly_4 : LAY[4]? = some (1, 6, []) := rfl
theorem ly_5 : LAY[5]? = some (1, 24, []) := rfl
theorem ly_6 : LAY[6]? = some (1, 24, []) := rfl
theorem ly_7 : LAY[7]? = some (0, 1, [0, 0, 0, 0]) := rfl
theorem ly_8 : LAY[8]? = some (0, 1, [0, 0, 0, 0]) := rfl
theorem ly_9 : LAY[9]? = some (0, 1, [0, 0, 0, 0]) := rfl
theorem ly_10 : LAY[10]? = some (0, 1, [0, 0, 0, 0]) := rfl
theorem ly_11 : LAY[11]? = some (0, 1, [0, 0, 0, 0]) := rfl
theorem ly_12 : LAY[12]? = some (0, 1, [0, 0, 0, 0]) := rfl
theorem ly_13 : LAY[13]? = some (0, 1, [0, 0, 0, 0]) := rfl
theorem ly_14 : LAY[14]? = some (0, 1, [0, 0, 0, 0]) := rfl
theorem ly_15 : LAY[15]? = some (0, 5, [18, 0, 19, 20, 0, 21, 22, 0, 0, 0, 0, 0, 0, 0]) := rfl
theorem ly_16 : LAY[16]? = some (4, 8, [22, 23, 24, 25, 26, 27, 28, 29]) := rfl
theorem ly_17 : LAY[17]? = some (1, 6, []) := rfl
theorem ly_18 : LAY[18]? = some (1, 6, []) := rfl
theorem ly_19 : LAY[19]? = some (1, 24, []) := rfl
theorem ly_20 : LAY[20]? = some (1, 24, []) := rfl
theorem ly_21 : LAY[21]? = some (0, 1, [0, 0, 0, 0]) := rfl
theorem ly_22 : LAY[22]? = some (0, 1, [0, 0, 0, 0]) := rfl
theorem ly_23 : LAY[23]? = some (0, 1, [0, 0, 0, 0]) := rfl
theorem ly_24 : LAY[24]? = some (0, 1, [0, 0, 0, 0]) := rfl
theorem ly_25 : LAY[25]? = some (0, 1, [0, 0, 0, 0]) := rfl
theorem ly_26 : LAY[26]? = some (0, 1, [0, 0, 0, 0]) := rfl
theorem ly_27 : LAY[27]? = some (0, 1, [0, 0, 0, 0]) := rfl
theorem ly_28 : LAY[28]? = some (0, 1, [0, 0, 0, 0]) := rfl
theorem ly_29 : LAY[29]? = some (0, 4, [32, 0, 0, 0, 33, 34]) := rfl
theorem ly_30 : LAY[30]? = some (3, 140, []) := rfl
theorem ly_31 : LAY[31]? = some (4, 8, [34, 35, 36, 37, 38, 39, 40, 41]) := rfl
theorem ly_32 : LAY[32]? = some (1, 24, []) := rfl
theorem ly_33 : LAY[33]? = some (0, 1, [0, 0, 0, 0]) := rfl
theorem ly_34 : LAY[34]? = some (0, 1, [0, 0, 0, 0]) := rfl
theorem ly_35 : LAY[35]? = some (0, 1, [0, 0, 0, 0]) := rfl
theorem ly_36 : LAY[36]? = some (0, 1, [0, 0, 0, 0]) := rfl
theorem ly_37 : LAY[37]? = some (0, 1, [0, 0, 0, 0]) := rfl
theorem ly_38 : LAY[38]? = some (0, 1, [0, 0, 0, 0]) := rfl
theorem ly_39 : LAY[39]? = some (0, 1, [0, 0, 0, 0]) := rfl
theorem ly_40 : LAY[40]? = some (0, 1, [0, 0, 0, 0]) := rfl
theorem ly_41 : LAY[41]? = some (0, 2, [44, 45, 46]) := rfl
theorem ly_42 : LAY[42]? = some (1, 192, []) := rfl
theorem ly_43 : LAY[43]? = some (1, 2500, []) := rfl
theorem ly_44 : LAY[44]? = some (1, 24, []) := rfl
theorem ly_45 : LAY[45]? = some (0, 0, [48, 49]) := rfl
theorem ly_46 : LAY[46]? = some (1, 25, []) := rfl
theorem ly_47 : LAY[47]? = some (2, 49, []) := rfl
theorem ly_48 : LAY[48]? = some (5, 4, [51, 53, 55, 57]) := rfl
theorem ly_49 : LAY[49]? = some (1, 24, []) := rfl
theorem ly_50 : LAY[50]? = some (0, 3, [0, 0, 53]) := rfl
theorem ly_51 : LAY[51]? = some (2, 24, []) := rfl
theorem ly_52 : LAY[52]? = some (0, 3, [0, 0, 55]) := rfl
theorem ly_53 : LAY[53]? = some (2, 24, []) := rfl
theorem ly_54 : LAY[54]? = some (0, 3, [0, 0, 57]) := rfl
theorem ly_55 : LAY[55]? = some (2, 24, []) := rfl
theorem ly_56 : LAY[56]? = some (0, 3, [0, 0, 59]) := rfl
theorem ly_57 : LAY[57]? = some (2, 24, []) := rfl
theorem ly_58 : LAY[58]? = some (0, 7, [61, 62, 63, 64, 0, 65, 66, 0, 67, 68, 0, 0, 0, 0, 0, 0, 0, 69, 0, 0, 0, 70, 0, 71, 72, 73, 0, 74, 75, 76, 77, 78, 79]) := rfl
theorem ly_59 : LAY[59]? = some (1, 8, []) := rfl
theorem ly_60 : LAY[60]? = some (1, 8, []) := rfl
theorem ly_61 : LAY[61]? = some (1, 8, []) := rfl
theorem ly_62 : LAY[62]? = some (1, 8, []) := rfl
theorem ly_63 : LAY[63]? = some (1, 6, []) := rfl
theorem ly_64 : LAY[64]? = some (1, 6, []) := rfl
theorem ly_65 : LAY[65]? = some (1, 24, []) := rfl
theorem ly_66 : LAY[66]? = some (1, 24, []) := rfl
theorem ly_67 : LAY[67]? = some (1, 140, []) := rfl
theorem ly_68 : LAY[68]? = some (1, 32, []) := rfl
theorem ly_69 : LAY[69]? = some (1, 192, []) := rfl
theorem ly_70 : LAY[70]? = some (1, 2500, []) := rfl
theorem ly_71 : LAY[71]? = some (1, 24, []) := rfl
theorem ly_72 : LAY[72]? = some (1, 101, []) := rfl
theorem ly_73 : LAY[73]? = some (1, 4, []) := rfl
theorem ly_74 : LAY[74]? = some (1, 4, []) := rfl
theorem ly_75 : LAY[75]? = some (2, 96, []) := rfl
theorem ly_76 : LAY[76]? = some (2, 49, []) := rfl
theorem ly_77 : LAY[77]? = some (2, 24, []) := rfl
theorem fm_z7 (j : Nat) (h : j < 8) : [8, 9, 10, 11, 12, 13, 14, 15][j]? = some (7 + j + 1) := by
  rcases (show j = 0 ∨ j = 1 ∨ j = 2 ∨ j = 3 ∨ j = 4 ∨ j = 5 ∨ j = 6 ∨ j = 7 by omega) with rfl | rfl | rfl | rfl | rfl | rfl | rfl | rfl <;> rfl
theorem fm_per7 (j : Nat) (h : j < 8) : LAY[7 + j]? = some (0, 1, [0, 0, 0, 0]) := by
  rcases (show j = 0 ∨ j = 1 ∨ j = 2 ∨ j = 3 ∨ j = 4 ∨ j = 5 ∨ j = 6 ∨ j = 7 by omega) with rfl | rfl | rfl | rfl | rfl | rfl | rfl | rfl <;> rfl
theorem fm_z21 (j : Nat) (h : j < 8) : [22, 23, 24, 25, 26, 27, 28, 29][j]? = some (21 + j + 1) := by
  rcases (show j = 0 ∨ j = 1 ∨ j = 2 ∨ j = 3 ∨ j = 4 ∨ j = 5 ∨ j = 6 ∨ j = 7 by omega) with rfl | rfl | rfl | rfl | rfl | rfl | rfl | rfl <;> rfl
theorem fm_per21 (j : Nat) (h : j < 8) : LAY[21 + j]? = some (0, 1, [0, 0, 0, 0]) := by
  rcases (show j = 0 ∨ j = 1 ∨ j = 2 ∨ j = 3 ∨ j = 4 ∨ j = 5 ∨ j = 6 ∨ j = 7 by omega) with rfl | rfl | rfl | rfl | rfl | rfl | rfl | rfl <;> rfl
theorem fm_z33 (j : Nat) (h : j < 8) : [34, 35, 36, 37, 38, 39, 40, 41][j]? = some (33 + j + 1) := by
  rcases (show j = 0 ∨ j = 1 ∨ j = 2 ∨ j = 3 ∨ j = 4 ∨ j = 5 ∨ j = 6 ∨ j = 7 by omega) with rfl | rfl | rfl | rfl | rfl | rfl | rfl | rfl <;> rfl
theorem fm_per33 (j : Nat) (h : j < 8) : LAY[33 + j]? = some (0, 1, [0, 0, 0, 0]) := by
  rcases (show j = 0 ∨ j = 1 ∨ j = 2 ∨ j = 3 ∨ j = 4 ∨ j = 5 ∨ j = 6 ∨ j = 7 by omega) with rfl | rfl | rfl | rfl | rfl | rfl | rfl | rfl <;> rfl
theorem fm_z50 (j : Nat) (h : j < 4) : [51, 53, 55, 57][j]? = some (50 + 2 * j + 1) := by
  rcases (show j = 0 ∨ j = 1 ∨ j = 2 ∨ j = 3 by omega) with rfl | rfl | rfl | rfl <;> rfl
theorem fm_she (j : Nat) (h : j < 4) : LAY[50 + 2 * j]? = some (0, 3, [0, 0, 51 + 2 * j + 2]) := by
  rcases (show j = 0 ∨ j = 1 ∨ j = 2 ∨ j = 3 by omega) with rfl | rfl | rfl | rfl <;> rfl
theorem fm_itm (j : Nat) (h : j < 4) : LAY[51 + 2 * j]? = some (2, 24, []) := by
  rcases (show j = 0 ∨ j = 1 ∨ j = 2 ∨ j = 3 by omega) with rfl | rfl | rfl | rfl <;> rfl
theorem hd_X0_init : yX0_init.cls ≠ "java/lang/invoke/MethodHandle" ∧ yX0_init.cls ≠ "java/lang/invoke/VarHandle" ∧ (parseMethodDescriptor yX0_init.desc).map (fun d => d.parameters.length) = some 0 := by decide +kernel
theorem hd_X0_tell : yX0_tell.cls ≠ "java/lang/invoke/MethodHandle" ∧ yX0_tell.cls ≠ "java/lang/invoke/VarHandle" ∧ (parseMethodDescriptor yX0_tell.desc).map (fun d => d.parameters.length) = some 3 := by decide +kernel
theorem hd_X0_countAll : yX0_countAll.cls ≠ "java/lang/invoke/MethodHandle" ∧ yX0_countAll.cls ≠ "java/lang/invoke/VarHandle" ∧ (parseMethodDescriptor yX0_countAll.desc).map (fun d => d.parameters.length) = some 0 := by decide +kernel
theorem hd_X0_sureNumber : yX0_sureNumber.cls ≠ "java/lang/invoke/MethodHandle" ∧ yX0_sureNumber.cls ≠ "java/lang/invoke/VarHandle" ∧ (parseMethodDescriptor yX0_sureNumber.desc).map (fun d => d.parameters.length) = some 1 := by decide +kernel
theorem hd_X0_countWith : yX0_countWith.cls ≠ "java/lang/invoke/MethodHandle" ∧ yX0_countWith.cls ≠ "java/lang/invoke/VarHandle" ∧ (parseMethodDescriptor yX0_countWith.desc).map (fun d => d.parameters.length) = some 2 := by decide +kernel
theorem hd_X0_passHour : yX0_passHour.cls ≠ "java/lang/invoke/MethodHandle" ∧ yX0_passHour.cls ≠ "java/lang/invoke/VarHandle" ∧ (parseMethodDescriptor yX0_passHour.desc).map (fun d => d.parameters.length) = some 2 := by decide +kernel
theorem hd_X0_keepTold : yX0_keepTold.cls ≠ "java/lang/invoke/MethodHandle" ∧ yX0_keepTold.cls ≠ "java/lang/invoke/VarHandle" ∧ (parseMethodDescriptor yX0_keepTold.desc).map (fun d => d.parameters.length) = some 1 := by decide +kernel
theorem hd_X1_init : yX1_init.cls ≠ "java/lang/invoke/MethodHandle" ∧ yX1_init.cls ≠ "java/lang/invoke/VarHandle" ∧ (parseMethodDescriptor yX1_init.desc).map (fun d => d.parameters.length) = some 0 := by decide +kernel
theorem hd_X1_become : yX1_become.cls ≠ "java/lang/invoke/MethodHandle" ∧ yX1_become.cls ≠ "java/lang/invoke/VarHandle" ∧ (parseMethodDescriptor yX1_become.desc).map (fun d => d.parameters.length) = some 4 := by decide +kernel
theorem hd_X1_becomeLike : yX1_becomeLike.cls ≠ "java/lang/invoke/MethodHandle" ∧ yX1_becomeLike.cls ≠ "java/lang/invoke/VarHandle" ∧ (parseMethodDescriptor yX1_becomeLike.desc).map (fun d => d.parameters.length) = some 1 := by decide +kernel
theorem hd_X1_worthOf : yX1_worthOf.cls ≠ "java/lang/invoke/MethodHandle" ∧ yX1_worthOf.cls ≠ "java/lang/invoke/VarHandle" ∧ (parseMethodDescriptor yX1_worthOf.desc).map (fun d => d.parameters.length) = some 2 := by decide +kernel
theorem hd_X1_cookWorth : yX1_cookWorth.cls ≠ "java/lang/invoke/MethodHandle" ∧ yX1_cookWorth.cls ≠ "java/lang/invoke/VarHandle" ∧ (parseMethodDescriptor yX1_cookWorth.desc).map (fun d => d.parameters.length) = some 1 := by decide +kernel
theorem hd_X1_favouriteHour : yX1_favouriteHour.cls ≠ "java/lang/invoke/MethodHandle" ∧ yX1_favouriteHour.cls ≠ "java/lang/invoke/VarHandle" ∧ (parseMethodDescriptor yX1_favouriteHour.desc).map (fun d => d.parameters.length) = some 0 := by decide +kernel
theorem hd_X2_init : yX2_init.cls ≠ "java/lang/invoke/MethodHandle" ∧ yX2_init.cls ≠ "java/lang/invoke/VarHandle" ∧ (parseMethodDescriptor yX2_init.desc).map (fun d => d.parameters.length) = some 0 := by decide +kernel
theorem hd_X2_mostGain : yX2_mostGain.cls ≠ "java/lang/invoke/MethodHandle" ∧ yX2_mostGain.cls ≠ "java/lang/invoke/VarHandle" ∧ (parseMethodDescriptor yX2_mostGain.desc).map (fun d => d.parameters.length) = some 3 := by decide +kernel
theorem hd_X2_mostFrom : yX2_mostFrom.cls ≠ "java/lang/invoke/MethodHandle" ∧ yX2_mostFrom.cls ≠ "java/lang/invoke/VarHandle" ∧ (parseMethodDescriptor yX2_mostFrom.desc).map (fun d => d.parameters.length) = some 2 := by decide +kernel
theorem hd_X2_mostBy : yX2_mostBy.cls ≠ "java/lang/invoke/MethodHandle" ∧ yX2_mostBy.cls ≠ "java/lang/invoke/VarHandle" ∧ (parseMethodDescriptor yX2_mostBy.desc).map (fun d => d.parameters.length) = some 3 := by decide +kernel
theorem hd_X2_findRow : yX2_findRow.cls ≠ "java/lang/invoke/MethodHandle" ∧ yX2_findRow.cls ≠ "java/lang/invoke/VarHandle" ∧ (parseMethodDescriptor yX2_findRow.desc).map (fun d => d.parameters.length) = some 0 := by decide +kernel
theorem hd_X2_firstBest : yX2_firstBest.cls ≠ "java/lang/invoke/MethodHandle" ∧ yX2_firstBest.cls ≠ "java/lang/invoke/VarHandle" ∧ (parseMethodDescriptor yX2_firstBest.desc).map (fun d => d.parameters.length) = some 2 := by decide +kernel
theorem hd_X3_init : yX3_init.cls ≠ "java/lang/invoke/MethodHandle" ∧ yX3_init.cls ≠ "java/lang/invoke/VarHandle" ∧ (parseMethodDescriptor yX3_init.desc).map (fun d => d.parameters.length) = some 0 := by decide +kernel
theorem hd_X3_begin : yX3_begin.cls ≠ "java/lang/invoke/MethodHandle" ∧ yX3_begin.cls ≠ "java/lang/invoke/VarHandle" ∧ (parseMethodDescriptor yX3_begin.desc).map (fun d => d.parameters.length) = some 2 := by decide +kernel
theorem hd_X3_put : yX3_put.cls ≠ "java/lang/invoke/MethodHandle" ∧ yX3_put.cls ≠ "java/lang/invoke/VarHandle" ∧ (parseMethodDescriptor yX3_put.desc).map (fun d => d.parameters.length) = some 2 := by decide +kernel
theorem hd_X3_hasRange : yX3_hasRange.cls ≠ "java/lang/invoke/MethodHandle" ∧ yX3_hasRange.cls ≠ "java/lang/invoke/VarHandle" ∧ (parseMethodDescriptor yX3_hasRange.desc).map (fun d => d.parameters.length) = some 2 := by decide +kernel
theorem hd_X4_init : yX4_init.cls ≠ "java/lang/invoke/MethodHandle" ∧ yX4_init.cls ≠ "java/lang/invoke/VarHandle" ∧ (parseMethodDescriptor yX4_init.desc).map (fun d => d.parameters.length) = some 0 := by decide +kernel
theorem hd_X4_isSign : yX4_isSign.cls ≠ "java/lang/invoke/MethodHandle" ∧ yX4_isSign.cls ≠ "java/lang/invoke/VarHandle" ∧ (parseMethodDescriptor yX4_isSign.desc).map (fun d => d.parameters.length) = some 1 := by decide +kernel
theorem hd_X4_isFigure : yX4_isFigure.cls ≠ "java/lang/invoke/MethodHandle" ∧ yX4_isFigure.cls ≠ "java/lang/invoke/VarHandle" ∧ (parseMethodDescriptor yX4_isFigure.desc).map (fun d => d.parameters.length) = some 1 := by decide +kernel
theorem hd_X4_add : yX4_add.cls ≠ "java/lang/invoke/MethodHandle" ∧ yX4_add.cls ≠ "java/lang/invoke/VarHandle" ∧ (parseMethodDescriptor yX4_add.desc).map (fun d => d.parameters.length) = some 1 := by decide +kernel
theorem hd_X4_clear : yX4_clear.cls ≠ "java/lang/invoke/MethodHandle" ∧ yX4_clear.cls ≠ "java/lang/invoke/VarHandle" ∧ (parseMethodDescriptor yX4_clear.desc).map (fun d => d.parameters.length) = some 0 := by decide +kernel
theorem hd_X4_next : yX4_next.cls ≠ "java/lang/invoke/MethodHandle" ∧ yX4_next.cls ≠ "java/lang/invoke/VarHandle" ∧ (parseMethodDescriptor yX4_next.desc).map (fun d => d.parameters.length) = some 0 := by decide +kernel
theorem hd_X4_passes : yX4_passes.cls ≠ "java/lang/invoke/MethodHandle" ∧ yX4_passes.cls ≠ "java/lang/invoke/VarHandle" ∧ (parseMethodDescriptor yX4_passes.desc).map (fun d => d.parameters.length) = some 1 := by decide +kernel
theorem hd_X4_faultHere : yX4_faultHere.cls ≠ "java/lang/invoke/MethodHandle" ∧ yX4_faultHere.cls ≠ "java/lang/invoke/VarHandle" ∧ (parseMethodDescriptor yX4_faultHere.desc).map (fun d => d.parameters.length) = some 0 := by decide +kernel
theorem hd_X4_readNumber : yX4_readNumber.cls ≠ "java/lang/invoke/MethodHandle" ∧ yX4_readNumber.cls ≠ "java/lang/invoke/VarHandle" ∧ (parseMethodDescriptor yX4_readNumber.desc).map (fun d => d.parameters.length) = some 1 := by decide +kernel
theorem hd_X4_readTown : yX4_readTown.cls ≠ "java/lang/invoke/MethodHandle" ∧ yX4_readTown.cls ≠ "java/lang/invoke/VarHandle" ∧ (parseMethodDescriptor yX4_readTown.desc).map (fun d => d.parameters.length) = some 0 := by decide +kernel
theorem hd_X4_readPerson : yX4_readPerson.cls ≠ "java/lang/invoke/MethodHandle" ∧ yX4_readPerson.cls ≠ "java/lang/invoke/VarHandle" ∧ (parseMethodDescriptor yX4_readPerson.desc).map (fun d => d.parameters.length) = some 1 := by decide +kernel
theorem hd_X4_kindOf : yX4_kindOf.cls ≠ "java/lang/invoke/MethodHandle" ∧ yX4_kindOf.cls ≠ "java/lang/invoke/VarHandle" ∧ (parseMethodDescriptor yX4_kindOf.desc).map (fun d => d.parameters.length) = some 1 := by decide +kernel
theorem hd_X4_readPlan : yX4_readPlan.cls ≠ "java/lang/invoke/MethodHandle" ∧ yX4_readPlan.cls ≠ "java/lang/invoke/VarHandle" ∧ (parseMethodDescriptor yX4_readPlan.desc).map (fun d => d.parameters.length) = some 0 := by decide +kernel
theorem hd_X4_readHourNumber : yX4_readHourNumber.cls ≠ "java/lang/invoke/MethodHandle" ∧ yX4_readHourNumber.cls ≠ "java/lang/invoke/VarHandle" ∧ (parseMethodDescriptor yX4_readHourNumber.desc).map (fun d => d.parameters.length) = some 1 := by decide +kernel
theorem hd_X5_init : yX5_init.cls ≠ "java/lang/invoke/MethodHandle" ∧ yX5_init.cls ≠ "java/lang/invoke/VarHandle" ∧ (parseMethodDescriptor yX5_init.desc).map (fun d => d.parameters.length) = some 0 := by decide +kernel
theorem hd_X5_becomeLike : yX5_becomeLike.cls ≠ "java/lang/invoke/MethodHandle" ∧ yX5_becomeLike.cls ≠ "java/lang/invoke/VarHandle" ∧ (parseMethodDescriptor yX5_becomeLike.desc).map (fun d => d.parameters.length) = some 1 := by decide +kernel
theorem hd_X5_takePeople : yX5_takePeople.cls ≠ "java/lang/invoke/MethodHandle" ∧ yX5_takePeople.cls ≠ "java/lang/invoke/VarHandle" ∧ (parseMethodDescriptor yX5_takePeople.desc).map (fun d => d.parameters.length) = some 2 := by decide +kernel
theorem hd_X5_hasPerson : yX5_hasPerson.cls ≠ "java/lang/invoke/MethodHandle" ∧ yX5_hasPerson.cls ≠ "java/lang/invoke/VarHandle" ∧ (parseMethodDescriptor yX5_hasPerson.desc).map (fun d => d.parameters.length) = some 1 := by decide +kernel
theorem hd_X5_gainAt : yX5_gainAt.cls ≠ "java/lang/invoke/MethodHandle" ∧ yX5_gainAt.cls ≠ "java/lang/invoke/VarHandle" ∧ (parseMethodDescriptor yX5_gainAt.desc).map (fun d => d.parameters.length) = some 3 := by decide +kernel
theorem hd_X5_gainOf : yX5_gainOf.cls ≠ "java/lang/invoke/MethodHandle" ∧ yX5_gainOf.cls ≠ "java/lang/invoke/VarHandle" ∧ (parseMethodDescriptor yX5_gainOf.desc).map (fun d => d.parameters.length) = some 1 := by decide +kernel
theorem hd_X5_mostLateAt : yX5_mostLateAt.cls ≠ "java/lang/invoke/MethodHandle" ∧ yX5_mostLateAt.cls ≠ "java/lang/invoke/VarHandle" ∧ (parseMethodDescriptor yX5_mostLateAt.desc).map (fun d => d.parameters.length) = some 1 := by decide +kernel
theorem hd_X5_missedBy : yX5_missedBy.cls ≠ "java/lang/invoke/MethodHandle" ∧ yX5_missedBy.cls ≠ "java/lang/invoke/VarHandle" ∧ (parseMethodDescriptor yX5_missedBy.desc).map (fun d => d.parameters.length) = some 1 := by decide +kernel
theorem hd_X5_firstWrong : yX5_firstWrong.cls ≠ "java/lang/invoke/MethodHandle" ∧ yX5_firstWrong.cls ≠ "java/lang/invoke/VarHandle" ∧ (parseMethodDescriptor yX5_firstWrong.desc).map (fun d => d.parameters.length) = some 1 := by decide +kernel
theorem hd_X5_liveDay : yX5_liveDay.cls ≠ "java/lang/invoke/MethodHandle" ∧ yX5_liveDay.cls ≠ "java/lang/invoke/VarHandle" ∧ (parseMethodDescriptor yX5_liveDay.desc).map (fun d => d.parameters.length) = some 1 := by decide +kernel
theorem hd_X5_votesFor : yX5_votesFor.cls ≠ "java/lang/invoke/MethodHandle" ∧ yX5_votesFor.cls ≠ "java/lang/invoke/VarHandle" ∧ (parseMethodDescriptor yX5_votesFor.desc).map (fun d => d.parameters.length) = some 2 := by decide +kernel
theorem hd_X5_drawPlan : yX5_drawPlan.cls ≠ "java/lang/invoke/MethodHandle" ∧ yX5_drawPlan.cls ≠ "java/lang/invoke/VarHandle" ∧ (parseMethodDescriptor yX5_drawPlan.desc).map (fun d => d.parameters.length) = some 1 := by decide +kernel
theorem hd_X6_init : yX6_init.cls ≠ "java/lang/invoke/MethodHandle" ∧ yX6_init.cls ≠ "java/lang/invoke/VarHandle" ∧ (parseMethodDescriptor yX6_init.desc).map (fun d => d.parameters.length) = some 0 := by decide +kernel
theorem hd_X6_person : yX6_person.cls ≠ "java/lang/invoke/MethodHandle" ∧ yX6_person.cls ≠ "java/lang/invoke/VarHandle" ∧ (parseMethodDescriptor yX6_person.desc).map (fun d => d.parameters.length) = some 3 := by decide +kernel
theorem hd_X6_may : yX6_may.cls ≠ "java/lang/invoke/MethodHandle" ∧ yX6_may.cls ≠ "java/lang/invoke/VarHandle" ∧ (parseMethodDescriptor yX6_may.desc).map (fun d => d.parameters.length) = some 2 := by decide +kernel
theorem hd_X6_told : yX6_told.cls ≠ "java/lang/invoke/MethodHandle" ∧ yX6_told.cls ≠ "java/lang/invoke/VarHandle" ∧ (parseMethodDescriptor yX6_told.desc).map (fun d => d.parameters.length) = some 2 := by decide +kernel
theorem hd_X6_worth : yX6_worth.cls ≠ "java/lang/invoke/MethodHandle" ∧ yX6_worth.cls ≠ "java/lang/invoke/VarHandle" ∧ (parseMethodDescriptor yX6_worth.desc).map (fun d => d.parameters.length) = some 3 := by decide +kernel
theorem hd_X6_train : yX6_train.cls ≠ "java/lang/invoke/MethodHandle" ∧ yX6_train.cls ≠ "java/lang/invoke/VarHandle" ∧ (parseMethodDescriptor yX6_train.desc).map (fun d => d.parameters.length) = some 2 := by decide +kernel
theorem hd_X6_strike : yX6_strike.cls ≠ "java/lang/invoke/MethodHandle" ∧ yX6_strike.cls ≠ "java/lang/invoke/VarHandle" ∧ (parseMethodDescriptor yX6_strike.desc).map (fun d => d.parameters.length) = some 0 := by decide +kernel
theorem hd_X6_set : yX6_set.cls ≠ "java/lang/invoke/MethodHandle" ∧ yX6_set.cls ≠ "java/lang/invoke/VarHandle" ∧ (parseMethodDescriptor yX6_set.desc).map (fun d => d.parameters.length) = some 2 := by decide +kernel
theorem hd_X6_loss : yX6_loss.cls ≠ "java/lang/invoke/MethodHandle" ∧ yX6_loss.cls ≠ "java/lang/invoke/VarHandle" ∧ (parseMethodDescriptor yX6_loss.desc).map (fun d => d.parameters.length) = some 2 := by decide +kernel
theorem hd_X6_type : yX6_type.cls ≠ "java/lang/invoke/MethodHandle" ∧ yX6_type.cls ≠ "java/lang/invoke/VarHandle" ∧ (parseMethodDescriptor yX6_type.desc).map (fun d => d.parameters.length) = some 2 := by decide +kernel
theorem hd_X6_town : yX6_town.cls ≠ "java/lang/invoke/MethodHandle" ∧ yX6_town.cls ≠ "java/lang/invoke/VarHandle" ∧ (parseMethodDescriptor yX6_town.desc).map (fun d => d.parameters.length) = some 0 := by decide +kernel
theorem hd_X6_plan : yX6_plan.cls ≠ "java/lang/invoke/MethodHandle" ∧ yX6_plan.cls ≠ "java/lang/invoke/VarHandle" ∧ (parseMethodDescriptor yX6_plan.desc).map (fun d => d.parameters.length) = some 0 := by decide +kernel
theorem hd_X6_lay : yX6_lay.cls ≠ "java/lang/invoke/MethodHandle" ∧ yX6_lay.cls ≠ "java/lang/invoke/VarHandle" ∧ (parseMethodDescriptor yX6_lay.desc).map (fun d => d.parameters.length) = some 2 := by decide +kernel
theorem hd_X6_is : yX6_is.cls ≠ "java/lang/invoke/MethodHandle" ∧ yX6_is.cls ≠ "java/lang/invoke/VarHandle" ∧ (parseMethodDescriptor yX6_is.desc).map (fun d => d.parameters.length) = some 1 := by decide +kernel
theorem hd_X6_late : yX6_late.cls ≠ "java/lang/invoke/MethodHandle" ∧ yX6_late.cls ≠ "java/lang/invoke/VarHandle" ∧ (parseMethodDescriptor yX6_late.desc).map (fun d => d.parameters.length) = some 1 := by decide +kernel
theorem hd_X6_gain : yX6_gain.cls ≠ "java/lang/invoke/MethodHandle" ∧ yX6_gain.cls ≠ "java/lang/invoke/VarHandle" ∧ (parseMethodDescriptor yX6_gain.desc).map (fun d => d.parameters.length) = some 0 := by decide +kernel
theorem hd_X6_wrong : yX6_wrong.cls ≠ "java/lang/invoke/MethodHandle" ∧ yX6_wrong.cls ≠ "java/lang/invoke/VarHandle" ∧ (parseMethodDescriptor yX6_wrong.desc).map (fun d => d.parameters.length) = some 0 := by decide +kernel
theorem hd_X6_missed : yX6_missed.cls ≠ "java/lang/invoke/MethodHandle" ∧ yX6_missed.cls ≠ "java/lang/invoke/VarHandle" ∧ (parseMethodDescriptor yX6_missed.desc).map (fun d => d.parameters.length) = some 0 := by decide +kernel
theorem hd_X6_day : yX6_day.cls ≠ "java/lang/invoke/MethodHandle" ∧ yX6_day.cls ≠ "java/lang/invoke/VarHandle" ∧ (parseMethodDescriptor yX6_day.desc).map (fun d => d.parameters.length) = some 0 := by decide +kernel
theorem hd_X6_best : yX6_best.cls ≠ "java/lang/invoke/MethodHandle" ∧ yX6_best.cls ≠ "java/lang/invoke/VarHandle" ∧ (parseMethodDescriptor yX6_best.desc).map (fun d => d.parameters.length) = some 2 := by decide +kernel
theorem hd_X6_spend : yX6_spend.cls ≠ "java/lang/invoke/MethodHandle" ∧ yX6_spend.cls ≠ "java/lang/invoke/VarHandle" ∧ (parseMethodDescriptor yX6_spend.desc).map (fun d => d.parameters.length) = some 1 := by decide +kernel
theorem hd_X6_share : yX6_share.cls ≠ "java/lang/invoke/MethodHandle" ∧ yX6_share.cls ≠ "java/lang/invoke/VarHandle" ∧ (parseMethodDescriptor yX6_share.desc).map (fun d => d.parameters.length) = some 1 := by decide +kernel
theorem hd_X6_vote : yX6_vote.cls ≠ "java/lang/invoke/MethodHandle" ∧ yX6_vote.cls ≠ "java/lang/invoke/VarHandle" ∧ (parseMethodDescriptor yX6_vote.desc).map (fun d => d.parameters.length) = some 1 := by decide +kernel
theorem hd_X6_choice : yX6_choice.cls ≠ "java/lang/invoke/MethodHandle" ∧ yX6_choice.cls ≠ "java/lang/invoke/VarHandle" ∧ (parseMethodDescriptor yX6_choice.desc).map (fun d => d.parameters.length) = some 1 := by decide +kernel
theorem hd_X6_lots : yX6_lots.cls ≠ "java/lang/invoke/MethodHandle" ∧ yX6_lots.cls ≠ "java/lang/invoke/VarHandle" ∧ (parseMethodDescriptor yX6_lots.desc).map (fun d => d.parameters.length) = some 1 := by decide +kernel
theorem hd_X6_seed : yX6_seed.cls ≠ "java/lang/invoke/MethodHandle" ∧ yX6_seed.cls ≠ "java/lang/invoke/VarHandle" ∧ (parseMethodDescriptor yX6_seed.desc).map (fun d => d.parameters.length) = some 1 := by decide +kernel
theorem hd_X6_image : yX6_image.cls ≠ "java/lang/invoke/MethodHandle" ∧ yX6_image.cls ≠ "java/lang/invoke/VarHandle" ∧ (parseMethodDescriptor yX6_image.desc).map (fun d => d.parameters.length) = some 0 := by decide +kernel
theorem hd_X6_restore : yX6_restore.cls ≠ "java/lang/invoke/MethodHandle" ∧ yX6_restore.cls ≠ "java/lang/invoke/VarHandle" ∧ (parseMethodDescriptor yX6_restore.desc).map (fun d => d.parameters.length) = some 0 := by decide +kernel
theorem hd_X6_clocks : yX6_clocks.cls ≠ "java/lang/invoke/MethodHandle" ∧ yX6_clocks.cls ≠ "java/lang/invoke/VarHandle" ∧ (parseMethodDescriptor yX6_clocks.desc).map (fun d => d.parameters.length) = some 4 := by decide +kernel
theorem hd_X6_sure : yX6_sure.cls ≠ "java/lang/invoke/MethodHandle" ∧ yX6_sure.cls ≠ "java/lang/invoke/VarHandle" ∧ (parseMethodDescriptor yX6_sure.desc).map (fun d => d.parameters.length) = some 5 := by decide +kernel
theorem hd_X6_film : yX6_film.cls ≠ "java/lang/invoke/MethodHandle" ∧ yX6_film.cls ≠ "java/lang/invoke/VarHandle" ∧ (parseMethodDescriptor yX6_film.desc).map (fun d => d.parameters.length) = some 3 := by decide +kernel
theorem hd_X6_build : yX6_build.cls ≠ "java/lang/invoke/MethodHandle" ∧ yX6_build.cls ≠ "java/lang/invoke/VarHandle" ∧ (parseMethodDescriptor yX6_build.desc).map (fun d => d.parameters.length) = some 3 := by decide +kernel
theorem hd_X6_sheet : yX6_sheet.cls ≠ "java/lang/invoke/MethodHandle" ∧ yX6_sheet.cls ≠ "java/lang/invoke/VarHandle" ∧ (parseMethodDescriptor yX6_sheet.desc).map (fun d => d.parameters.length) = some 3 := by decide +kernel
theorem hd_X6_drop : yX6_drop.cls ≠ "java/lang/invoke/MethodHandle" ∧ yX6_drop.cls ≠ "java/lang/invoke/VarHandle" ∧ (parseMethodDescriptor yX6_drop.desc).map (fun d => d.parameters.length) = some 1 := by decide +kernel
theorem hd_X6_item : yX6_item.cls ≠ "java/lang/invoke/MethodHandle" ∧ yX6_item.cls ≠ "java/lang/invoke/VarHandle" ∧ (parseMethodDescriptor yX6_item.desc).map (fun d => d.parameters.length) = some 4 := by decide +kernel
theorem hd_X6_copy : yX6_copy.cls ≠ "java/lang/invoke/MethodHandle" ∧ yX6_copy.cls ≠ "java/lang/invoke/VarHandle" ∧ (parseMethodDescriptor yX6_copy.desc).map (fun d => d.parameters.length) = some 5 := by decide +kernel
theorem hd_X6_isWithin : yX6_isWithin.cls ≠ "java/lang/invoke/MethodHandle" ∧ yX6_isWithin.cls ≠ "java/lang/invoke/VarHandle" ∧ (parseMethodDescriptor yX6_isWithin.desc).map (fun d => d.parameters.length) = some 2 := by decide +kernel
theorem hd_X6_isHour : yX6_isHour.cls ≠ "java/lang/invoke/MethodHandle" ∧ yX6_isHour.cls ≠ "java/lang/invoke/VarHandle" ∧ (parseMethodDescriptor yX6_isHour.desc).map (fun d => d.parameters.length) = some 1 := by decide +kernel
theorem hd_X6_isNumber : yX6_isNumber.cls ≠ "java/lang/invoke/MethodHandle" ∧ yX6_isNumber.cls ≠ "java/lang/invoke/VarHandle" ∧ (parseMethodDescriptor yX6_isNumber.desc).map (fun d => d.parameters.length) = some 1 := by decide +kernel
theorem hd_X6_isSheet : yX6_isSheet.cls ≠ "java/lang/invoke/MethodHandle" ∧ yX6_isSheet.cls ≠ "java/lang/invoke/VarHandle" ∧ (parseMethodDescriptor yX6_isSheet.desc).map (fun d => d.parameters.length) = some 1 := by decide +kernel
theorem hd_X6_isLane : yX6_isLane.cls ≠ "java/lang/invoke/MethodHandle" ∧ yX6_isLane.cls ≠ "java/lang/invoke/VarHandle" ∧ (parseMethodDescriptor yX6_isLane.desc).map (fun d => d.parameters.length) = some 1 := by decide +kernel
theorem hd_X6_mostOfSetting : yX6_mostOfSetting.cls ≠ "java/lang/invoke/MethodHandle" ∧ yX6_mostOfSetting.cls ≠ "java/lang/invoke/VarHandle" ∧ (parseMethodDescriptor yX6_mostOfSetting.desc).map (fun d => d.parameters.length) = some 1 := by decide +kernel
theorem hd_X6_byteOf : yX6_byteOf.cls ≠ "java/lang/invoke/MethodHandle" ∧ yX6_byteOf.cls ≠ "java/lang/invoke/VarHandle" ∧ (parseMethodDescriptor yX6_byteOf.desc).map (fun d => d.parameters.length) = some 2 := by decide +kernel
theorem hd_X6_apart : yX6_apart.cls ≠ "java/lang/invoke/MethodHandle" ∧ yX6_apart.cls ≠ "java/lang/invoke/VarHandle" ∧ (parseMethodDescriptor yX6_apart.desc).map (fun d => d.parameters.length) = some 2 := by decide +kernel
theorem hd_X6_lateAt : yX6_lateAt.cls ≠ "java/lang/invoke/MethodHandle" ∧ yX6_lateAt.cls ≠ "java/lang/invoke/VarHandle" ∧ (parseMethodDescriptor yX6_lateAt.desc).map (fun d => d.parameters.length) = some 2 := by decide +kernel
theorem hd_X6_rowRefusal : yX6_rowRefusal.cls ≠ "java/lang/invoke/MethodHandle" ∧ yX6_rowRefusal.cls ≠ "java/lang/invoke/VarHandle" ∧ (parseMethodDescriptor yX6_rowRefusal.desc).map (fun d => d.parameters.length) = some 4 := by decide +kernel
theorem hd_X6_clocksRefusal : yX6_clocksRefusal.cls ≠ "java/lang/invoke/MethodHandle" ∧ yX6_clocksRefusal.cls ≠ "java/lang/invoke/VarHandle" ∧ (parseMethodDescriptor yX6_clocksRefusal.desc).map (fun d => d.parameters.length) = some 4 := by decide +kernel
theorem hd_X7_init : yX7_init.cls ≠ "java/lang/invoke/MethodHandle" ∧ yX7_init.cls ≠ "java/lang/invoke/VarHandle" ∧ (parseMethodDescriptor yX7_init.desc).map (fun d => d.parameters.length) = some 0 := by decide +kernel
theorem hd_X7_in : yX7_in.cls ≠ "java/lang/invoke/MethodHandle" ∧ yX7_in.cls ≠ "java/lang/invoke/VarHandle" ∧ (parseMethodDescriptor yX7_in.desc).map (fun d => d.parameters.length) = some 3 := by decide +kernel
theorem hd_X7_isHour : yX7_isHour.cls ≠ "java/lang/invoke/MethodHandle" ∧ yX7_isHour.cls ≠ "java/lang/invoke/VarHandle" ∧ (parseMethodDescriptor yX7_isHour.desc).map (fun d => d.parameters.length) = some 1 := by decide +kernel
theorem hd_X7_isOne : yX7_isOne.cls ≠ "java/lang/invoke/MethodHandle" ∧ yX7_isOne.cls ≠ "java/lang/invoke/VarHandle" ∧ (parseMethodDescriptor yX7_isOne.desc).map (fun d => d.parameters.length) = some 1 := by decide +kernel
theorem hd_X7_isNumber : yX7_isNumber.cls ≠ "java/lang/invoke/MethodHandle" ∧ yX7_isNumber.cls ≠ "java/lang/invoke/VarHandle" ∧ (parseMethodDescriptor yX7_isNumber.desc).map (fun d => d.parameters.length) = some 1 := by decide +kernel
theorem hd_X7_add : yX7_add.cls ≠ "java/lang/invoke/MethodHandle" ∧ yX7_add.cls ≠ "java/lang/invoke/VarHandle" ∧ (parseMethodDescriptor yX7_add.desc).map (fun d => d.parameters.length) = some 4 := by decide +kernel
theorem hd_X7_person : yX7_person.cls ≠ "java/lang/invoke/MethodHandle" ∧ yX7_person.cls ≠ "java/lang/invoke/VarHandle" ∧ (parseMethodDescriptor yX7_person.desc).map (fun d => d.parameters.length) = some 3 := by decide +kernel
theorem hd_X7_may : yX7_may.cls ≠ "java/lang/invoke/MethodHandle" ∧ yX7_may.cls ≠ "java/lang/invoke/VarHandle" ∧ (parseMethodDescriptor yX7_may.desc).map (fun d => d.parameters.length) = some 2 := by decide +kernel
theorem hd_X7_told : yX7_told.cls ≠ "java/lang/invoke/MethodHandle" ∧ yX7_told.cls ≠ "java/lang/invoke/VarHandle" ∧ (parseMethodDescriptor yX7_told.desc).map (fun d => d.parameters.length) = some 2 := by decide +kernel
theorem hd_X7_apart : yX7_apart.cls ≠ "java/lang/invoke/MethodHandle" ∧ yX7_apart.cls ≠ "java/lang/invoke/VarHandle" ∧ (parseMethodDescriptor yX7_apart.desc).map (fun d => d.parameters.length) = some 2 := by decide +kernel
theorem hd_X7_worthOf : yX7_worthOf.cls ≠ "java/lang/invoke/MethodHandle" ∧ yX7_worthOf.cls ≠ "java/lang/invoke/VarHandle" ∧ (parseMethodDescriptor yX7_worthOf.desc).map (fun d => d.parameters.length) = some 3 := by decide +kernel
theorem hd_X7_worth : yX7_worth.cls ≠ "java/lang/invoke/MethodHandle" ∧ yX7_worth.cls ≠ "java/lang/invoke/VarHandle" ∧ (parseMethodDescriptor yX7_worth.desc).map (fun d => d.parameters.length) = some 3 := by decide +kernel
theorem hd_X7_train : yX7_train.cls ≠ "java/lang/invoke/MethodHandle" ∧ yX7_train.cls ≠ "java/lang/invoke/VarHandle" ∧ (parseMethodDescriptor yX7_train.desc).map (fun d => d.parameters.length) = some 2 := by decide +kernel
theorem hd_X7_strike : yX7_strike.cls ≠ "java/lang/invoke/MethodHandle" ∧ yX7_strike.cls ≠ "java/lang/invoke/VarHandle" ∧ (parseMethodDescriptor yX7_strike.desc).map (fun d => d.parameters.length) = some 0 := by decide +kernel
theorem hd_X7_set : yX7_set.cls ≠ "java/lang/invoke/MethodHandle" ∧ yX7_set.cls ≠ "java/lang/invoke/VarHandle" ∧ (parseMethodDescriptor yX7_set.desc).map (fun d => d.parameters.length) = some 2 := by decide +kernel
theorem hd_X7_loss : yX7_loss.cls ≠ "java/lang/invoke/MethodHandle" ∧ yX7_loss.cls ≠ "java/lang/invoke/VarHandle" ∧ (parseMethodDescriptor yX7_loss.desc).map (fun d => d.parameters.length) = some 2 := by decide +kernel
theorem hd_X7_is : yX7_is.cls ≠ "java/lang/invoke/MethodHandle" ∧ yX7_is.cls ≠ "java/lang/invoke/VarHandle" ∧ (parseMethodDescriptor yX7_is.desc).map (fun d => d.parameters.length) = some 1 := by decide +kernel
theorem hd_X7_type : yX7_type.cls ≠ "java/lang/invoke/MethodHandle" ∧ yX7_type.cls ≠ "java/lang/invoke/VarHandle" ∧ (parseMethodDescriptor yX7_type.desc).map (fun d => d.parameters.length) = some 2 := by decide +kernel
theorem hd_X7_nextByte : yX7_nextByte.cls ≠ "java/lang/invoke/MethodHandle" ∧ yX7_nextByte.cls ≠ "java/lang/invoke/VarHandle" ∧ (parseMethodDescriptor yX7_nextByte.desc).map (fun d => d.parameters.length) = some 0 := by decide +kernel
theorem hd_X7_takes : yX7_takes.cls ≠ "java/lang/invoke/MethodHandle" ∧ yX7_takes.cls ≠ "java/lang/invoke/VarHandle" ∧ (parseMethodDescriptor yX7_takes.desc).map (fun d => d.parameters.length) = some 1 := by decide +kernel
theorem hd_X7_readNumber : yX7_readNumber.cls ≠ "java/lang/invoke/MethodHandle" ∧ yX7_readNumber.cls ≠ "java/lang/invoke/VarHandle" ∧ (parseMethodDescriptor yX7_readNumber.desc).map (fun d => d.parameters.length) = some 1 := by decide +kernel
theorem hd_X7_readOne : yX7_readOne.cls ≠ "java/lang/invoke/MethodHandle" ∧ yX7_readOne.cls ≠ "java/lang/invoke/VarHandle" ∧ (parseMethodDescriptor yX7_readOne.desc).map (fun d => d.parameters.length) = some 1 := by decide +kernel
theorem hd_X7_readTown : yX7_readTown.cls ≠ "java/lang/invoke/MethodHandle" ∧ yX7_readTown.cls ≠ "java/lang/invoke/VarHandle" ∧ (parseMethodDescriptor yX7_readTown.desc).map (fun d => d.parameters.length) = some 0 := by decide +kernel
theorem hd_X7_end : yX7_end.cls ≠ "java/lang/invoke/MethodHandle" ∧ yX7_end.cls ≠ "java/lang/invoke/VarHandle" ∧ (parseMethodDescriptor yX7_end.desc).map (fun d => d.parameters.length) = some 1 := by decide +kernel
theorem hd_X7_town : yX7_town.cls ≠ "java/lang/invoke/MethodHandle" ∧ yX7_town.cls ≠ "java/lang/invoke/VarHandle" ∧ (parseMethodDescriptor yX7_town.desc).map (fun d => d.parameters.length) = some 0 := by decide +kernel
theorem hd_X7_readHour : yX7_readHour.cls ≠ "java/lang/invoke/MethodHandle" ∧ yX7_readHour.cls ≠ "java/lang/invoke/VarHandle" ∧ (parseMethodDescriptor yX7_readHour.desc).map (fun d => d.parameters.length) = some 0 := by decide +kernel
theorem hd_X7_readPlan : yX7_readPlan.cls ≠ "java/lang/invoke/MethodHandle" ∧ yX7_readPlan.cls ≠ "java/lang/invoke/VarHandle" ∧ (parseMethodDescriptor yX7_readPlan.desc).map (fun d => d.parameters.length) = some 0 := by decide +kernel
theorem hd_X7_plan : yX7_plan.cls ≠ "java/lang/invoke/MethodHandle" ∧ yX7_plan.cls ≠ "java/lang/invoke/VarHandle" ∧ (parseMethodDescriptor yX7_plan.desc).map (fun d => d.parameters.length) = some 0 := by decide +kernel
theorem hd_X7_lay : yX7_lay.cls ≠ "java/lang/invoke/MethodHandle" ∧ yX7_lay.cls ≠ "java/lang/invoke/VarHandle" ∧ (parseMethodDescriptor yX7_lay.desc).map (fun d => d.parameters.length) = some 2 := by decide +kernel
theorem hd_X7_lateBy : yX7_lateBy.cls ≠ "java/lang/invoke/MethodHandle" ∧ yX7_lateBy.cls ≠ "java/lang/invoke/VarHandle" ∧ (parseMethodDescriptor yX7_lateBy.desc).map (fun d => d.parameters.length) = some 2 := by decide +kernel
theorem hd_X7_late : yX7_late.cls ≠ "java/lang/invoke/MethodHandle" ∧ yX7_late.cls ≠ "java/lang/invoke/VarHandle" ∧ (parseMethodDescriptor yX7_late.desc).map (fun d => d.parameters.length) = some 1 := by decide +kernel
theorem hd_X7_findGains : yX7_findGains.cls ≠ "java/lang/invoke/MethodHandle" ∧ yX7_findGains.cls ≠ "java/lang/invoke/VarHandle" ∧ (parseMethodDescriptor yX7_findGains.desc).map (fun d => d.parameters.length) = some 0 := by decide +kernel
theorem hd_X7_gainOf : yX7_gainOf.cls ≠ "java/lang/invoke/MethodHandle" ∧ yX7_gainOf.cls ≠ "java/lang/invoke/VarHandle" ∧ (parseMethodDescriptor yX7_gainOf.desc).map (fun d => d.parameters.length) = some 1 := by decide +kernel
theorem hd_X7_gain : yX7_gain.cls ≠ "java/lang/invoke/MethodHandle" ∧ yX7_gain.cls ≠ "java/lang/invoke/VarHandle" ∧ (parseMethodDescriptor yX7_gain.desc).map (fun d => d.parameters.length) = some 0 := by decide +kernel
theorem hd_X7_areCaught : yX7_areCaught.cls ≠ "java/lang/invoke/MethodHandle" ∧ yX7_areCaught.cls ≠ "java/lang/invoke/VarHandle" ∧ (parseMethodDescriptor yX7_areCaught.desc).map (fun d => d.parameters.length) = some 2 := by decide +kernel
theorem hd_X7_wrongOf : yX7_wrongOf.cls ≠ "java/lang/invoke/MethodHandle" ∧ yX7_wrongOf.cls ≠ "java/lang/invoke/VarHandle" ∧ (parseMethodDescriptor yX7_wrongOf.desc).map (fun d => d.parameters.length) = some 1 := by decide +kernel
theorem hd_X7_wrong : yX7_wrong.cls ≠ "java/lang/invoke/MethodHandle" ∧ yX7_wrong.cls ≠ "java/lang/invoke/VarHandle" ∧ (parseMethodDescriptor yX7_wrong.desc).map (fun d => d.parameters.length) = some 0 := by decide +kernel
theorem hd_X7_missed : yX7_missed.cls ≠ "java/lang/invoke/MethodHandle" ∧ yX7_missed.cls ≠ "java/lang/invoke/VarHandle" ∧ (parseMethodDescriptor yX7_missed.desc).map (fun d => d.parameters.length) = some 0 := by decide +kernel
theorem hd_X7_dayBy : yX7_dayBy.cls ≠ "java/lang/invoke/MethodHandle" ∧ yX7_dayBy.cls ≠ "java/lang/invoke/VarHandle" ∧ (parseMethodDescriptor yX7_dayBy.desc).map (fun d => d.parameters.length) = some 1 := by decide +kernel
theorem hd_X7_day : yX7_day.cls ≠ "java/lang/invoke/MethodHandle" ∧ yX7_day.cls ≠ "java/lang/invoke/VarHandle" ∧ (parseMethodDescriptor yX7_day.desc).map (fun d => d.parameters.length) = some 0 := by decide +kernel
theorem hd_X7_findBest : yX7_findBest.cls ≠ "java/lang/invoke/MethodHandle" ∧ yX7_findBest.cls ≠ "java/lang/invoke/VarHandle" ∧ (parseMethodDescriptor yX7_findBest.desc).map (fun d => d.parameters.length) = some 1 := by decide +kernel
theorem hd_X7_best : yX7_best.cls ≠ "java/lang/invoke/MethodHandle" ∧ yX7_best.cls ≠ "java/lang/invoke/VarHandle" ∧ (parseMethodDescriptor yX7_best.desc).map (fun d => d.parameters.length) = some 2 := by decide +kernel
theorem hd_X7_spend : yX7_spend.cls ≠ "java/lang/invoke/MethodHandle" ∧ yX7_spend.cls ≠ "java/lang/invoke/VarHandle" ∧ (parseMethodDescriptor yX7_spend.desc).map (fun d => d.parameters.length) = some 1 := by decide +kernel
theorem hd_X7_share : yX7_share.cls ≠ "java/lang/invoke/MethodHandle" ∧ yX7_share.cls ≠ "java/lang/invoke/VarHandle" ∧ (parseMethodDescriptor yX7_share.desc).map (fun d => d.parameters.length) = some 1 := by decide +kernel
theorem hd_X7_choiceOf : yX7_choiceOf.cls ≠ "java/lang/invoke/MethodHandle" ∧ yX7_choiceOf.cls ≠ "java/lang/invoke/VarHandle" ∧ (parseMethodDescriptor yX7_choiceOf.desc).map (fun d => d.parameters.length) = some 1 := by decide +kernel
theorem hd_X7_choice : yX7_choice.cls ≠ "java/lang/invoke/MethodHandle" ∧ yX7_choice.cls ≠ "java/lang/invoke/VarHandle" ∧ (parseMethodDescriptor yX7_choice.desc).map (fun d => d.parameters.length) = some 1 := by decide +kernel
theorem hd_X7_vote : yX7_vote.cls ≠ "java/lang/invoke/MethodHandle" ∧ yX7_vote.cls ≠ "java/lang/invoke/VarHandle" ∧ (parseMethodDescriptor yX7_vote.desc).map (fun d => d.parameters.length) = some 1 := by decide +kernel
theorem hd_X7_drawRow : yX7_drawRow.cls ≠ "java/lang/invoke/MethodHandle" ∧ yX7_drawRow.cls ≠ "java/lang/invoke/VarHandle" ∧ (parseMethodDescriptor yX7_drawRow.desc).map (fun d => d.parameters.length) = some 0 := by decide +kernel
theorem hd_X7_lots : yX7_lots.cls ≠ "java/lang/invoke/MethodHandle" ∧ yX7_lots.cls ≠ "java/lang/invoke/VarHandle" ∧ (parseMethodDescriptor yX7_lots.desc).map (fun d => d.parameters.length) = some 1 := by decide +kernel
theorem hd_X7_seed : yX7_seed.cls ≠ "java/lang/invoke/MethodHandle" ∧ yX7_seed.cls ≠ "java/lang/invoke/VarHandle" ∧ (parseMethodDescriptor yX7_seed.desc).map (fun d => d.parameters.length) = some 1 := by decide +kernel
theorem hd_X7_carried : yX7_carried.cls ≠ "java/lang/invoke/MethodHandle" ∧ yX7_carried.cls ≠ "java/lang/invoke/VarHandle" ∧ (parseMethodDescriptor yX7_carried.desc).map (fun d => d.parameters.length) = some 3 := by decide +kernel
theorem hd_X7_image : yX7_image.cls ≠ "java/lang/invoke/MethodHandle" ∧ yX7_image.cls ≠ "java/lang/invoke/VarHandle" ∧ (parseMethodDescriptor yX7_image.desc).map (fun d => d.parameters.length) = some 0 := by decide +kernel
theorem hd_X7_restore : yX7_restore.cls ≠ "java/lang/invoke/MethodHandle" ∧ yX7_restore.cls ≠ "java/lang/invoke/VarHandle" ∧ (parseMethodDescriptor yX7_restore.desc).map (fun d => d.parameters.length) = some 0 := by decide +kernel
theorem hd_X7_isSheet : yX7_isSheet.cls ≠ "java/lang/invoke/MethodHandle" ∧ yX7_isSheet.cls ≠ "java/lang/invoke/VarHandle" ∧ (parseMethodDescriptor yX7_isSheet.desc).map (fun d => d.parameters.length) = some 2 := by decide +kernel
theorem hd_X7_asLane : yX7_asLane.cls ≠ "java/lang/invoke/MethodHandle" ∧ yX7_asLane.cls ≠ "java/lang/invoke/VarHandle" ∧ (parseMethodDescriptor yX7_asLane.desc).map (fun d => d.parameters.length) = some 2 := by decide +kernel
theorem hd_X7_sheet : yX7_sheet.cls ≠ "java/lang/invoke/MethodHandle" ∧ yX7_sheet.cls ≠ "java/lang/invoke/VarHandle" ∧ (parseMethodDescriptor yX7_sheet.desc).map (fun d => d.parameters.length) = some 3 := by decide +kernel
theorem hd_X7_drop : yX7_drop.cls ≠ "java/lang/invoke/MethodHandle" ∧ yX7_drop.cls ≠ "java/lang/invoke/VarHandle" ∧ (parseMethodDescriptor yX7_drop.desc).map (fun d => d.parameters.length) = some 1 := by decide +kernel
theorem hd_X7_lacksRow : yX7_lacksRow.cls ≠ "java/lang/invoke/MethodHandle" ∧ yX7_lacksRow.cls ≠ "java/lang/invoke/VarHandle" ∧ (parseMethodDescriptor yX7_lacksRow.desc).map (fun d => d.parameters.length) = some 4 := by decide +kernel
theorem hd_X7_item : yX7_item.cls ≠ "java/lang/invoke/MethodHandle" ∧ yX7_item.cls ≠ "java/lang/invoke/VarHandle" ∧ (parseMethodDescriptor yX7_item.desc).map (fun d => d.parameters.length) = some 4 := by decide +kernel
theorem hd_X7_isTold : yX7_isTold.cls ≠ "java/lang/invoke/MethodHandle" ∧ yX7_isTold.cls ≠ "java/lang/invoke/VarHandle" ∧ (parseMethodDescriptor yX7_isTold.desc).map (fun d => d.parameters.length) = some 4 := by decide +kernel
theorem hd_X7_waysBy : yX7_waysBy.cls ≠ "java/lang/invoke/MethodHandle" ∧ yX7_waysBy.cls ≠ "java/lang/invoke/VarHandle" ∧ (parseMethodDescriptor yX7_waysBy.desc).map (fun d => d.parameters.length) = some 4 := by decide +kernel
theorem hd_X7_lacksClocks : yX7_lacksClocks.cls ≠ "java/lang/invoke/MethodHandle" ∧ yX7_lacksClocks.cls ≠ "java/lang/invoke/VarHandle" ∧ (parseMethodDescriptor yX7_lacksClocks.desc).map (fun d => d.parameters.length) = some 4 := by decide +kernel
theorem hd_X7_clocks : yX7_clocks.cls ≠ "java/lang/invoke/MethodHandle" ∧ yX7_clocks.cls ≠ "java/lang/invoke/VarHandle" ∧ (parseMethodDescriptor yX7_clocks.desc).map (fun d => d.parameters.length) = some 4 := by decide +kernel
theorem hd_X7_sure : yX7_sure.cls ≠ "java/lang/invoke/MethodHandle" ∧ yX7_sure.cls ≠ "java/lang/invoke/VarHandle" ∧ (parseMethodDescriptor yX7_sure.desc).map (fun d => d.parameters.length) = some 5 := by decide +kernel
theorem hd_X7_film : yX7_film.cls ≠ "java/lang/invoke/MethodHandle" ∧ yX7_film.cls ≠ "java/lang/invoke/VarHandle" ∧ (parseMethodDescriptor yX7_film.desc).map (fun d => d.parameters.length) = some 3 := by decide +kernel
theorem hd_X7_build : yX7_build.cls ≠ "java/lang/invoke/MethodHandle" ∧ yX7_build.cls ≠ "java/lang/invoke/VarHandle" ∧ (parseMethodDescriptor yX7_build.desc).map (fun d => d.parameters.length) = some 3 := by decide +kernel
theorem hd_X7_copy : yX7_copy.cls ≠ "java/lang/invoke/MethodHandle" ∧ yX7_copy.cls ≠ "java/lang/invoke/VarHandle" ∧ (parseMethodDescriptor yX7_copy.desc).map (fun d => d.parameters.length) = some 5 := by decide +kernel
theorem hd_J7_fill_d0a16 : yJ7_fill_d0a16.cls ≠ "java/lang/invoke/MethodHandle" ∧ yJ7_fill_d0a16.cls ≠ "java/lang/invoke/VarHandle" ∧ (parseMethodDescriptor yJ7_fill_d0a16.desc).map (fun d => d.parameters.length) = some 2 := by decide +kernel
theorem hd_J7_fill_53178 : yJ7_fill_53178.cls ≠ "java/lang/invoke/MethodHandle" ∧ yJ7_fill_53178.cls ≠ "java/lang/invoke/VarHandle" ∧ (parseMethodDescriptor yJ7_fill_53178.desc).map (fun d => d.parameters.length) = some 2 := by decide +kernel
