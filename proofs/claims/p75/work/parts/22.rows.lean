/-! what the tables hold, place by place -/
def fs_0 : List PF := [.inl 1, .inl 2, .inl 4, .inl 16, .inl 64, .inl 65, .inl 66, .inl 70, .inl 75, .inl 87, .inl 94, .inr false, .inr false, .inr false]
theorem sh_0 : SH[0]? = some (.inr (.inr (8, fs_0))) := rfl
def fs_1 : List PF := [.inl 2, .inr false, .inr false, .inr false, .inr false, .inr false, .inr false]
theorem sh_1 : SH[1]? = some (.inr (.inr (4, fs_1))) := rfl
def fs_2 : List PF := [.inl 3, .inr false]
theorem sh_2 : SH[2]? = some (.inr (.inr (7, fs_2))) := rfl
theorem sh_3 : SH[3]? = some (.inl (1, 500)) := rfl
def fs_4 : List PF := [.inl 5, .inl 6, .inl 7, .inl 8, .inl 9, .inl 10, .inl 11, .inl 12, .inl 13, .inl 14, .inl 15]
theorem sh_4 : SH[4]? = some (.inr (.inr (1, fs_4))) := rfl
theorem sh_5 : SH[5]? = some (.inl (0, 11)) := rfl
theorem sh_6 : SH[6]? = some (.inl (0, 6)) := rfl
theorem sh_7 : SH[7]? = some (.inl (0, 6)) := rfl
theorem sh_8 : SH[8]? = some (.inl (0, 6)) := rfl
theorem sh_9 : SH[9]? = some (.inl (3, 6)) := rfl
theorem sh_10 : SH[10]? = some (.inl (0, 5)) := rfl
theorem sh_11 : SH[11]? = some (.inl (0, 5)) := rfl
theorem sh_12 : SH[12]? = some (.inl (0, 5)) := rfl
theorem sh_13 : SH[13]? = some (.inl (0, 30)) := rfl
theorem sh_14 : SH[14]? = some (.inl (0, 30)) := rfl
theorem sh_15 : SH[15]? = some (.inl (0, 30)) := rfl
def fs_16 : List PF := [.inl 17, .inl 18, .inl 19, .inl 20, .inl 21, .inl 22, .inl 23, .inl 24, .inl 25, .inl 26, .inl 27]
theorem sh_16 : SH[16]? = some (.inr (.inr (1, fs_16))) := rfl
theorem sh_17 : SH[17]? = some (.inl (0, 11)) := rfl
theorem sh_18 : SH[18]? = some (.inl (0, 6)) := rfl
theorem sh_19 : SH[19]? = some (.inl (0, 6)) := rfl
theorem sh_20 : SH[20]? = some (.inl (0, 6)) := rfl
theorem sh_21 : SH[21]? = some (.inl (3, 6)) := rfl
theorem sh_22 : SH[22]? = some (.inl (0, 5)) := rfl
theorem sh_23 : SH[23]? = some (.inl (0, 5)) := rfl
theorem sh_24 : SH[24]? = some (.inl (0, 5)) := rfl
theorem sh_25 : SH[25]? = some (.inl (0, 30)) := rfl
theorem sh_26 : SH[26]? = some (.inl (0, 30)) := rfl
theorem sh_27 : SH[27]? = some (.inl (0, 30)) := rfl
def fs_28 : List PF := [.inl 29, .inl 30, .inl 31, .inl 32, .inl 33, .inl 34, .inl 35, .inl 36, .inl 37, .inl 38, .inl 39]
theorem sh_28 : SH[28]? = some (.inr (.inr (1, fs_28))) := rfl
theorem sh_29 : SH[29]? = some (.inl (0, 11)) := rfl
theorem sh_30 : SH[30]? = some (.inl (0, 6)) := rfl
theorem sh_31 : SH[31]? = some (.inl (0, 6)) := rfl
theorem sh_32 : SH[32]? = some (.inl (0, 6)) := rfl
theorem sh_33 : SH[33]? = some (.inl (3, 6)) := rfl
theorem sh_34 : SH[34]? = some (.inl (0, 5)) := rfl
theorem sh_35 : SH[35]? = some (.inl (0, 5)) := rfl
theorem sh_36 : SH[36]? = some (.inl (0, 5)) := rfl
theorem sh_37 : SH[37]? = some (.inl (0, 30)) := rfl
theorem sh_38 : SH[38]? = some (.inl (0, 30)) := rfl
theorem sh_39 : SH[39]? = some (.inl (0, 30)) := rfl
def fs_40 : List PF := [.inl 41, .inl 42, .inl 43, .inl 44, .inl 45, .inl 46, .inl 47, .inl 48, .inl 49, .inl 50, .inl 51]
theorem sh_40 : SH[40]? = some (.inr (.inr (1, fs_40))) := rfl
theorem sh_41 : SH[41]? = some (.inl (0, 11)) := rfl
theorem sh_42 : SH[42]? = some (.inl (0, 6)) := rfl
theorem sh_43 : SH[43]? = some (.inl (0, 6)) := rfl
theorem sh_44 : SH[44]? = some (.inl (0, 6)) := rfl
theorem sh_45 : SH[45]? = some (.inl (3, 6)) := rfl
theorem sh_46 : SH[46]? = some (.inl (0, 5)) := rfl
theorem sh_47 : SH[47]? = some (.inl (0, 5)) := rfl
theorem sh_48 : SH[48]? = some (.inl (0, 5)) := rfl
theorem sh_49 : SH[49]? = some (.inl (0, 30)) := rfl
theorem sh_50 : SH[50]? = some (.inl (0, 30)) := rfl
theorem sh_51 : SH[51]? = some (.inl (0, 30)) := rfl
def fs_52 : List PF := [.inl 53, .inl 54, .inl 55, .inl 56, .inl 57, .inl 58, .inl 59, .inl 60, .inl 61, .inl 62, .inl 63]
theorem sh_52 : SH[52]? = some (.inr (.inr (1, fs_52))) := rfl
theorem sh_53 : SH[53]? = some (.inl (0, 11)) := rfl
theorem sh_54 : SH[54]? = some (.inl (0, 6)) := rfl
theorem sh_55 : SH[55]? = some (.inl (0, 6)) := rfl
theorem sh_56 : SH[56]? = some (.inl (0, 6)) := rfl
theorem sh_57 : SH[57]? = some (.inl (3, 6)) := rfl
theorem sh_58 : SH[58]? = some (.inl (0, 5)) := rfl
theorem sh_59 : SH[59]? = some (.inl (0, 5)) := rfl
theorem sh_60 : SH[60]? = some (.inl (0, 5)) := rfl
theorem sh_61 : SH[61]? = some (.inl (0, 30)) := rfl
theorem sh_62 : SH[62]? = some (.inl (0, 30)) := rfl
theorem sh_63 : SH[63]? = some (.inl (0, 30)) := rfl
theorem sh_64 : SH[64]? = some (.inr (.inl [28, 40, 52])) := rfl
theorem sh_65 : SH[65]? = some (.inl (2, 3)) := rfl
def fs_66 : List PF := [.inl 67, .inl 68, .inl 69]
theorem sh_66 : SH[66]? = some (.inr (.inr (5, fs_66))) := rfl
theorem sh_67 : SH[67]? = some (.inl (3, 240)) := rfl
theorem sh_68 : SH[68]? = some (.inl (0, 4)) := rfl
theorem sh_69 : SH[69]? = some (.inl (0, 4)) := rfl
def fs_70 : List PF := [.inl 71, .inl 72, .inl 73, .inl 74, .inr false, .inr false, .inr false, .inr false, .inr false, .inr false]
theorem sh_70 : SH[70]? = some (.inr (.inr (2, fs_70))) := rfl
theorem sh_71 : SH[71]? = some (.inl (0, 6)) := rfl
theorem sh_72 : SH[72]? = some (.inl (0, 6)) := rfl
theorem sh_73 : SH[73]? = some (.inl (3, 6)) := rfl
theorem sh_74 : SH[74]? = some (.inl (0, 6)) := rfl
def fs_75 : List PF := [.inl 76, .inl 77, .inl 78, .inl 79, .inl 80, .inl 81, .inl 82, .inl 83, .inl 84, .inl 85, .inl 86, .inr true, .inr false]
theorem sh_75 : SH[75]? = some (.inr (.inr (6, fs_75))) := rfl
theorem sh_76 : SH[76]? = some (.inl (0, 360)) := rfl
theorem sh_77 : SH[77]? = some (.inl (0, 60)) := rfl
theorem sh_78 : SH[78]? = some (.inl (0, 60)) := rfl
theorem sh_79 : SH[79]? = some (.inl (0, 60)) := rfl
theorem sh_80 : SH[80]? = some (.inl (0, 60)) := rfl
theorem sh_81 : SH[81]? = some (.inl (0, 60)) := rfl
theorem sh_82 : SH[82]? = some (.inl (0, 60)) := rfl
theorem sh_83 : SH[83]? = some (.inl (0, 60)) := rfl
theorem sh_84 : SH[84]? = some (.inl (0, 60)) := rfl
theorem sh_85 : SH[85]? = some (.inl (0, 60)) := rfl
theorem sh_86 : SH[86]? = some (.inl (0, 7)) := rfl
def fs_87 : List PF := [.inl 88, .inl 89, .inl 90, .inl 91, .inl 92, .inl 93, .inr false, .inr false, .inr false]
theorem sh_87 : SH[87]? = some (.inr (.inr (3, fs_87))) := rfl
theorem sh_88 : SH[88]? = some (.inl (0, 6)) := rfl
theorem sh_89 : SH[89]? = some (.inl (0, 6)) := rfl
theorem sh_90 : SH[90]? = some (.inl (0, 720)) := rfl
theorem sh_91 : SH[91]? = some (.inl (3, 720)) := rfl
theorem sh_92 : SH[92]? = some (.inl (0, 720)) := rfl
theorem sh_93 : SH[93]? = some (.inl (0, 61)) := rfl
def fs_94 : List PF := [.inl 95, .inr false, .inr false]
theorem sh_94 : SH[94]? = some (.inr (.inr (0, fs_94))) := rfl
theorem sh_95 : SH[95]? = some (.inl (3, 256)) := rfl
def fs_96 : List PF := [.inr false, .inl 97, .inl 98, .inl 99, .inl 100, .inr false, .inl 101, .inr false, .inr false, .inr false, .inr false, .inr false, .inr false, .inr false, .inl 102, .inl 103, .inl 104, .inl 105, .inr false, .inr false, .inr false, .inl 106, .inl 107, .inl 108, .inl 109, .inl 110, .inl 111, .inl 112, .inl 113, .inl 114, .inl 115, .inl 116, .inl 117, .inl 118, .inr false, .inr false, .inr false, .inl 119, .inl 120, .inl 121, .inl 122, .inr false, .inr false, .inr false, .inr false, .inl 123, .inr false, .inr false, .inr false, .inl 124, .inl 125, .inr false, .inr false, .inl 126, .inr true, .inr true, .inr true, .inl 127, .inl 128, .inl 129, .inl 130]
theorem sh_96 : SH[96]? = some (.inr (.inr (9, fs_96))) := rfl
theorem sh_97 : SH[97]? = some (.inl (0, 68)) := rfl
theorem sh_98 : SH[98]? = some (.inl (0, 204)) := rfl
theorem sh_99 : SH[99]? = some (.inl (2, 3)) := rfl
theorem sh_100 : SH[100]? = some (.inl (1, 500)) := rfl
theorem sh_101 : SH[101]? = some (.inl (0, 5)) := rfl
theorem sh_102 : SH[102]? = some (.inl (0, 68)) := rfl
theorem sh_103 : SH[103]? = some (.inl (0, 6)) := rfl
theorem sh_104 : SH[104]? = some (.inl (2, 360)) := rfl
theorem sh_105 : SH[105]? = some (.inl (0, 6)) := rfl
theorem sh_106 : SH[106]? = some (.inl (2, 60)) := rfl
theorem sh_107 : SH[107]? = some (.inl (0, 6)) := rfl
theorem sh_108 : SH[108]? = some (.inl (0, 6)) := rfl
theorem sh_109 : SH[109]? = some (.inl (0, 23)) := rfl
theorem sh_110 : SH[110]? = some (.inl (0, 360)) := rfl
theorem sh_111 : SH[111]? = some (.inl (0, 360)) := rfl
theorem sh_112 : SH[112]? = some (.inl (0, 60)) := rfl
theorem sh_113 : SH[113]? = some (.inl (0, 60)) := rfl
theorem sh_114 : SH[114]? = some (.inl (0, 60)) := rfl
theorem sh_115 : SH[115]? = some (.inl (0, 60)) := rfl
theorem sh_116 : SH[116]? = some (.inl (0, 60)) := rfl
theorem sh_117 : SH[117]? = some (.inl (0, 6)) := rfl
theorem sh_118 : SH[118]? = some (.inl (0, 6)) := rfl
theorem sh_119 : SH[119]? = some (.inl (0, 6)) := rfl
theorem sh_120 : SH[120]? = some (.inl (0, 60)) := rfl
theorem sh_121 : SH[121]? = some (.inl (0, 29)) := rfl
theorem sh_122 : SH[122]? = some (.inl (0, 29)) := rfl
theorem sh_123 : SH[123]? = some (.inl (0, 6)) := rfl
theorem sh_124 : SH[124]? = some (.inl (1, 4320)) := rfl
theorem sh_125 : SH[125]? = some (.inl (1, 43200)) := rfl
theorem sh_126 : SH[126]? = some (.inl (0, 64)) := rfl
theorem sh_127 : SH[127]? = some (.inl (0, 4)) := rfl
theorem sh_128 : SH[128]? = some (.inl (0, 4)) := rfl
theorem sh_129 : SH[129]? = some (.inl (3, 240)) := rfl
theorem sh_130 : SH[130]? = some (.inl (3, 60)) := rfl
theorem ft_0_11 : ftab 0 11 = some (0, 0, 3) := rfl
theorem ft_0_15 : ftab 0 15 = some (0, 1, 0) := rfl
theorem ft_0_19 : ftab 0 19 = some (0, 2, 0) := rfl
theorem ft_0_46 : ftab 0 46 = some (2, 4, 0) := rfl
theorem ft_0_49 : ftab 0 49 = some (2, 3, 3) := rfl
theorem ft_0_53 : ftab 0 53 = some (2, 9, 0) := rfl
theorem mt_0_i22 : mtab 0 22 = some (0, 189, 0) := rfl
theorem mt_0_i27 : mtab 0 27 = some (0, 73, 0) := rfl
theorem mt_0_i30 : mtab 0 30 = some (0, 79, 2) := rfl
theorem mt_0_i34 : mtab 0 34 = some (1, 190, 1) := rfl
theorem mt_0_i38 : mtab 0 38 = some (0, 191, 1) := rfl
theorem mt_0_i42 : mtab 0 42 = some (2, 75, 2) := rfl
theorem ft_1_9 : ftab 1 9 = some (1, 0, 3) := rfl
theorem ft_1_15 : ftab 1 15 = some (1, 1, 3) := rfl
theorem ft_1_18 : ftab 1 18 = some (1, 2, 3) := rfl
theorem ft_1_21 : ftab 1 21 = some (1, 3, 3) := rfl
theorem ft_1_24 : ftab 1 24 = some (1, 4, 3) := rfl
theorem ft_1_28 : ftab 1 28 = some (1, 5, 3) := rfl
theorem ft_1_31 : ftab 1 31 = some (1, 6, 3) := rfl
theorem ft_1_34 : ftab 1 34 = some (1, 7, 3) := rfl
theorem ft_1_37 : ftab 1 37 = some (1, 8, 3) := rfl
theorem ft_1_40 : ftab 1 40 = some (1, 9, 3) := rfl
theorem ft_1_43 : ftab 1 43 = some (1, 10, 3) := rfl
theorem mt_1_i46 : mtab 1 46 = some (3, 6, 5) := rfl
theorem mt_1_i52 : mtab 1 52 = some (3, 2, 1) := rfl
theorem mt_1_i58 : mtab 1 58 = some (0, 61, 3) := rfl
theorem mt_1_i62 : mtab 1 62 = some (0, 299, 1) := rfl
theorem mt_1_i66 : mtab 1 66 = some (0, 51, 1) := rfl
theorem ft_2_9 : ftab 2 9 = some (2, 0, 3) := rfl
theorem ft_2_15 : ftab 2 15 = some (2, 1, 3) := rfl
theorem ft_2_18 : ftab 2 18 = some (2, 2, 3) := rfl
theorem ft_2_22 : ftab 2 22 = some (2, 3, 3) := rfl
theorem ft_2_25 : ftab 2 25 = some (2, 4, 0) := rfl
theorem ft_2_29 : ftab 2 29 = some (2, 5, 0) := rfl
theorem ft_2_32 : ftab 2 32 = some (2, 6, 0) := rfl
theorem ft_2_35 : ftab 2 35 = some (2, 7, 0) := rfl
theorem ft_2_38 : ftab 2 38 = some (2, 8, 0) := rfl
theorem ft_2_41 : ftab 2 41 = some (2, 9, 0) := rfl
theorem ft_2_44 : ftab 2 44 = some (1, 0, 3) := rfl
theorem ft_2_53 : ftab 2 53 = some (1, 2, 3) := rfl
theorem ft_2_54 : ftab 2 54 = some (1, 3, 3) := rfl
theorem ft_2_55 : ftab 2 55 = some (1, 4, 3) := rfl
theorem mt_2_i49 : mtab 2 49 = some (0, 51, 1) := rfl
theorem mt_2_i56 : mtab 2 56 = some (3, 0, 2) := rfl
theorem mt_2_i62 : mtab 2 62 = some (0, 71, 1) := rfl
theorem mt_2_i66 : mtab 2 66 = some (0, 73, 0) := rfl
theorem mt_2_i69 : mtab 2 69 = some (2, 75, 2) := rfl
theorem mt_2_i73 : mtab 2 73 = some (0, 79, 2) := rfl
theorem mt_2_i77 : mtab 2 77 = some (0, 78, 1) := rfl
theorem mt_2_i80 : mtab 2 80 = some (0, 76, 2) := rfl
theorem mt_2_i84 : mtab 2 84 = some (0, 77, 1) := rfl
theorem ft_3_9 : ftab 3 9 = some (3, 0, 3) := rfl
theorem ft_3_15 : ftab 3 15 = some (3, 1, 3) := rfl
theorem ft_3_18 : ftab 3 18 = some (3, 2, 3) := rfl
theorem ft_3_21 : ftab 3 21 = some (3, 3, 3) := rfl
theorem ft_3_25 : ftab 3 25 = some (3, 4, 3) := rfl
theorem ft_3_28 : ftab 3 28 = some (3, 5, 3) := rfl
theorem ft_3_31 : ftab 3 31 = some (3, 6, 0) := rfl
theorem ft_3_35 : ftab 3 35 = some (3, 7, 0) := rfl
theorem ft_3_38 : ftab 3 38 = some (3, 8, 0) := rfl
theorem ft_3_41 : ftab 3 41 = some (1, 0, 3) := rfl
theorem ft_3_106 : ftab 3 106 = some (5, 1, 3) := rfl
theorem ft_3_122 : ftab 3 122 = some (1, 5, 3) := rfl
theorem ft_3_125 : ftab 3 125 = some (1, 6, 3) := rfl
theorem mt_3_i45 : mtab 3 45 = some (0, 220, 2) := rfl
theorem mt_3_i49 : mtab 3 49 = some (1, 221, 2) := rfl
theorem mt_3_i53 : mtab 3 53 = some (0, 222, 1) := rfl
theorem mt_3_i57 : mtab 3 57 = some (0, 224, 1) := rfl
theorem mt_3_i61 : mtab 3 61 = some (0, 68, 1) := rfl
theorem mt_3_i67 : mtab 3 67 = some (0, 234, 2) := rfl
theorem mt_3_i70 : mtab 3 70 = some (0, 69, 2) := rfl
theorem mt_3_i74 : mtab 3 74 = some (0, 172, 2) := rfl
theorem mt_3_i78 : mtab 3 78 = some (1, 176, 1) := rfl
theorem mt_3_i84 : mtab 3 84 = some (0, 237, 1) := rfl
theorem mt_3_i88 : mtab 3 88 = some (1, 259, 3) := rfl
theorem mt_3_i92 : mtab 3 92 = some (0, 270, 1) := rfl
theorem mt_3_i95 : mtab 3 95 = some (1, 258, 2) := rfl
theorem mt_3_i99 : mtab 3 99 = some (3, 0, 2) := rfl
theorem mt_3_i111 : mtab 3 111 = some (0, 256, 2) := rfl
theorem mt_3_i115 : mtab 3 115 = some (1, 81, 1) := rfl
theorem mt_3_i119 : mtab 3 119 = some (3, 1, 2) := rfl
theorem mt_3_i128 : mtab 3 128 = some (0, 61, 3) := rfl
theorem mt_3_i132 : mtab 3 132 = some (0, 223, 2) := rfl
theorem kt_3_104 : ktab 3 104 = some (.inr (.inl (2))) := rfl
theorem ft_4_12 : ftab 4 12 = some (4, 0, 3) := rfl
theorem ft_4_18 : ftab 4 18 = some (4, 1, 0) := rfl
theorem ft_4_22 : ftab 4 22 = some (4, 2, 0) := rfl
theorem ft_4_25 : ftab 4 25 = some (4, 3, 0) := rfl
theorem ft_4_28 : ftab 4 28 = some (4, 4, 0) := rfl
theorem ft_4_31 : ftab 4 31 = some (4, 5, 0) := rfl
theorem ft_4_34 : ftab 4 34 = some (4, 6, 0) := rfl
theorem ft_4_49 : ftab 4 49 = some (1, 0, 3) := rfl
theorem ft_4_135 : ftab 4 135 = some (7, 1, 0) := rfl
theorem mt_4_i37 : mtab 4 37 = some (0, 7, 0) := rfl
theorem mt_4_i42 : mtab 4 42 = some (0, 10, 0) := rfl
theorem mt_4_i45 : mtab 4 45 = some (0, 29, 1) := rfl
theorem mt_4_i53 : mtab 4 53 = some (0, 22, 1) := rfl
theorem mt_4_i58 : mtab 4 58 = some (0, 18, 1) := rfl
theorem mt_4_i62 : mtab 4 62 = some (0, 24, 1) := rfl
theorem mt_4_i67 : mtab 4 67 = some (0, 26, 3) := rfl
theorem mt_4_i73 : mtab 4 73 = some (0, 27, 1) := rfl
theorem mt_4_i76 : mtab 4 76 = some (0, 28, 0) := rfl
theorem mt_4_i81 : mtab 4 81 = some (0, 20, 1) := rfl
theorem mt_4_i87 : mtab 4 87 = some (0, 21, 3) := rfl
theorem mt_4_i99 : mtab 4 99 = some (0, 19, 1) := rfl
theorem mt_4_i107 : mtab 4 107 = some (0, 23, 2) := rfl
theorem mt_4_i111 : mtab 4 111 = some (0, 25, 3) := rfl
theorem mt_4_i121 : mtab 4 121 = some (0, 12, 0) := rfl
theorem mt_4_i127 : mtab 4 127 = some (0, 8, 1) := rfl
theorem mt_4_i131 : mtab 4 131 = some (0, 17, 1) := rfl
theorem mt_4_i137 : mtab 4 137 = some (1, 9, 1) := rfl
theorem mt_4_i141 : mtab 4 141 = some (3, 1, 2) := rfl
theorem kt_4_56 : ktab 4 56 = some (.inr (.inr (.inr 7))) := rfl
theorem kt_4_65 : ktab 4 65 = some (.inr (.inr (.inr 10))) := rfl
theorem kt_4_71 : ktab 4 71 = some (.inr (.inr (.inr 11))) := rfl
theorem kt_4_79 : ktab 4 79 = some (.inr (.inr (.inr 1))) := rfl
theorem kt_4_85 : ktab 4 85 = some (.inr (.inr (.inr 2))) := rfl
theorem kt_4_91 : ktab 4 91 = some (.inr (.inr (.inr 3))) := rfl
theorem kt_4_93 : ktab 4 93 = some (.inr (.inr (.inr 4))) := rfl
theorem kt_4_95 : ktab 4 95 = some (.inr (.inr (.inr 5))) := rfl
theorem kt_4_97 : ktab 4 97 = some (.inr (.inr (.inr 6))) := rfl
theorem kt_4_103 : ktab 4 103 = some (.inr (.inr (.inr 8))) := rfl
theorem kt_4_105 : ktab 4 105 = some (.inr (.inr (.inr 9))) := rfl
theorem kt_4_115 : ktab 4 115 = some (.inr (.inr (.inr 12))) := rfl
theorem kt_4_117 : ktab 4 117 = some (.inr (.inr (.inr 13))) := rfl
theorem kt_4_119 : ktab 4 119 = some (.inr (.inr (.inr 14))) := rfl
theorem kt_4_140 : ktab 4 140 = some (.inl (1000000)) := rfl
theorem ft_5_11 : ftab 5 11 = some (5, 0, 3) := rfl
theorem ft_5_15 : ftab 5 15 = some (5, 1, 3) := rfl
theorem ft_5_19 : ftab 5 19 = some (5, 2, 3) := rfl
theorem mt_5_i22 : mtab 5 22 = some (0, 255, 1) := rfl
theorem mt_5_i26 : mtab 5 26 = some (1, 331, 2) := rfl
theorem mt_5_i30 : mtab 5 30 = some (3, 6, 5) := rfl
theorem ft_6_9 : ftab 6 9 = some (6, 0, 3) := rfl
theorem ft_6_15 : ftab 6 15 = some (6, 1, 3) := rfl
theorem ft_6_18 : ftab 6 18 = some (6, 2, 3) := rfl
theorem ft_6_21 : ftab 6 21 = some (6, 3, 3) := rfl
theorem ft_6_24 : ftab 6 24 = some (6, 4, 3) := rfl
theorem ft_6_27 : ftab 6 27 = some (6, 5, 3) := rfl
theorem ft_6_30 : ftab 6 30 = some (6, 6, 3) := rfl
theorem ft_6_33 : ftab 6 33 = some (6, 7, 3) := rfl
theorem ft_6_36 : ftab 6 36 = some (6, 8, 3) := rfl
theorem ft_6_39 : ftab 6 39 = some (6, 9, 3) := rfl
theorem ft_6_42 : ftab 6 42 = some (6, 10, 3) := rfl
theorem ft_6_45 : ftab 6 45 = some (6, 11, 2) := rfl
theorem ft_6_49 : ftab 6 49 = some (6, 12, 0) := rfl
theorem ft_6_65 : ftab 6 65 = some (1, 0, 3) := rfl
theorem ft_6_85 : ftab 6 85 = some (2, 3, 3) := rfl
theorem ft_6_89 : ftab 6 89 = some (2, 8, 0) := rfl
theorem ft_6_92 : ftab 6 92 = some (2, 9, 0) := rfl
theorem mt_6_i53 : mtab 6 53 = some (0, 71, 1) := rfl
theorem mt_6_i59 : mtab 6 59 = some (0, 72, 0) := rfl
theorem mt_6_i62 : mtab 6 62 = some (0, 73, 0) := rfl
theorem mt_6_i70 : mtab 6 70 = some (0, 74, 0) := rfl
theorem mt_6_i73 : mtab 6 73 = some (0, 79, 2) := rfl
theorem mt_6_i77 : mtab 6 77 = some (0, 82, 2) := rfl
theorem mt_6_i81 : mtab 6 81 = some (0, 85, 3) := rfl
theorem mt_6_i86 : mtab 6 86 = some (0, 80, 0) := rfl
theorem mt_6_i95 : mtab 6 95 = some (1, 81, 1) := rfl
theorem mt_6_i100 : mtab 6 100 = some (0, 78, 1) := rfl
theorem mt_6_i104 : mtab 6 104 = some (2, 75, 2) := rfl
theorem mt_6_i108 : mtab 6 108 = some (0, 83, 1) := rfl
theorem mt_6_i111 : mtab 6 111 = some (2, 84, 3) := rfl
theorem ft_7_9 : ftab 7 9 = some (7, 0, 3) := rfl
theorem ft_7_15 : ftab 7 15 = some (7, 1, 0) := rfl
theorem mt_7_i19 : mtab 7 19 = some (0, 0, 1) := rfl
theorem ft_8_10 : ftab 8 10 = some (8, 0, 3) := rfl
theorem ft_8_20 : ftab 8 20 = some (8, 1, 3) := rfl
theorem ft_8_24 : ftab 8 24 = some (8, 2, 3) := rfl
theorem ft_8_28 : ftab 8 28 = some (8, 3, 3) := rfl
theorem ft_8_31 : ftab 8 31 = some (8, 4, 3) := rfl
theorem ft_8_35 : ftab 8 35 = some (8, 5, 3) := rfl
theorem ft_8_42 : ftab 8 42 = some (8, 6, 3) := rfl
theorem ft_8_49 : ftab 8 49 = some (8, 7, 3) := rfl
theorem ft_8_56 : ftab 8 56 = some (8, 8, 3) := rfl
theorem ft_8_63 : ftab 8 63 = some (8, 9, 3) := rfl
theorem ft_8_70 : ftab 8 70 = some (8, 10, 3) := rfl
theorem ft_8_74 : ftab 8 74 = some (8, 11, 1) := rfl
theorem ft_8_78 : ftab 8 78 = some (8, 12, 1) := rfl
theorem ft_8_81 : ftab 8 81 = some (8, 13, 1) := rfl
theorem ft_8_94 : ftab 8 94 = some (7, 1, 0) := rfl
theorem ft_8_109 : ftab 8 109 = some (1, 0, 3) := rfl
theorem ft_8_113 : ftab 8 113 = some (4, 1, 0) := rfl
theorem ft_8_116 : ftab 8 116 = some (4, 2, 0) := rfl
theorem ft_8_125 : ftab 8 125 = some (1, 2, 3) := rfl
theorem ft_8_128 : ftab 8 128 = some (1, 3, 3) := rfl
theorem ft_8_134 : ftab 8 134 = some (1, 7, 3) := rfl
theorem ft_8_137 : ftab 8 137 = some (1, 5, 3) := rfl
theorem ft_8_140 : ftab 8 140 = some (1, 6, 3) := rfl
theorem ft_8_157 : ftab 8 157 = some (6, 1, 3) := rfl
theorem ft_8_164 : ftab 8 164 = some (6, 10, 3) := rfl
theorem ft_8_175 : ftab 8 175 = some (6, 2, 3) := rfl
theorem ft_8_178 : ftab 8 178 = some (6, 3, 3) := rfl
theorem ft_8_181 : ftab 8 181 = some (6, 5, 3) := rfl
theorem ft_8_184 : ftab 8 184 = some (6, 6, 3) := rfl
theorem ft_8_187 : ftab 8 187 = some (6, 7, 3) := rfl
theorem ft_8_190 : ftab 8 190 = some (6, 8, 3) := rfl
theorem ft_8_193 : ftab 8 193 = some (6, 9, 3) := rfl
theorem ft_8_206 : ftab 8 206 = some (6, 4, 3) := rfl
theorem ft_8_212 : ftab 8 212 = some (6, 11, 2) := rfl
theorem ft_8_216 : ftab 8 216 = some (6, 12, 0) := rfl
theorem ft_8_240 : ftab 8 240 = some (2, 5, 0) := rfl
theorem ft_8_258 : ftab 8 258 = some (2, 6, 0) := rfl
theorem ft_8_274 : ftab 8 274 = some (0, 1, 0) := rfl
theorem ft_8_290 : ftab 8 290 = some (3, 6, 0) := rfl
theorem ft_8_304 : ftab 8 304 = some (3, 3, 3) := rfl
theorem ft_8_307 : ftab 8 307 = some (3, 7, 0) := rfl
theorem ft_8_317 : ftab 8 317 = some (3, 8, 0) := rfl
theorem ft_8_395 : ftab 8 395 = some (5, 1, 3) := rfl
theorem ft_8_401 : ftab 8 401 = some (5, 2, 3) := rfl
theorem ft_8_433 : ftab 8 433 = some (2, 0, 3) := rfl
theorem mt_8_i84 : mtab 8 84 = some (0, 0, 1) := rfl
theorem mt_8_i90 : mtab 8 90 = some (0, 1, 1) := rfl
theorem mt_8_i98 : mtab 8 98 = some (0, 30, 1) := rfl
theorem mt_8_i102 : mtab 8 102 = some (0, 31, 1) := rfl
theorem mt_8_i106 : mtab 8 106 = some (0, 33, 0) := rfl
theorem mt_8_i119 : mtab 8 119 = some (0, 51, 1) := rfl
theorem mt_8_i122 : mtab 8 122 = some (1, 52, 1) := rfl
theorem mt_8_i131 : mtab 8 131 = some (0, 58, 1) := rfl
theorem mt_8_i143 : mtab 8 143 = some (0, 62, 1) := rfl
theorem mt_8_i146 : mtab 8 146 = some (0, 135, 0) := rfl
theorem mt_8_i150 : mtab 8 150 = some (0, 67, 1) := rfl
theorem mt_8_i153 : mtab 8 153 = some (0, 87, 0) := rfl
theorem mt_8_i160 : mtab 8 160 = some (1, 75, 2) := rfl
theorem mt_8_i167 : mtab 8 167 = some (0, 105, 2) := rfl
theorem mt_8_i171 : mtab 8 171 = some (0, 108, 2) := rfl
theorem mt_8_i196 : mtab 8 196 = some (0, 127, 1) := rfl
theorem mt_8_i200 : mtab 8 200 = some (0, 114, 2) := rfl
theorem mt_8_i203 : mtab 8 203 = some (0, 119, 1) := rfl
theorem mt_8_i209 : mtab 8 209 = some (0, 83, 1) := rfl
theorem mt_8_i219 : mtab 8 219 = some (0, 136, 2) := rfl
theorem mt_8_i223 : mtab 8 223 = some (3, 0, 2) := rfl
theorem mt_8_i228 : mtab 8 228 = some (0, 147, 0) := rfl
theorem mt_8_i232 : mtab 8 232 = some (1, 81, 1) := rfl
theorem mt_8_i237 : mtab 8 237 = some (0, 70, 0) := rfl
theorem mt_8_i243 : mtab 8 243 = some (0, 173, 0) := rfl
theorem mt_8_i247 : mtab 8 247 = some (0, 72, 0) := rfl
theorem mt_8_i249 : mtab 8 249 = some (0, 177, 0) := rfl
theorem mt_8_i252 : mtab 8 252 = some (0, 179, 2) := rfl
theorem mt_8_i255 : mtab 8 255 = some (0, 213, 1) := rfl
theorem mt_8_i261 : mtab 8 261 = some (3, 1, 2) := rfl
theorem mt_8_i264 : mtab 8 264 = some (0, 245, 2) := rfl
theorem mt_8_i268 : mtab 8 268 = some (0, 178, 0) := rfl
theorem mt_8_i271 : mtab 8 271 = some (0, 193, 0) := rfl
theorem mt_8_i277 : mtab 8 277 = some (0, 202, 0) := rfl
theorem mt_8_i279 : mtab 8 279 = some (0, 205, 0) := rfl
theorem mt_8_i282 : mtab 8 282 = some (1, 206, 3) := rfl
theorem mt_8_i286 : mtab 8 286 = some (0, 226, 0) := rfl
theorem mt_8_i292 : mtab 8 292 = some (0, 236, 0) := rfl
theorem mt_8_i295 : mtab 8 295 = some (0, 238, 1) := rfl
theorem mt_8_i298 : mtab 8 298 = some (0, 237, 1) := rfl
theorem mt_8_i301 : mtab 8 301 = some (0, 234, 2) := rfl
theorem mt_8_i310 : mtab 8 310 = some (0, 257, 1) := rfl
theorem mt_8_i313 : mtab 8 313 = some (0, 260, 2) := rfl
theorem mt_8_i320 : mtab 8 320 = some (0, 267, 2) := rfl
theorem mt_8_i323 : mtab 8 323 = some (0, 271, 1) := rfl
theorem mt_8_i326 : mtab 8 326 = some (0, 270, 1) := rfl
theorem mt_8_i329 : mtab 8 329 = some (0, 183, 0) := rfl
theorem mt_8_i332 : mtab 8 332 = some (0, 184, 1) := rfl
theorem mt_8_i338 : mtab 8 338 = some (0, 283, 4) := rfl
theorem mt_8_i342 : mtab 8 342 = some (0, 290, 1) := rfl
theorem mt_8_i347 : mtab 8 347 = some (0, 172, 2) := rfl
theorem mt_8_i351 : mtab 8 351 = some (1, 176, 1) := rfl
theorem mt_8_i356 : mtab 8 356 = some (0, 292, 2) := rfl
theorem mt_8_i362 : mtab 8 362 = some (1, 291, 2) := rfl
theorem mt_8_i366 : mtab 8 366 = some (1, 311, 1) := rfl
theorem mt_8_i369 : mtab 8 369 = some (0, 312, 1) := rfl
theorem mt_8_i373 : mtab 8 373 = some (0, 300, 3) := rfl
theorem mt_8_i377 : mtab 8 377 = some (0, 32, 0) := rfl
theorem mt_8_i380 : mtab 8 380 = some (0, 306, 1) := rfl
theorem mt_8_i383 : mtab 8 383 = some (0, 321, 0) := rfl
theorem mt_8_i386 : mtab 8 386 = some (0, 254, 1) := rfl
theorem mt_8_i389 : mtab 8 389 = some (0, 328, 3) := rfl
theorem mt_8_i392 : mtab 8 392 = some (0, 255, 1) := rfl
theorem mt_8_i397 : mtab 8 397 = some (0, 332, 3) := rfl
theorem mt_8_i404 : mtab 8 404 = some (0, 336, 3) := rfl
theorem mt_8_i408 : mtab 8 408 = some (0, 337, 5) := rfl
theorem mt_8_i412 : mtab 8 412 = some (0, 86, 2) := rfl
theorem mt_8_i416 : mtab 8 416 = some (0, 225, 1) := rfl
theorem mt_8_i419 : mtab 8 419 = some (0, 235, 2) := rfl
theorem mt_8_i422 : mtab 8 422 = some (1, 84, 3) := rfl
theorem mt_8_i426 : mtab 8 426 = some (0, 68, 1) := rfl
theorem mt_8_i429 : mtab 8 429 = some (0, 69, 2) := rfl
theorem mt_8_i434 : mtab 8 434 = some (0, 192, 1) := rfl
theorem mt_8_i438 : mtab 8 438 = some (0, 256, 2) := rfl
theorem mt_8_i450 : mtab 8 450 = some (3, 3, 1) := rfl
theorem kt_8_345 : ktab 8 345 = some (.inr (.inl (-2))) := rfl
theorem kt_8_360 : ktab 8 360 = some (.inr (.inl (10))) := rfl
theorem kt_8_441 : ktab 8 441 = some (.inr (.inl (99))) := rfl
theorem kt_8_443 : ktab 8 443 = some (.inl (2000000000)) := rfl
theorem kt_8_444 : ktab 8 444 = some (.inr (.inl (1103515245))) := rfl
theorem kt_8_446 : ktab 8 446 = some (.inr (.inl (12345))) := rfl
theorem kt_8_448 : ktab 8 448 = some (.inr (.inl (2147483647))) := rfl
theorem ft_9_9 : ftab 9 9 = some (9, 1, 3) := rfl
theorem ft_9_13 : ftab 9 13 = some (9, 2, 3) := rfl
theorem ft_9_16 : ftab 9 16 = some (9, 3, 3) := rfl
theorem ft_9_20 : ftab 9 20 = some (9, 4, 3) := rfl
theorem ft_9_24 : ftab 9 24 = some (9, 6, 3) := rfl
theorem ft_9_27 : ftab 9 27 = some (9, 13, 0) := rfl
theorem ft_9_31 : ftab 9 31 = some (9, 14, 3) := rfl
theorem ft_9_34 : ftab 9 34 = some (9, 15, 3) := rfl
theorem ft_9_37 : ftab 9 37 = some (9, 16, 3) := rfl
theorem ft_9_40 : ftab 9 40 = some (9, 17, 3) := rfl
theorem ft_9_43 : ftab 9 43 = some (9, 21, 3) := rfl
theorem ft_9_46 : ftab 9 46 = some (9, 22, 3) := rfl
theorem ft_9_49 : ftab 9 49 = some (9, 23, 3) := rfl
theorem ft_9_52 : ftab 9 52 = some (9, 24, 3) := rfl
theorem ft_9_55 : ftab 9 55 = some (9, 25, 3) := rfl
theorem ft_9_58 : ftab 9 58 = some (9, 26, 3) := rfl
theorem ft_9_61 : ftab 9 61 = some (9, 27, 3) := rfl
theorem ft_9_64 : ftab 9 64 = some (9, 28, 3) := rfl
theorem ft_9_67 : ftab 9 67 = some (9, 29, 3) := rfl
theorem ft_9_70 : ftab 9 70 = some (9, 30, 3) := rfl
theorem ft_9_73 : ftab 9 73 = some (9, 31, 3) := rfl
theorem ft_9_76 : ftab 9 76 = some (9, 32, 3) := rfl
theorem ft_9_79 : ftab 9 79 = some (9, 33, 3) := rfl
theorem ft_9_82 : ftab 9 82 = some (9, 37, 3) := rfl
theorem ft_9_85 : ftab 9 85 = some (9, 38, 3) := rfl
theorem ft_9_88 : ftab 9 88 = some (9, 39, 3) := rfl
theorem ft_9_91 : ftab 9 91 = some (9, 40, 3) := rfl
theorem ft_9_94 : ftab 9 94 = some (9, 45, 3) := rfl
theorem ft_9_97 : ftab 9 97 = some (9, 49, 3) := rfl
theorem ft_9_101 : ftab 9 101 = some (9, 50, 3) := rfl
theorem ft_9_104 : ftab 9 104 = some (9, 53, 3) := rfl
theorem ft_9_107 : ftab 9 107 = some (9, 57, 3) := rfl
theorem ft_9_110 : ftab 9 110 = some (9, 58, 3) := rfl
theorem ft_9_113 : ftab 9 113 = some (9, 59, 3) := rfl
theorem ft_9_117 : ftab 9 117 = some (9, 60, 3) := rfl
theorem ft_9_136 : ftab 9 136 = some (9, 5, 0) := rfl
theorem ft_9_139 : ftab 9 139 = some (9, 7, 0) := rfl
theorem ft_9_142 : ftab 9 142 = some (9, 8, 0) := rfl
theorem ft_9_149 : ftab 9 149 = some (9, 9, 0) := rfl
theorem ft_9_152 : ftab 9 152 = some (9, 10, 0) := rfl
theorem ft_9_163 : ftab 9 163 = some (9, 11, 0) := rfl
theorem ft_9_173 : ftab 9 173 = some (9, 12, 0) := rfl
theorem ft_9_253 : ftab 9 253 = some (9, 18, 0) := rfl
theorem ft_9_256 : ftab 9 256 = some (9, 19, 0) := rfl
theorem ft_9_259 : ftab 9 259 = some (9, 20, 0) := rfl
theorem ft_9_262 : ftab 9 262 = some (9, 34, 0) := rfl
theorem ft_9_265 : ftab 9 265 = some (9, 35, 0) := rfl
theorem ft_9_268 : ftab 9 268 = some (9, 36, 0) := rfl
theorem ft_9_355 : ftab 9 355 = some (9, 42, 0) := rfl
theorem ft_9_362 : ftab 9 362 = some (9, 41, 0) := rfl
theorem ft_9_368 : ftab 9 368 = some (9, 43, 0) := rfl
theorem ft_9_399 : ftab 9 399 = some (9, 44, 0) := rfl
theorem ft_9_408 : ftab 9 408 = some (9, 46, 0) := rfl
theorem ft_9_411 : ftab 9 411 = some (9, 48, 0) := rfl
theorem ft_9_414 : ftab 9 414 = some (9, 47, 0) := rfl
theorem ft_9_445 : ftab 9 445 = some (9, 51, 0) := rfl
theorem ft_9_454 : ftab 9 454 = some (9, 52, 0) := rfl
theorem ft_9_479 : ftab 9 479 = some (9, 54, 2) := rfl
theorem ft_9_483 : ftab 9 483 = some (9, 55, 2) := rfl
theorem ft_9_486 : ftab 9 486 = some (9, 56, 2) := rfl
theorem mt_9_i125 : mtab 9 125 = some (1, 5, 3) := rfl
theorem mt_9_i129 : mtab 9 129 = some (0, 90, 0) := rfl
theorem mt_9_i133 : mtab 9 133 = some (0, 54, 0) := rfl
theorem mt_9_i145 : mtab 9 145 = some (0, 35, 1) := rfl
theorem mt_9_i167 : mtab 9 167 = some (3, 1, 2) := rfl
theorem mt_9_i176 : mtab 9 176 = some (0, 37, 0) := rfl
theorem mt_9_i180 : mtab 9 180 = some (0, 12, 0) := rfl
theorem mt_9_i184 : mtab 9 184 = some (0, 17, 1) := rfl
theorem mt_9_i188 : mtab 9 188 = some (0, 38, 1) := rfl
theorem mt_9_i192 : mtab 9 192 = some (0, 36, 0) := rfl
theorem mt_9_i195 : mtab 9 195 = some (0, 39, 1) := rfl
theorem mt_9_i198 : mtab 9 198 = some (0, 40, 1) := rfl
theorem mt_9_i202 : mtab 9 202 = some (0, 41, 1) := rfl
theorem mt_9_i206 : mtab 9 206 = some (0, 42, 2) := rfl
theorem mt_9_i213 : mtab 9 213 = some (0, 43, 3) := rfl
theorem mt_9_i237 : mtab 9 237 = some (0, 45, 1) := rfl
theorem mt_9_i244 : mtab 9 244 = some (0, 44, 0) := rfl
theorem mt_9_i247 : mtab 9 247 = some (0, 46, 0) := rfl
theorem mt_9_i250 : mtab 9 250 = some (0, 47, 0) := rfl
theorem mt_9_i271 : mtab 9 271 = some (0, 93, 2) := rfl
theorem mt_9_i275 : mtab 9 275 = some (0, 94, 1) := rfl
theorem mt_9_i278 : mtab 9 278 = some (0, 95, 2) := rfl
theorem mt_9_i282 : mtab 9 282 = some (0, 91, 0) := rfl
theorem mt_9_i285 : mtab 9 285 = some (0, 92, 0) := rfl
theorem mt_9_i288 : mtab 9 288 = some (0, 96, 2) := rfl
theorem mt_9_i292 : mtab 9 292 = some (1, 97, 2) := rfl
theorem mt_9_i295 : mtab 9 295 = some (0, 98, 2) := rfl
theorem mt_9_i298 : mtab 9 298 = some (0, 55, 0) := rfl
theorem mt_9_i301 : mtab 9 301 = some (0, 89, 0) := rfl
theorem mt_9_i304 : mtab 9 304 = some (0, 99, 1) := rfl
theorem mt_9_i307 : mtab 9 307 = some (0, 100, 0) := rfl
theorem mt_9_i310 : mtab 9 310 = some (0, 101, 1) := rfl
theorem mt_9_i314 : mtab 9 314 = some (0, 56, 1) := rfl
theorem mt_9_i318 : mtab 9 318 = some (0, 102, 1) := rfl
theorem mt_9_i321 : mtab 9 321 = some (0, 103, 2) := rfl
theorem mt_9_i324 : mtab 9 324 = some (0, 110, 1) := rfl
theorem mt_9_i327 : mtab 9 327 = some (0, 116, 1) := rfl
theorem mt_9_i330 : mtab 9 330 = some (0, 117, 1) := rfl
theorem mt_9_i333 : mtab 9 333 = some (0, 121, 1) := rfl
theorem mt_9_i336 : mtab 9 336 = some (1, 149, 1) := rfl
theorem mt_9_i339 : mtab 9 339 = some (3, 0, 2) := rfl
theorem mt_9_i342 : mtab 9 342 = some (0, 150, 0) := rfl
theorem mt_9_i345 : mtab 9 345 = some (0, 133, 1) := rfl
theorem mt_9_i348 : mtab 9 348 = some (0, 196, 1) := rfl
theorem mt_9_i351 : mtab 9 351 = some (0, 197, 1) := rfl
theorem mt_9_i358 : mtab 9 358 = some (1, 198, 2) := rfl
theorem mt_9_i365 : mtab 9 365 = some (0, 199, 1) := rfl
theorem mt_9_i371 : mtab 9 371 = some (0, 195, 0) := rfl
theorem mt_9_i374 : mtab 9 374 = some (0, 200, 0) := rfl
theorem mt_9_i377 : mtab 9 377 = some (3, 3, 1) := rfl
theorem mt_9_i381 : mtab 9 381 = some (1, 208, 2) := rfl
theorem mt_9_i385 : mtab 9 385 = some (1, 209, 3) := rfl
theorem mt_9_i389 : mtab 9 389 = some (0, 181, 0) := rfl
theorem mt_9_i394 : mtab 9 394 = some (0, 64, 1) := rfl
theorem mt_9_i397 : mtab 9 397 = some (3, 2, 1) := rfl
theorem mt_9_i402 : mtab 9 402 = some (0, 65, 1) := rfl
theorem mt_9_i405 : mtab 9 405 = some (0, 230, 2) := rfl
theorem mt_9_i418 : mtab 9 418 = some (0, 228, 0) := rfl
theorem mt_9_i421 : mtab 9 421 = some (0, 229, 0) := rfl
theorem mt_9_i424 : mtab 9 424 = some (0, 231, 0) := rfl
theorem mt_9_i427 : mtab 9 427 = some (0, 232, 0) := rfl
theorem mt_9_i430 : mtab 9 430 = some (0, 249, 1) := rfl
theorem mt_9_i433 : mtab 9 433 = some (0, 250, 0) := rfl
theorem mt_9_i436 : mtab 9 436 = some (0, 263, 2) := rfl
theorem mt_9_i440 : mtab 9 440 = some (1, 262, 1) := rfl
theorem mt_9_i448 : mtab 9 448 = some (0, 264, 1) := rfl
theorem mt_9_i451 : mtab 9 451 = some (0, 265, 1) := rfl
theorem mt_9_i457 : mtab 9 457 = some (0, 273, 0) := rfl
theorem mt_9_i460 : mtab 9 460 = some (0, 186, 0) := rfl
theorem mt_9_i463 : mtab 9 463 = some (0, 278, 1) := rfl
theorem mt_9_i466 : mtab 9 466 = some (0, 187, 1) := rfl
theorem mt_9_i469 : mtab 9 469 = some (1, 281, 1) := rfl
theorem mt_9_i472 : mtab 9 472 = some (0, 285, 2) := rfl
theorem mt_9_i475 : mtab 9 475 = some (0, 286, 5) := rfl
theorem mt_9_i491 : mtab 9 491 = some (0, 294, 2) := rfl
theorem mt_9_i498 : mtab 9 498 = some (0, 295, 2) := rfl
theorem mt_9_i501 : mtab 9 501 = some (0, 302, 1) := rfl
theorem mt_9_i518 : mtab 9 518 = some (1, 314, 1) := rfl
theorem mt_9_i521 : mtab 9 521 = some (0, 315, 1) := rfl
theorem mt_9_i531 : mtab 9 531 = some (1, 334, 2) := rfl
theorem kt_9_123 : ktab 9 123 = some (.inr (.inl (2))) := rfl
theorem kt_9_155 : ktab 9 155 = some (.inr (.inl (97))) := rfl
theorem kt_9_157 : ktab 9 157 = some (.inr (.inl (122))) := rfl
theorem kt_9_159 : ktab 9 159 = some (.inr (.inl (48))) := rfl
theorem kt_9_161 : ktab 9 161 = some (.inr (.inl (57))) := rfl
theorem kt_9_166 : ktab 9 166 = some (.inl (99999)) := rfl
theorem kt_9_209 : ktab 9 209 = some (.inr (.inr (.inr 1))) := rfl
theorem kt_9_211 : ktab 9 211 = some (.inr (.inr (.inr 2))) := rfl
theorem kt_9_217 : ktab 9 217 = some (.inr (.inr (.inr 3))) := rfl
theorem kt_9_219 : ktab 9 219 = some (.inr (.inr (.inr 4))) := rfl
theorem kt_9_221 : ktab 9 221 = some (.inr (.inr (.inr 5))) := rfl
theorem kt_9_223 : ktab 9 223 = some (.inr (.inr (.inr 6))) := rfl
theorem kt_9_225 : ktab 9 225 = some (.inr (.inr (.inr 10))) := rfl
theorem kt_9_227 : ktab 9 227 = some (.inr (.inr (.inr 11))) := rfl
theorem kt_9_229 : ktab 9 229 = some (.inr (.inr (.inr 7))) := rfl
theorem kt_9_231 : ktab 9 231 = some (.inr (.inr (.inr 12))) := rfl
theorem kt_9_233 : ktab 9 233 = some (.inr (.inr (.inr 8))) := rfl
theorem kt_9_235 : ktab 9 235 = some (.inr (.inr (.inr 9))) := rfl
theorem kt_9_240 : ktab 9 240 = some (.inr (.inr (.inr 13))) := rfl
theorem kt_9_242 : ktab 9 242 = some (.inr (.inr (.inr 14))) := rfl
theorem kt_9_392 : ktab 9 392 = some (.inr (.inl (8))) := rfl
theorem kt_9_417 : ktab 9 417 = some (.inl (1000000000)) := rfl
theorem kt_9_443 : ktab 9 443 = some (.inr (.inl (99))) := rfl
theorem kt_9_489 : ktab 9 489 = some (.inr (.inl (7))) := rfl
theorem kt_9_494 : ktab 9 494 = some (.inr (.inl (9))) := rfl
theorem kt_9_496 : ktab 9 496 = some (.inr (.inl (-2))) := rfl
theorem kt_9_504 : ktab 9 504 = some (.inr (.inl (6))) := rfl
theorem kt_9_506 : ktab 9 506 = some (.inr (.inl (1103515245))) := rfl
theorem kt_9_508 : ktab 9 508 = some (.inr (.inl (12345))) := rfl
theorem kt_9_510 : ktab 9 510 = some (.inr (.inl (2147483648))) := rfl
theorem kt_9_512 : ktab 9 512 = some (.inr (.inl (65536))) := rfl
theorem kt_9_514 : ktab 9 514 = some (.inr (.inl (10))) := rfl
theorem kt_9_516 : ktab 9 516 = some (.inr (.inl (2000000000))) := rfl
theorem kt_9_525 : ktab 9 525 = some (.inr (.inl (20))) := rfl
theorem kt_9_527 : ktab 9 527 = some (.inr (.inl (30))) := rfl
theorem kt_9_529 : ktab 9 529 = some (.inr (.inl (3))) := rfl
theorem kt_10_265 : ktab 10 265 = some (.inl (1431655765)) := rfl
theorem kt_10_266 : ktab 10 266 = some (.inl (858993459)) := rfl
theorem kt_10_267 : ktab 10 267 = some (.inl (252645135)) := rfl
theorem kt_11_314 : ktab 11 314 = some (.inr (.inl (6148914691236517205))) := rfl
theorem kt_11_316 : ktab 11 316 = some (.inr (.inl (3689348814741910323))) := rfl
theorem kt_11_318 : ktab 11 318 = some (.inr (.inl (1085102592571150095))) := rfl
theorem mt_12_i335 : mtab 12 335 = some (0, 11, 0) := rfl
theorem mt_12_i492 : mtab 12 492 = some (0, 13, 0) := rfl
theorem mt_12_i495 : mtab 12 495 = some (1, 16, 2) := rfl
theorem mt_12_i1059 : mtab 12 1059 = some (1, 14, 3) := rfl
theorem mt_13_i9 : mtab 13 9 = some (1, 15, 2) := rfl
set_option maxRecDepth 100000 in
theorem pp_X7_hasRoom : PP[0]? = some d_X7_hasRoom := rfl
set_option maxRecDepth 100000 in
theorem pp_X7_putNumber : PP[1]? = some d_X7_putNumber := rfl
set_option maxRecDepth 100000 in
theorem pp_X8_feed : PP[2]? = some d_X8_feed := rfl
set_option maxRecDepth 100000 in
theorem pp_X9_feed : PP[3]? = some d_X9_feed := rfl
set_option maxRecDepth 100000 in
theorem pp_X8_end : PP[4]? = some d_X8_end := rfl
set_option maxRecDepth 100000 in
theorem pp_X9_in : PP[5]? = some d_X9_in := rfl
set_option maxRecDepth 100000 in
theorem pp_X9_end : PP[6]? = some d_X9_end := rfl
set_option maxRecDepth 100000 in
theorem pp_X1_clear : PP[7]? = some d_X1_clear := rfl
set_option maxRecDepth 100000 in
theorem pp_X7_byteAt : PP[8]? = some d_X7_byteAt := rfl
set_option maxRecDepth 100000 in
theorem pp_X4_kindOf : PP[9]? = some d_X4_kindOf := rfl
set_option maxRecDepth 100000 in
theorem pp_X4_nextToken : PP[10]? = some d_X4_nextToken := rfl
set_option maxRecDepth 100000 in
theorem pp_J0_coder_7d493 : PP[11]? = some d_J0_coder_7d493 := rfl
set_option maxRecDepth 100000 in
theorem pp_J0_length_8abf5 : PP[12]? = some d_J0_length_8abf5 := rfl
set_option maxRecDepth 100000 in
theorem pp_J0_isLatin1_aae02 : PP[13]? = some d_J0_isLatin1_aae02 := rfl
set_option maxRecDepth 100000 in
theorem pp_J3_checkIndex_8e157 : PP[14]? = some d_J3_checkIndex_8e157 := rfl
set_option maxRecDepth 100000 in
theorem pp_J0_checkIndex_df160 : PP[15]? = some d_J0_checkIndex_df160 := rfl
set_option maxRecDepth 100000 in
theorem pp_J1_charAt_3b067 : PP[16]? = some d_J1_charAt_3b067 := rfl
set_option maxRecDepth 100000 in
theorem pp_J0_charAt_5068e : PP[17]? = some d_J0_charAt_5068e := rfl
set_option maxRecDepth 100000 in
theorem pp_X4_isWord : PP[18]? = some d_X4_isWord := rfl
set_option maxRecDepth 100000 in
theorem pp_X4_refuse : PP[19]? = some d_X4_refuse := rfl
set_option maxRecDepth 100000 in
theorem pp_X4_takeWord : PP[20]? = some d_X4_takeWord := rfl
set_option maxRecDepth 100000 in
theorem pp_X4_takeNumber : PP[21]? = some d_X4_takeNumber := rfl
set_option maxRecDepth 100000 in
theorem pp_X4_readFirst : PP[22]? = some d_X4_readFirst := rfl
set_option maxRecDepth 100000 in
theorem pp_X1_addHand : PP[23]? = some d_X1_addHand := rfl
set_option maxRecDepth 100000 in
theorem pp_X4_readHand : PP[24]? = some d_X4_readHand := rfl
set_option maxRecDepth 100000 in
theorem pp_X1_addPair : PP[25]? = some d_X1_addPair := rfl
set_option maxRecDepth 100000 in
theorem pp_X4_readPair : PP[26]? = some d_X4_readPair := rfl
set_option maxRecDepth 100000 in
theorem pp_X4_readFire : PP[27]? = some d_X4_readFire := rfl
set_option maxRecDepth 100000 in
theorem pp_X4_takeSign : PP[28]? = some d_X4_takeSign := rfl
set_option maxRecDepth 100000 in
theorem pp_X4_readLine : PP[29]? = some d_X4_readLine := rfl
set_option maxRecDepth 100000 in
theorem pp_X4_readInto : PP[30]? = some d_X4_readInto := rfl
set_option maxRecDepth 100000 in
theorem pp_X1_copyFrom : PP[31]? = some d_X1_copyFrom := rfl
set_option maxRecDepth 100000 in
theorem pp_X8_forget : PP[32]? = some d_X8_forget := rfl
set_option maxRecDepth 100000 in
theorem pp_X8_forgetAll : PP[33]? = some d_X8_forgetAll := rfl
set_option maxRecDepth 100000 in
theorem pp_X8_brigade : PP[34]? = some d_X8_brigade := rfl
set_option maxRecDepth 100000 in
theorem pp_X9_see : PP[35]? = some d_X9_see := rfl
set_option maxRecDepth 100000 in
theorem pp_X9_advance : PP[36]? = some d_X9_advance := rfl
set_option maxRecDepth 100000 in
theorem pp_X9_good : PP[37]? = some d_X9_good := rfl
set_option maxRecDepth 100000 in
theorem pp_X9_is : PP[38]? = some d_X9_is := rfl
set_option maxRecDepth 100000 in
theorem pp_X9_takes : PP[39]? = some d_X9_takes := rfl
set_option maxRecDepth 100000 in
theorem pp_X9_errs : PP[40]? = some d_X9_errs := rfl
set_option maxRecDepth 100000 in
theorem pp_X9_needs : PP[41]? = some d_X9_needs := rfl
set_option maxRecDepth 100000 in
theorem pp_X9_number : PP[42]? = some d_X9_number := rfl
set_option maxRecDepth 100000 in
theorem pp_X9_told : PP[43]? = some d_X9_told := rfl
set_option maxRecDepth 100000 in
theorem pp_X9_readFirst : PP[44]? = some d_X9_readFirst := rfl
set_option maxRecDepth 100000 in
theorem pp_X9_readPair : PP[45]? = some d_X9_readPair := rfl
set_option maxRecDepth 100000 in
theorem pp_X9_readNext : PP[46]? = some d_X9_readNext := rfl
set_option maxRecDepth 100000 in
theorem pp_X9_readLine : PP[47]? = some d_X9_readLine := rfl
set_option maxRecDepth 100000 in
theorem pp_X9_brigade : PP[48]? = some d_X9_brigade := rfl
set_option maxRecDepth 100000 in
theorem pp_X8_fault : PP[49]? = some d_X8_fault := rfl
set_option maxRecDepth 100000 in
theorem pp_X9_fault : PP[50]? = some d_X9_fault := rfl
set_option maxRecDepth 100000 in
theorem pp_X1_hasHand : PP[51]? = some d_X1_hasHand := rfl
set_option maxRecDepth 100000 in
theorem pp_X8_isEither : PP[52]? = some d_X8_isEither := rfl
set_option maxRecDepth 100000 in
theorem pp_X8_hand : PP[53]? = some d_X8_hand := rfl
set_option maxRecDepth 100000 in
theorem pp_X9_hands : PP[54]? = some d_X9_hands := rfl
set_option maxRecDepth 100000 in
theorem pp_X9_asItIs : PP[55]? = some d_X9_asItIs := rfl
set_option maxRecDepth 100000 in
theorem pp_X9_isHand : PP[56]? = some d_X9_isHand := rfl
set_option maxRecDepth 100000 in
theorem pp_X9_hand : PP[57]? = some d_X9_hand := rfl
set_option maxRecDepth 100000 in
theorem pp_X1_hasPair : PP[58]? = some d_X1_hasPair := rfl
set_option maxRecDepth 100000 in
theorem pp_X8_pair : PP[59]? = some d_X8_pair := rfl
set_option maxRecDepth 100000 in
theorem pp_X9_pair : PP[60]? = some d_X9_pair := rfl
set_option maxRecDepth 100000 in
theorem pp_X1_keptAt : PP[61]? = some d_X1_keptAt := rfl
set_option maxRecDepth 100000 in
theorem pp_X1_keptAsTold : PP[62]? = some d_X1_keptAsTold := rfl
set_option maxRecDepth 100000 in
theorem pp_X8_keeps : PP[63]? = some d_X8_keeps := rfl
set_option maxRecDepth 100000 in
theorem pp_X9_placeIn : PP[64]? = some d_X9_placeIn := rfl
set_option maxRecDepth 100000 in
theorem pp_X9_keepsPair : PP[65]? = some d_X9_keepsPair := rfl
set_option maxRecDepth 100000 in
theorem pp_X9_keeps : PP[66]? = some d_X9_keeps := rfl
set_option maxRecDepth 100000 in
theorem pp_X1_hasSecond : PP[67]? = some d_X1_hasSecond := rfl
set_option maxRecDepth 100000 in
theorem pp_X2_clearFor : PP[68]? = some d_X2_clearFor := rfl
set_option maxRecDepth 100000 in
theorem pp_X2_join : PP[69]? = some d_X2_join := rfl
set_option maxRecDepth 100000 in
theorem pp_X8_lineAsNow : PP[70]? = some d_X8_lineAsNow := rfl
set_option maxRecDepth 100000 in
theorem pp_X2_loadAt : PP[71]? = some d_X2_loadAt := rfl
set_option maxRecDepth 100000 in
theorem pp_X2_poured : PP[72]? = some d_X2_poured := rfl
set_option maxRecDepth 100000 in
theorem pp_X2_begin : PP[73]? = some d_X2_begin := rfl
set_option maxRecDepth 100000 in
theorem pp_X2_readyBits : PP[74]? = some d_X2_readyBits := rfl
set_option maxRecDepth 100000 in
theorem pp_X8_hasBit : PP[75]? = some d_X8_hasBit := rfl
set_option maxRecDepth 100000 in
theorem pp_X2_nextIsFree : PP[76]? = some d_X2_nextIsFree := rfl
set_option maxRecDepth 100000 in
theorem pp_X2_passOn : PP[77]? = some d_X2_passOn := rfl
set_option maxRecDepth 100000 in
theorem pp_X2_isThrow : PP[78]? = some d_X2_isThrow := rfl
set_option maxRecDepth 100000 in
theorem pp_X2_step : PP[79]? = some d_X2_step := rfl
set_option maxRecDepth 100000 in
theorem pp_X2_busyBits : PP[80]? = some d_X2_busyBits := rfl
set_option maxRecDepth 100000 in
theorem pp_J6_bitCount_0f7a4 : PP[81]? = some d_J6_bitCount_0f7a4 := rfl
set_option maxRecDepth 100000 in
theorem pp_X6_noteLine : PP[82]? = some d_X6_noteLine := rfl
set_option maxRecDepth 100000 in
theorem pp_X6_lossOf : PP[83]? = some d_X6_lossOf := rfl
set_option maxRecDepth 100000 in
theorem pp_X8_burnsOn : PP[84]? = some d_X8_burnsOn := rfl
set_option maxRecDepth 100000 in
theorem pp_X6_noteSums : PP[85]? = some d_X6_noteSums := rfl
set_option maxRecDepth 100000 in
theorem pp_X6_tell : PP[86]? = some d_X6_tell := rfl
set_option maxRecDepth 100000 in
theorem pp_X8_told : PP[87]? = some d_X8_told := rfl
set_option maxRecDepth 100000 in
theorem pp_X8_holds : PP[88]? = some d_X8_holds := rfl
set_option maxRecDepth 100000 in
theorem pp_X9_isBrigade : PP[89]? = some d_X9_isBrigade := rfl
set_option maxRecDepth 100000 in
theorem pp_X9_last : PP[90]? = some d_X9_last := rfl
set_option maxRecDepth 100000 in
theorem pp_X9_startLine : PP[91]? = some d_X9_startLine := rfl
set_option maxRecDepth 100000 in
theorem pp_X9_readyNow : PP[92]? = some d_X9_readyNow := rfl
set_option maxRecDepth 100000 in
theorem pp_X9_doesRest : PP[93]? = some d_X9_doesRest := rfl
set_option maxRecDepth 100000 in
theorem pp_X9_spill : PP[94]? = some d_X9_spill := rfl
set_option maxRecDepth 100000 in
theorem pp_X9_goPlace : PP[95]? = some d_X9_goPlace := rfl
set_option maxRecDepth 100000 in
theorem pp_X9_goSecond : PP[96]? = some d_X9_goSecond := rfl
set_option maxRecDepth 100000 in
theorem pp_X9_bit : PP[97]? = some d_X9_bit := rfl
set_option maxRecDepth 100000 in
theorem pp_X9_passedIn : PP[98]? = some d_X9_passedIn := rfl
set_option maxRecDepth 100000 in
theorem pp_X9_goAll : PP[99]? = some d_X9_goAll := rfl
set_option maxRecDepth 100000 in
theorem pp_X9_asksBrigade : PP[100]? = some d_X9_asksBrigade := rfl
set_option maxRecDepth 100000 in
theorem pp_X9_isSecond : PP[101]? = some d_X9_isSecond := rfl
set_option maxRecDepth 100000 in
theorem pp_X9_asksSecond : PP[102]? = some d_X9_asksSecond := rfl
set_option maxRecDepth 100000 in
theorem pp_X9_heldOf : PP[103]? = some d_X9_heldOf := rfl
set_option maxRecDepth 100000 in
theorem pp_X9_holds : PP[104]? = some d_X9_holds := rfl
set_option maxRecDepth 100000 in
theorem pp_X6_heldAt : PP[105]? = some d_X6_heldAt := rfl
set_option maxRecDepth 100000 in
theorem pp_X8_held : PP[106]? = some d_X8_held := rfl
set_option maxRecDepth 100000 in
theorem pp_X9_held : PP[107]? = some d_X9_held := rfl
set_option maxRecDepth 100000 in
theorem pp_X8_atSecond : PP[108]? = some d_X8_atSecond := rfl
set_option maxRecDepth 100000 in
theorem pp_X8_busy : PP[109]? = some d_X8_busy := rfl
set_option maxRecDepth 100000 in
theorem pp_X9_busyOf : PP[110]? = some d_X9_busyOf := rfl
set_option maxRecDepth 100000 in
theorem pp_X9_busy : PP[111]? = some d_X9_busy := rfl
set_option maxRecDepth 100000 in
theorem pp_X8_waits : PP[112]? = some d_X8_waits := rfl
set_option maxRecDepth 100000 in
theorem pp_X9_waits : PP[113]? = some d_X9_waits := rfl
set_option maxRecDepth 100000 in
theorem pp_X8_secondsWith : PP[114]? = some d_X8_secondsWith := rfl
set_option maxRecDepth 100000 in
theorem pp_X8_stays : PP[115]? = some d_X8_stays := rfl
set_option maxRecDepth 100000 in
theorem pp_X9_asksHand : PP[116]? = some d_X9_asksHand := rfl
set_option maxRecDepth 100000 in
theorem pp_X9_staysOf : PP[117]? = some d_X9_staysOf := rfl
set_option maxRecDepth 100000 in
theorem pp_X9_stays : PP[118]? = some d_X9_stays := rfl
set_option maxRecDepth 100000 in
theorem pp_X8_secondsIdle : PP[119]? = some d_X8_secondsIdle := rfl
set_option maxRecDepth 100000 in
theorem pp_X8_idle : PP[120]? = some d_X8_idle := rfl
set_option maxRecDepth 100000 in
theorem pp_X9_idleOf : PP[121]? = some d_X9_idleOf := rfl
set_option maxRecDepth 100000 in
theorem pp_X9_idle : PP[122]? = some d_X9_idle := rfl
set_option maxRecDepth 100000 in
theorem pp_X8_river : PP[123]? = some d_X8_river := rfl
set_option maxRecDepth 100000 in
theorem pp_X9_river : PP[124]? = some d_X9_river := rfl
set_option maxRecDepth 100000 in
theorem pp_X8_thrown : PP[125]? = some d_X8_thrown := rfl
set_option maxRecDepth 100000 in
theorem pp_X9_thrown : PP[126]? = some d_X9_thrown := rfl
set_option maxRecDepth 100000 in
theorem pp_X6_waterTo : PP[127]? = some d_X6_waterTo := rfl
set_option maxRecDepth 100000 in
theorem pp_X8_water : PP[128]? = some d_X8_water := rfl
set_option maxRecDepth 100000 in
theorem pp_X9_water : PP[129]? = some d_X9_water := rfl
set_option maxRecDepth 100000 in
theorem pp_X8_spilt : PP[130]? = some d_X8_spilt := rfl
set_option maxRecDepth 100000 in
theorem pp_X9_spilt : PP[131]? = some d_X9_spilt := rfl
set_option maxRecDepth 100000 in
theorem pp_X8_fire : PP[132]? = some d_X8_fire := rfl
set_option maxRecDepth 100000 in
theorem pp_X9_goFire : PP[133]? = some d_X9_goFire := rfl
set_option maxRecDepth 100000 in
theorem pp_X9_fire : PP[134]? = some d_X9_fire := rfl
set_option maxRecDepth 100000 in
theorem pp_X1_stands : PP[135]? = some d_X1_stands := rfl
set_option maxRecDepth 100000 in
theorem pp_X8_outBy : PP[136]? = some d_X8_outBy := rfl
set_option maxRecDepth 100000 in
theorem pp_X8_out : PP[137]? = some d_X8_out := rfl
set_option maxRecDepth 100000 in
theorem pp_X9_out : PP[138]? = some d_X9_out := rfl
set_option maxRecDepth 100000 in
theorem pp_X8_worst : PP[139]? = some d_X8_worst := rfl
set_option maxRecDepth 100000 in
theorem pp_X9_worst : PP[140]? = some d_X9_worst := rfl
set_option maxRecDepth 100000 in
theorem pp_X8_when : PP[141]? = some d_X8_when := rfl
set_option maxRecDepth 100000 in
theorem pp_X9_when : PP[142]? = some d_X9_when := rfl
set_option maxRecDepth 100000 in
theorem pp_X8_gap : PP[143]? = some d_X8_gap := rfl
set_option maxRecDepth 100000 in
theorem pp_X9_gap : PP[144]? = some d_X9_gap := rfl
set_option maxRecDepth 100000 in
theorem pp_X8_ready : PP[145]? = some d_X8_ready := rfl
set_option maxRecDepth 100000 in
theorem pp_X9_ready : PP[146]? = some d_X9_ready := rfl
set_option maxRecDepth 100000 in
theorem pp_X8_mostBusy : PP[147]? = some d_X8_mostBusy := rfl
set_option maxRecDepth 100000 in
theorem pp_X8_crowded : PP[148]? = some d_X8_crowded := rfl
set_option maxRecDepth 100000 in
theorem pp_X9_bits : PP[149]? = some d_X9_bits := rfl
set_option maxRecDepth 100000 in
theorem pp_X9_fullOf : PP[150]? = some d_X9_fullOf := rfl
set_option maxRecDepth 100000 in
theorem pp_X9_crowded : PP[151]? = some d_X9_crowded := rfl
set_option maxRecDepth 100000 in
theorem pp_X8_road : PP[152]? = some d_X8_road := rfl
set_option maxRecDepth 100000 in
theorem pp_X9_road : PP[153]? = some d_X9_road := rfl
set_option maxRecDepth 100000 in
theorem pp_X8_left : PP[154]? = some d_X8_left := rfl
set_option maxRecDepth 100000 in
theorem pp_X9_left : PP[155]? = some d_X9_left := rfl
set_option maxRecDepth 100000 in
theorem pp_X8_full : PP[156]? = some d_X8_full := rfl
set_option maxRecDepth 100000 in
theorem pp_X9_full : PP[157]? = some d_X9_full := rfl
set_option maxRecDepth 100000 in
theorem pp_X8_starts : PP[158]? = some d_X8_starts := rfl
set_option maxRecDepth 100000 in
theorem pp_X9_starts : PP[159]? = some d_X9_starts := rfl
set_option maxRecDepth 100000 in
theorem pp_X8_passes : PP[160]? = some d_X8_passes := rfl
set_option maxRecDepth 100000 in
theorem pp_X9_passes : PP[161]? = some d_X9_passes := rfl
set_option maxRecDepth 100000 in
theorem pp_X8_loses : PP[162]? = some d_X8_loses := rfl
set_option maxRecDepth 100000 in
theorem pp_X9_loses : PP[163]? = some d_X9_loses := rfl
set_option maxRecDepth 100000 in
theorem pp_X8_lazy : PP[164]? = some d_X8_lazy := rfl
set_option maxRecDepth 100000 in
theorem pp_X9_lazy : PP[165]? = some d_X9_lazy := rfl
set_option maxRecDepth 100000 in
theorem pp_X8_queue : PP[166]? = some d_X8_queue := rfl
set_option maxRecDepth 100000 in
theorem pp_X9_queue : PP[167]? = some d_X9_queue := rfl
set_option maxRecDepth 100000 in
theorem pp_X8_kept : PP[168]? = some d_X8_kept := rfl
set_option maxRecDepth 100000 in
theorem pp_X9_kept : PP[169]? = some d_X9_kept := rfl
set_option maxRecDepth 100000 in
theorem pp_X8_until : PP[170]? = some d_X8_until := rfl
set_option maxRecDepth 100000 in
theorem pp_X9_until : PP[171]? = some d_X9_until := rfl
set_option maxRecDepth 100000 in
theorem pp_X2_play : PP[172]? = some d_X2_play := rfl
set_option maxRecDepth 100000 in
theorem pp_X8_playLine : PP[173]? = some d_X8_playLine := rfl
set_option maxRecDepth 100000 in
theorem pp_X8_with : PP[174]? = some d_X8_with := rfl
set_option maxRecDepth 100000 in
theorem pp_X9_with : PP[175]? = some d_X9_with := rfl
set_option maxRecDepth 100000 in
theorem pp_J13_bitCount_95d88 : PP[176]? = some d_J13_bitCount_95d88 := rfl
set_option maxRecDepth 100000 in
theorem pp_X8_waterNow : PP[177]? = some d_X8_waterNow := rfl
set_option maxRecDepth 100000 in
theorem pp_X8_waterOfLine : PP[178]? = some d_X8_waterOfLine := rfl
set_option maxRecDepth 100000 in
theorem pp_X8_waterByPace : PP[179]? = some d_X8_waterByPace := rfl
set_option maxRecDepth 100000 in
theorem pp_X8_ease : PP[180]? = some d_X8_ease := rfl
set_option maxRecDepth 100000 in
theorem pp_X9_waterNow : PP[181]? = some d_X9_waterNow := rfl
set_option maxRecDepth 100000 in
theorem pp_X9_ease : PP[182]? = some d_X9_ease := rfl
set_option maxRecDepth 100000 in
theorem pp_X1_allHands : PP[183]? = some d_X1_allHands := rfl
set_option maxRecDepth 100000 in
theorem pp_X8_waterOfSet : PP[184]? = some d_X8_waterOfSet := rfl
set_option maxRecDepth 100000 in
theorem pp_X8_without : PP[185]? = some d_X8_without := rfl
set_option maxRecDepth 100000 in
theorem pp_X9_allHands : PP[186]? = some d_X9_allHands := rfl
set_option maxRecDepth 100000 in
theorem pp_X9_bringsOf : PP[187]? = some d_X9_bringsOf := rfl
set_option maxRecDepth 100000 in
theorem pp_X9_without : PP[188]? = some d_X9_without := rfl
set_option maxRecDepth 100000 in
theorem pp_X2_wakeAll : PP[189]? = some d_X2_wakeAll := rfl
set_option maxRecDepth 100000 in
theorem pp_X0_stateOf : PP[190]? = some d_X0_stateOf := rfl
set_option maxRecDepth 100000 in
theorem pp_X0_earlierOf : PP[191]? = some d_X0_earlierOf := rfl
set_option maxRecDepth 100000 in
theorem pp_X0_goRound : PP[192]? = some d_X0_goRound := rfl
set_option maxRecDepth 100000 in
theorem pp_X8_roundRefusal : PP[193]? = some d_X8_roundRefusal := rfl
set_option maxRecDepth 100000 in
theorem pp_X8_settles : PP[194]? = some d_X8_settles := rfl
set_option maxRecDepth 100000 in
theorem pp_X9_hasRound : PP[195]? = some d_X9_hasRound := rfl
set_option maxRecDepth 100000 in
theorem pp_X9_goTo : PP[196]? = some d_X9_goTo := rfl
set_option maxRecDepth 100000 in
theorem pp_X9_keepState : PP[197]? = some d_X9_keepState := rfl
set_option maxRecDepth 100000 in
theorem pp_X9_isAlike : PP[198]? = some d_X9_isAlike := rfl
set_option maxRecDepth 100000 in
theorem pp_X9_setState : PP[199]? = some d_X9_setState := rfl
set_option maxRecDepth 100000 in
theorem pp_X9_layRound : PP[200]? = some d_X9_layRound := rfl
set_option maxRecDepth 100000 in
theorem pp_X9_settles : PP[201]? = some d_X9_settles := rfl
set_option maxRecDepth 100000 in
theorem pp_X0_length : PP[202]? = some d_X0_length := rfl
set_option maxRecDepth 100000 in
theorem pp_X8_round : PP[203]? = some d_X8_round := rfl
set_option maxRecDepth 100000 in
theorem pp_X9_round : PP[204]? = some d_X9_round := rfl
set_option maxRecDepth 100000 in
theorem pp_X0_throwsInIt : PP[205]? = some d_X0_throwsInIt := rfl
set_option maxRecDepth 100000 in
theorem pp_X8_part : PP[206]? = some d_X8_part := rfl
set_option maxRecDepth 100000 in
theorem pp_X8_rate : PP[207]? = some d_X8_rate := rfl
set_option maxRecDepth 100000 in
theorem pp_X9_divisor : PP[208]? = some d_X9_divisor := rfl
set_option maxRecDepth 100000 in
theorem pp_X9_part : PP[209]? = some d_X9_part := rfl
set_option maxRecDepth 100000 in
theorem pp_X9_rate : PP[210]? = some d_X9_rate := rfl
set_option maxRecDepth 100000 in
theorem pp_X8_slow : PP[211]? = some d_X8_slow := rfl
set_option maxRecDepth 100000 in
theorem pp_X9_slow : PP[212]? = some d_X9_slow := rfl
set_option maxRecDepth 100000 in
theorem pp_X8_waterByBuckets : PP[213]? = some d_X8_waterByBuckets := rfl
set_option maxRecDepth 100000 in
theorem pp_X8_enough : PP[214]? = some d_X8_enough := rfl
set_option maxRecDepth 100000 in
theorem pp_X9_enough : PP[215]? = some d_X9_enough := rfl
set_option maxRecDepth 100000 in
theorem pp_X8_size : PP[216]? = some d_X8_size := rfl
set_option maxRecDepth 100000 in
theorem pp_X9_size : PP[217]? = some d_X9_size := rfl
set_option maxRecDepth 100000 in
theorem pp_X8_heat : PP[218]? = some d_X8_heat := rfl
set_option maxRecDepth 100000 in
theorem pp_X9_heat : PP[219]? = some d_X9_heat := rfl
set_option maxRecDepth 100000 in
theorem pp_X3_brokenPairs : PP[220]? = some d_X3_brokenPairs := rfl
set_option maxRecDepth 100000 in
theorem pp_X3_fewer : PP[221]? = some d_X3_fewer := rfl
set_option maxRecDepth 100000 in
theorem pp_X3_addOrder : PP[222]? = some d_X3_addOrder := rfl
set_option maxRecDepth 100000 in
theorem pp_X3_exchange : PP[223]? = some d_X3_exchange := rfl
set_option maxRecDepth 100000 in
theorem pp_X3_goToNextRow : PP[224]? = some d_X3_goToNextRow := rfl
set_option maxRecDepth 100000 in
theorem pp_X3_list : PP[225]? = some d_X3_list := rfl
set_option maxRecDepth 100000 in
theorem pp_X8_listed : PP[226]? = some d_X8_listed := rfl
set_option maxRecDepth 100000 in
theorem pp_X8_orders : PP[227]? = some d_X8_orders := rfl
set_option maxRecDepth 100000 in
theorem pp_X9_keepsAll : PP[228]? = some d_X9_keepsAll := rfl
set_option maxRecDepth 100000 in
theorem pp_X9_keepOrder : PP[229]? = some d_X9_keepOrder := rfl
set_option maxRecDepth 100000 in
theorem pp_X9_change : PP[230]? = some d_X9_change := rfl
set_option maxRecDepth 100000 in
theorem pp_X9_nextLine : PP[231]? = some d_X9_nextLine := rfl
set_option maxRecDepth 100000 in
theorem pp_X9_asksOrders : PP[232]? = some d_X9_asksOrders := rfl
set_option maxRecDepth 100000 in
theorem pp_X9_orders : PP[233]? = some d_X9_orders := rfl
set_option maxRecDepth 100000 in
theorem pp_X3_handAt : PP[234]? = some d_X3_handAt := rfl
set_option maxRecDepth 100000 in
theorem pp_X3_playAll : PP[235]? = some d_X3_playAll := rfl
set_option maxRecDepth 100000 in
theorem pp_X8_played : PP[236]? = some d_X8_played := rfl
set_option maxRecDepth 100000 in
theorem pp_X3_throwsOf : PP[237]? = some d_X3_throwsOf := rfl
set_option maxRecDepth 100000 in
theorem pp_X3_bestOrder : PP[238]? = some d_X3_bestOrder := rfl
set_option maxRecDepth 100000 in
theorem pp_X8_best : PP[239]? = some d_X8_best := rfl
set_option maxRecDepth 100000 in
theorem pp_X9_best : PP[240]? = some d_X9_best := rfl
set_option maxRecDepth 100000 in
theorem pp_X8_place : PP[241]? = some d_X8_place := rfl
set_option maxRecDepth 100000 in
theorem pp_X9_place : PP[242]? = some d_X9_place := rfl
set_option maxRecDepth 100000 in
theorem pp_X8_soonest : PP[243]? = some d_X8_soonest := rfl
set_option maxRecDepth 100000 in
theorem pp_X9_soonest : PP[244]? = some d_X9_soonest := rfl
set_option maxRecDepth 100000 in
theorem pp_X2_swap : PP[245]? = some d_X2_swap := rfl
set_option maxRecDepth 100000 in
theorem pp_X8_change : PP[246]? = some d_X8_change := rfl
set_option maxRecDepth 100000 in
theorem pp_X9_change_ : PP[247]? = some d_X9_change_ := rfl
set_option maxRecDepth 100000 in
theorem pp_X8_lets : PP[248]? = some d_X8_lets := rfl
set_option maxRecDepth 100000 in
theorem pp_X9_hasOrder : PP[249]? = some d_X9_hasOrder := rfl
set_option maxRecDepth 100000 in
theorem pp_X9_letOf : PP[250]? = some d_X9_letOf := rfl
set_option maxRecDepth 100000 in
theorem pp_X9_lets : PP[251]? = some d_X9_lets := rfl
set_option maxRecDepth 100000 in
theorem pp_X8_let : PP[252]? = some d_X8_let := rfl
set_option maxRecDepth 100000 in
theorem pp_X9_let : PP[253]? = some d_X9_let := rfl
set_option maxRecDepth 100000 in
theorem pp_X5_isSlot : PP[254]? = some d_X5_isSlot := rfl
set_option maxRecDepth 100000 in
theorem pp_X5_hasRow : PP[255]? = some d_X5_hasRow := rfl
set_option maxRecDepth 100000 in
theorem pp_X5_cellOf : PP[256]? = some d_X5_cellOf := rfl
set_option maxRecDepth 100000 in
theorem pp_X8_seenRefusal : PP[257]? = some d_X8_seenRefusal := rfl
set_option maxRecDepth 100000 in
theorem pp_X3_thrownTo : PP[258]? = some d_X3_thrownTo := rfl
set_option maxRecDepth 100000 in
theorem pp_X3_isSeen : PP[259]? = some d_X3_isSeen := rfl
set_option maxRecDepth 100000 in
theorem pp_X3_choose : PP[260]? = some d_X3_choose := rfl
set_option maxRecDepth 100000 in
theorem pp_X8_fits : PP[261]? = some d_X8_fits := rfl
set_option maxRecDepth 100000 in
theorem pp_X9_isSlot : PP[262]? = some d_X9_isSlot := rfl
set_option maxRecDepth 100000 in
theorem pp_X9_numberAt : PP[263]? = some d_X9_numberAt := rfl
set_option maxRecDepth 100000 in
theorem pp_X9_isSeen : PP[264]? = some d_X9_isSeen := rfl
set_option maxRecDepth 100000 in
theorem pp_X9_layFits : PP[265]? = some d_X9_layFits := rfl
set_option maxRecDepth 100000 in
theorem pp_X9_fits : PP[266]? = some d_X9_fits := rfl
set_option maxRecDepth 100000 in
theorem pp_X3_placesOf : PP[267]? = some d_X3_placesOf := rfl
set_option maxRecDepth 100000 in
theorem pp_X8_may : PP[268]? = some d_X8_may := rfl
set_option maxRecDepth 100000 in
theorem pp_X9_may : PP[269]? = some d_X9_may := rfl
set_option maxRecDepth 100000 in
theorem pp_X3_worstBy : PP[270]? = some d_X3_worstBy := rfl
set_option maxRecDepth 100000 in
theorem pp_X3_secondToAsk : PP[271]? = some d_X3_secondToAsk := rfl
set_option maxRecDepth 100000 in
theorem pp_X8_ask : PP[272]? = some d_X8_ask := rfl
set_option maxRecDepth 100000 in
theorem pp_X9_askOf : PP[273]? = some d_X9_askOf := rfl
set_option maxRecDepth 100000 in
theorem pp_X9_ask : PP[274]? = some d_X9_ask := rfl
set_option maxRecDepth 100000 in
theorem pp_X8_leaves : PP[275]? = some d_X8_leaves := rfl
set_option maxRecDepth 100000 in
theorem pp_X9_leaves : PP[276]? = some d_X9_leaves := rfl
set_option maxRecDepth 100000 in
theorem pp_X8_brings : PP[277]? = some d_X8_brings := rfl
set_option maxRecDepth 100000 in
theorem pp_X9_isSet : PP[278]? = some d_X9_isSet := rfl
set_option maxRecDepth 100000 in
theorem pp_X9_brings : PP[279]? = some d_X9_brings := rfl
set_option maxRecDepth 100000 in
theorem pp_X8_share : PP[280]? = some d_X8_share := rfl
set_option maxRecDepth 100000 in
theorem pp_X9_factorial : PP[281]? = some d_X9_factorial := rfl
set_option maxRecDepth 100000 in
theorem pp_X9_share : PP[282]? = some d_X9_share := rfl
set_option maxRecDepth 100000 in
theorem pp_X8_getsBy : PP[283]? = some d_X8_getsBy := rfl
set_option maxRecDepth 100000 in
theorem pp_X8_rests : PP[284]? = some d_X8_rests := rfl
set_option maxRecDepth 100000 in
theorem pp_X9_areTwo : PP[285]? = some d_X9_areTwo := rfl
set_option maxRecDepth 100000 in
theorem pp_X9_getsBy : PP[286]? = some d_X9_getsBy := rfl
set_option maxRecDepth 100000 in
theorem pp_X9_rests : PP[287]? = some d_X9_rests := rfl
set_option maxRecDepth 100000 in
theorem pp_X8_gets : PP[288]? = some d_X8_gets := rfl
set_option maxRecDepth 100000 in
theorem pp_X9_gets : PP[289]? = some d_X9_gets := rfl
set_option maxRecDepth 100000 in
theorem pp_X8_isSlipSecond : PP[290]? = some d_X8_isSlipSecond := rfl
set_option maxRecDepth 100000 in
theorem pp_X8_power : PP[291]? = some d_X8_power := rfl
set_option maxRecDepth 100000 in
theorem pp_X8_weight : PP[292]? = some d_X8_weight := rfl
set_option maxRecDepth 100000 in
theorem pp_X8_chance : PP[293]? = some d_X8_chance := rfl
set_option maxRecDepth 100000 in
theorem pp_X9_isSlips : PP[294]? = some d_X9_isSlips := rfl
set_option maxRecDepth 100000 in
theorem pp_X9_laySlips : PP[295]? = some d_X9_laySlips := rfl
set_option maxRecDepth 100000 in
theorem pp_X9_chance : PP[296]? = some d_X9_chance := rfl
set_option maxRecDepth 100000 in
theorem pp_X8_mean : PP[297]? = some d_X8_mean := rfl
set_option maxRecDepth 100000 in
theorem pp_X9_mean : PP[298]? = some d_X9_mean := rfl
set_option maxRecDepth 100000 in
theorem pp_X1_carryOut : PP[299]? = some d_X1_carryOut := rfl
set_option maxRecDepth 100000 in
theorem pp_X1_addAct : PP[300]? = some d_X1_addAct := rfl
set_option maxRecDepth 100000 in
theorem pp_X8_rest : PP[301]? = some d_X8_rest := rfl
set_option maxRecDepth 100000 in
theorem pp_X9_keepAct : PP[302]? = some d_X9_keepAct := rfl
set_option maxRecDepth 100000 in
theorem pp_X9_rest : PP[303]? = some d_X9_rest := rfl
set_option maxRecDepth 100000 in
theorem pp_X8_paces : PP[304]? = some d_X8_paces := rfl
set_option maxRecDepth 100000 in
theorem pp_X9_paces : PP[305]? = some d_X9_paces := rfl
set_option maxRecDepth 100000 in
theorem pp_X1_keepActs : PP[306]? = some d_X1_keepActs := rfl
set_option maxRecDepth 100000 in
theorem pp_X8_undo : PP[307]? = some d_X8_undo := rfl
set_option maxRecDepth 100000 in
theorem pp_X9_undo : PP[308]? = some d_X9_undo := rfl
set_option maxRecDepth 100000 in
theorem pp_X8_anew : PP[309]? = some d_X8_anew := rfl
set_option maxRecDepth 100000 in
theorem pp_X9_anew : PP[310]? = some d_X9_anew := rfl
set_option maxRecDepth 100000 in
theorem pp_X8_isSeed : PP[311]? = some d_X8_isSeed := rfl
set_option maxRecDepth 100000 in
theorem pp_X8_slipsFrom : PP[312]? = some d_X8_slipsFrom := rfl
set_option maxRecDepth 100000 in
theorem pp_X8_drawn : PP[313]? = some d_X8_drawn := rfl
set_option maxRecDepth 100000 in
theorem pp_X9_isSeed : PP[314]? = some d_X9_isSeed := rfl
set_option maxRecDepth 100000 in
theorem pp_X9_goDrawn : PP[315]? = some d_X9_goDrawn := rfl
set_option maxRecDepth 100000 in
theorem pp_X9_drawn : PP[316]? = some d_X9_drawn := rfl
set_option maxRecDepth 100000 in
theorem pp_X8_luck : PP[317]? = some d_X8_luck := rfl
set_option maxRecDepth 100000 in
theorem pp_X9_luck : PP[318]? = some d_X9_luck := rfl
set_option maxRecDepth 100000 in
theorem pp_X8_fills : PP[319]? = some d_X8_fills := rfl
set_option maxRecDepth 100000 in
theorem pp_X9_fills : PP[320]? = some d_X9_fills := rfl
set_option maxRecDepth 100000 in
theorem pp_X5_rowsThere : PP[321]? = some d_X5_rowsThere := rfl
set_option maxRecDepth 100000 in
theorem pp_X8_count : PP[322]? = some d_X8_count := rfl
set_option maxRecDepth 100000 in
theorem pp_X9_count : PP[323]? = some d_X9_count := rfl
set_option maxRecDepth 100000 in
theorem pp_X8_image : PP[324]? = some d_X8_image := rfl
set_option maxRecDepth 100000 in
theorem pp_X9_image : PP[325]? = some d_X9_image := rfl
set_option maxRecDepth 100000 in
theorem pp_X8_back : PP[326]? = some d_X8_back := rfl
set_option maxRecDepth 100000 in
theorem pp_X9_back : PP[327]? = some d_X9_back := rfl
set_option maxRecDepth 100000 in
theorem pp_X5_makeRow : PP[328]? = some d_X5_makeRow := rfl
set_option maxRecDepth 100000 in
theorem pp_X8_row : PP[329]? = some d_X8_row := rfl
set_option maxRecDepth 100000 in
theorem pp_X9_row : PP[330]? = some d_X9_row := rfl
set_option maxRecDepth 100000 in
theorem pp_X5_cutTo : PP[331]? = some d_X5_cutTo := rfl
set_option maxRecDepth 100000 in
theorem pp_X5_setCell : PP[332]? = some d_X5_setCell := rfl
set_option maxRecDepth 100000 in
theorem pp_X8_write : PP[333]? = some d_X8_write := rfl
set_option maxRecDepth 100000 in
theorem pp_X9_cut : PP[334]? = some d_X9_cut := rfl
set_option maxRecDepth 100000 in
theorem pp_X9_write : PP[335]? = some d_X9_write := rfl
set_option maxRecDepth 100000 in
theorem pp_X5_hasCells : PP[336]? = some d_X5_hasCells := rfl
set_option maxRecDepth 100000 in
theorem pp_X5_copyCells : PP[337]? = some d_X5_copyCells := rfl
set_option maxRecDepth 100000 in
theorem pp_X8_paste : PP[338]? = some d_X8_paste := rfl
set_option maxRecDepth 100000 in
theorem pp_X9_paste : PP[339]? = some d_X9_paste := rfl
