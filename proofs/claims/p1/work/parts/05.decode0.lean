theorem dX1_clear_0 : decode cX1_clear 0 = .ok (.iconst 0, 1) := by decide +kernel
theorem dX1_clear_1 : decode cX1_clear 1 = .ok (.istore_n 1, 1) := by decide +kernel
theorem dX1_clear_2 : decode cX1_clear 2 = .ok (.iload_n 1, 1) := by decide +kernel
theorem dX1_clear_3 : decode cX1_clear 3 = .ok (.bipush 11, 2) := by decide +kernel
theorem dX1_clear_5 : decode cX1_clear 5 = .ok (.if_icmp .ge 16, 3) := by decide +kernel
theorem dX1_clear_8 : decode cX1_clear 8 = .ok (.aload_n 0, 1) := by decide +kernel
theorem dX1_clear_9 : decode cX1_clear 9 = .ok (.getfield 9, 3) := by decide +kernel
theorem dX1_clear_12 : decode cX1_clear 12 = .ok (.iload_n 1, 1) := by decide +kernel
theorem dX1_clear_13 : decode cX1_clear 13 = .ok (.iconst 0, 1) := by decide +kernel
theorem dX1_clear_14 : decode cX1_clear 14 = .ok (.iastore, 1) := by decide +kernel
theorem dX1_clear_15 : decode cX1_clear 15 = .ok (.iinc 1 1, 3) := by decide +kernel
theorem dX1_clear_18 : decode cX1_clear 18 = .ok (.goto (-16), 3) := by decide +kernel
theorem dX1_clear_21 : decode cX1_clear 21 = .ok (.return_, 1) := by decide +kernel
theorem dX1_copyFrom_0 : decode cX1_copyFrom 0 = .ok (.aload_n 1, 1) := by decide +kernel
theorem dX1_copyFrom_1 : decode cX1_copyFrom 1 = .ok (.getfield 9, 3) := by decide +kernel
theorem dX1_copyFrom_4 : decode cX1_copyFrom 4 = .ok (.iconst 0, 1) := by decide +kernel
theorem dX1_copyFrom_5 : decode cX1_copyFrom 5 = .ok (.aload_n 0, 1) := by decide +kernel
theorem dX1_copyFrom_6 : decode cX1_copyFrom 6 = .ok (.getfield 9, 3) := by decide +kernel
theorem dX1_copyFrom_9 : decode cX1_copyFrom 9 = .ok (.iconst 0, 1) := by decide +kernel
theorem dX1_copyFrom_10 : decode cX1_copyFrom 10 = .ok (.bipush 11, 2) := by decide +kernel
theorem dX1_copyFrom_12 : decode cX1_copyFrom 12 = .ok (.invokestatic 46, 3) := by decide +kernel
theorem dX1_copyFrom_15 : decode cX1_copyFrom 15 = .ok (.aload_n 1, 1) := by decide +kernel
theorem dX1_copyFrom_16 : decode cX1_copyFrom 16 = .ok (.getfield 15, 3) := by decide +kernel
theorem dX1_copyFrom_19 : decode cX1_copyFrom 19 = .ok (.iconst 0, 1) := by decide +kernel
theorem dX1_copyFrom_20 : decode cX1_copyFrom 20 = .ok (.aload_n 0, 1) := by decide +kernel
theorem dX1_copyFrom_21 : decode cX1_copyFrom 21 = .ok (.getfield 15, 3) := by decide +kernel
theorem dX1_copyFrom_24 : decode cX1_copyFrom 24 = .ok (.iconst 0, 1) := by decide +kernel
theorem dX1_copyFrom_25 : decode cX1_copyFrom 25 = .ok (.bipush 6, 2) := by decide +kernel
theorem dX1_copyFrom_27 : decode cX1_copyFrom 27 = .ok (.invokestatic 46, 3) := by decide +kernel
theorem dX1_copyFrom_30 : decode cX1_copyFrom 30 = .ok (.aload_n 1, 1) := by decide +kernel
theorem dX1_copyFrom_31 : decode cX1_copyFrom 31 = .ok (.getfield 18, 3) := by decide +kernel
theorem dX1_copyFrom_34 : decode cX1_copyFrom 34 = .ok (.iconst 0, 1) := by decide +kernel
theorem dX1_copyFrom_35 : decode cX1_copyFrom 35 = .ok (.aload_n 0, 1) := by decide +kernel
theorem dX1_copyFrom_36 : decode cX1_copyFrom 36 = .ok (.getfield 18, 3) := by decide +kernel
theorem dX1_copyFrom_39 : decode cX1_copyFrom 39 = .ok (.iconst 0, 1) := by decide +kernel
theorem dX1_copyFrom_40 : decode cX1_copyFrom 40 = .ok (.bipush 6, 2) := by decide +kernel
theorem dX1_copyFrom_42 : decode cX1_copyFrom 42 = .ok (.invokestatic 46, 3) := by decide +kernel
theorem dX1_copyFrom_45 : decode cX1_copyFrom 45 = .ok (.aload_n 1, 1) := by decide +kernel
theorem dX1_copyFrom_46 : decode cX1_copyFrom 46 = .ok (.getfield 21, 3) := by decide +kernel
theorem dX1_copyFrom_49 : decode cX1_copyFrom 49 = .ok (.iconst 0, 1) := by decide +kernel
theorem dX1_copyFrom_50 : decode cX1_copyFrom 50 = .ok (.aload_n 0, 1) := by decide +kernel
theorem dX1_copyFrom_51 : decode cX1_copyFrom 51 = .ok (.getfield 21, 3) := by decide +kernel
theorem dX1_copyFrom_54 : decode cX1_copyFrom 54 = .ok (.iconst 0, 1) := by decide +kernel
theorem dX1_copyFrom_55 : decode cX1_copyFrom 55 = .ok (.bipush 6, 2) := by decide +kernel
theorem dX1_copyFrom_57 : decode cX1_copyFrom 57 = .ok (.invokestatic 46, 3) := by decide +kernel
theorem dX1_copyFrom_60 : decode cX1_copyFrom 60 = .ok (.aload_n 1, 1) := by decide +kernel
theorem dX1_copyFrom_61 : decode cX1_copyFrom 61 = .ok (.getfield 24, 3) := by decide +kernel
theorem dX1_copyFrom_64 : decode cX1_copyFrom 64 = .ok (.iconst 0, 1) := by decide +kernel
theorem dX1_copyFrom_65 : decode cX1_copyFrom 65 = .ok (.aload_n 0, 1) := by decide +kernel
theorem dX1_copyFrom_66 : decode cX1_copyFrom 66 = .ok (.getfield 24, 3) := by decide +kernel
theorem dX1_copyFrom_69 : decode cX1_copyFrom 69 = .ok (.iconst 0, 1) := by decide +kernel
theorem dX1_copyFrom_70 : decode cX1_copyFrom 70 = .ok (.bipush 6, 2) := by decide +kernel
theorem dX1_copyFrom_72 : decode cX1_copyFrom 72 = .ok (.invokestatic 46, 3) := by decide +kernel
theorem dX1_copyFrom_75 : decode cX1_copyFrom 75 = .ok (.aload_n 1, 1) := by decide +kernel
theorem dX1_copyFrom_76 : decode cX1_copyFrom 76 = .ok (.getfield 28, 3) := by decide +kernel
theorem dX1_copyFrom_79 : decode cX1_copyFrom 79 = .ok (.iconst 0, 1) := by decide +kernel
theorem dX1_copyFrom_80 : decode cX1_copyFrom 80 = .ok (.aload_n 0, 1) := by decide +kernel
theorem dX1_copyFrom_81 : decode cX1_copyFrom 81 = .ok (.getfield 28, 3) := by decide +kernel
theorem dX1_copyFrom_84 : decode cX1_copyFrom 84 = .ok (.iconst 0, 1) := by decide +kernel
theorem dX1_copyFrom_85 : decode cX1_copyFrom 85 = .ok (.iconst 5, 1) := by decide +kernel
theorem dX1_copyFrom_86 : decode cX1_copyFrom 86 = .ok (.invokestatic 46, 3) := by decide +kernel
theorem dX1_copyFrom_89 : decode cX1_copyFrom 89 = .ok (.aload_n 1, 1) := by decide +kernel
theorem dX1_copyFrom_90 : decode cX1_copyFrom 90 = .ok (.getfield 31, 3) := by decide +kernel
theorem dX1_copyFrom_93 : decode cX1_copyFrom 93 = .ok (.iconst 0, 1) := by decide +kernel
theorem dX1_copyFrom_94 : decode cX1_copyFrom 94 = .ok (.aload_n 0, 1) := by decide +kernel
theorem dX1_copyFrom_95 : decode cX1_copyFrom 95 = .ok (.getfield 31, 3) := by decide +kernel
theorem dX1_copyFrom_98 : decode cX1_copyFrom 98 = .ok (.iconst 0, 1) := by decide +kernel
theorem dX1_copyFrom_99 : decode cX1_copyFrom 99 = .ok (.iconst 5, 1) := by decide +kernel
theorem dX1_copyFrom_100 : decode cX1_copyFrom 100 = .ok (.invokestatic 46, 3) := by decide +kernel
theorem dX1_copyFrom_103 : decode cX1_copyFrom 103 = .ok (.aload_n 1, 1) := by decide +kernel
theorem dX1_copyFrom_104 : decode cX1_copyFrom 104 = .ok (.getfield 34, 3) := by decide +kernel
theorem dX1_copyFrom_107 : decode cX1_copyFrom 107 = .ok (.iconst 0, 1) := by decide +kernel
theorem dX1_copyFrom_108 : decode cX1_copyFrom 108 = .ok (.aload_n 0, 1) := by decide +kernel
theorem dX1_copyFrom_109 : decode cX1_copyFrom 109 = .ok (.getfield 34, 3) := by decide +kernel
theorem dX1_copyFrom_112 : decode cX1_copyFrom 112 = .ok (.iconst 0, 1) := by decide +kernel
theorem dX1_copyFrom_113 : decode cX1_copyFrom 113 = .ok (.iconst 5, 1) := by decide +kernel
theorem dX1_copyFrom_114 : decode cX1_copyFrom 114 = .ok (.invokestatic 46, 3) := by decide +kernel
theorem dX1_copyFrom_117 : decode cX1_copyFrom 117 = .ok (.aload_n 1, 1) := by decide +kernel
theorem dX1_copyFrom_118 : decode cX1_copyFrom 118 = .ok (.getfield 37, 3) := by decide +kernel
theorem dX1_copyFrom_121 : decode cX1_copyFrom 121 = .ok (.iconst 0, 1) := by decide +kernel
theorem dX1_copyFrom_122 : decode cX1_copyFrom 122 = .ok (.aload_n 0, 1) := by decide +kernel
theorem dX1_copyFrom_123 : decode cX1_copyFrom 123 = .ok (.getfield 37, 3) := by decide +kernel
theorem dX1_copyFrom_126 : decode cX1_copyFrom 126 = .ok (.iconst 0, 1) := by decide +kernel
theorem dX1_copyFrom_127 : decode cX1_copyFrom 127 = .ok (.bipush 30, 2) := by decide +kernel
theorem dX1_copyFrom_129 : decode cX1_copyFrom 129 = .ok (.invokestatic 46, 3) := by decide +kernel
theorem dX1_copyFrom_132 : decode cX1_copyFrom 132 = .ok (.aload_n 1, 1) := by decide +kernel
theorem dX1_copyFrom_133 : decode cX1_copyFrom 133 = .ok (.getfield 40, 3) := by decide +kernel
theorem dX1_copyFrom_136 : decode cX1_copyFrom 136 = .ok (.iconst 0, 1) := by decide +kernel
theorem dX1_copyFrom_137 : decode cX1_copyFrom 137 = .ok (.aload_n 0, 1) := by decide +kernel
theorem dX1_copyFrom_138 : decode cX1_copyFrom 138 = .ok (.getfield 40, 3) := by decide +kernel
theorem dX1_copyFrom_141 : decode cX1_copyFrom 141 = .ok (.iconst 0, 1) := by decide +kernel
theorem dX1_copyFrom_142 : decode cX1_copyFrom 142 = .ok (.bipush 30, 2) := by decide +kernel
theorem dX1_copyFrom_144 : decode cX1_copyFrom 144 = .ok (.invokestatic 46, 3) := by decide +kernel
theorem dX1_copyFrom_147 : decode cX1_copyFrom 147 = .ok (.aload_n 1, 1) := by decide +kernel
theorem dX1_copyFrom_148 : decode cX1_copyFrom 148 = .ok (.getfield 43, 3) := by decide +kernel
theorem dX1_copyFrom_151 : decode cX1_copyFrom 151 = .ok (.iconst 0, 1) := by decide +kernel
theorem dX1_copyFrom_152 : decode cX1_copyFrom 152 = .ok (.aload_n 0, 1) := by decide +kernel
theorem dX1_copyFrom_153 : decode cX1_copyFrom 153 = .ok (.getfield 43, 3) := by decide +kernel
theorem dX1_copyFrom_156 : decode cX1_copyFrom 156 = .ok (.iconst 0, 1) := by decide +kernel
theorem dX1_copyFrom_157 : decode cX1_copyFrom 157 = .ok (.bipush 30, 2) := by decide +kernel
theorem dX1_copyFrom_159 : decode cX1_copyFrom 159 = .ok (.invokestatic 46, 3) := by decide +kernel
theorem dX1_copyFrom_162 : decode cX1_copyFrom 162 = .ok (.return_, 1) := by decide +kernel
theorem dX1_hasHand_0 : decode cX1_hasHand 0 = .ok (.iload_n 1, 1) := by decide +kernel
theorem dX1_hasHand_1 : decode cX1_hasHand 1 = .ok (.ifCond .lt 17, 3) := by decide +kernel
theorem dX1_hasHand_4 : decode cX1_hasHand 4 = .ok (.iload_n 1, 1) := by decide +kernel
theorem dX1_hasHand_5 : decode cX1_hasHand 5 = .ok (.aload_n 0, 1) := by decide +kernel
theorem dX1_hasHand_6 : decode cX1_hasHand 6 = .ok (.getfield 9, 3) := by decide +kernel
theorem dX1_hasHand_9 : decode cX1_hasHand 9 = .ok (.iconst 5, 1) := by decide +kernel
theorem dX1_hasHand_10 : decode cX1_hasHand 10 = .ok (.iaload, 1) := by decide +kernel
theorem dX1_hasHand_11 : decode cX1_hasHand 11 = .ok (.if_icmp .ge 7, 3) := by decide +kernel
theorem dX1_hasHand_18 : decode cX1_hasHand 18 = .ok (.iconst 0, 1) := by decide +kernel
theorem dX1_hasHand_19 : decode cX1_hasHand 19 = .ok (.ireturn, 1) := by decide +kernel
theorem dX1_hasPair_0 : decode cX1_hasPair 0 = .ok (.iload_n 1, 1) := by decide +kernel
theorem dX1_hasPair_1 : decode cX1_hasPair 1 = .ok (.ifCond .lt 18, 3) := by decide +kernel
theorem dX1_hasPair_4 : decode cX1_hasPair 4 = .ok (.iload_n 1, 1) := by decide +kernel
theorem dX1_hasPair_5 : decode cX1_hasPair 5 = .ok (.aload_n 0, 1) := by decide +kernel
theorem dX1_hasPair_6 : decode cX1_hasPair 6 = .ok (.getfield 9, 3) := by decide +kernel
theorem dX1_hasPair_9 : decode cX1_hasPair 9 = .ok (.bipush 6, 2) := by decide +kernel
theorem dX1_hasPair_11 : decode cX1_hasPair 11 = .ok (.iaload, 1) := by decide +kernel
theorem dX1_hasPair_12 : decode cX1_hasPair 12 = .ok (.if_icmp .ge 7, 3) := by decide +kernel
theorem dX1_hasPair_19 : decode cX1_hasPair 19 = .ok (.iconst 0, 1) := by decide +kernel
theorem dX1_hasPair_20 : decode cX1_hasPair 20 = .ok (.ireturn, 1) := by decide +kernel
theorem dX1_hasSecond_0 : decode cX1_hasSecond 0 = .ok (.iload_n 1, 1) := by decide +kernel
theorem dX1_hasSecond_1 : decode cX1_hasSecond 1 = .ok (.ifCond .lt 17, 3) := by decide +kernel
theorem dX1_hasSecond_4 : decode cX1_hasSecond 4 = .ok (.iload_n 1, 1) := by decide +kernel
theorem dX1_hasSecond_5 : decode cX1_hasSecond 5 = .ok (.aload_n 0, 1) := by decide +kernel
theorem dX1_hasSecond_6 : decode cX1_hasSecond 6 = .ok (.getfield 9, 3) := by decide +kernel
theorem dX1_hasSecond_9 : decode cX1_hasSecond 9 = .ok (.iconst 0, 1) := by decide +kernel
theorem dX1_hasSecond_10 : decode cX1_hasSecond 10 = .ok (.iaload, 1) := by decide +kernel
theorem dX1_hasSecond_11 : decode cX1_hasSecond 11 = .ok (.if_icmp .ge 7, 3) := by decide +kernel
theorem dX1_hasSecond_18 : decode cX1_hasSecond 18 = .ok (.iconst 0, 1) := by decide +kernel
theorem dX1_hasSecond_19 : decode cX1_hasSecond 19 = .ok (.ireturn, 1) := by decide +kernel
theorem dX1_stands_0 : decode cX1_stands 0 = .ok (.aload_n 0, 1) := by decide +kernel
theorem dX1_stands_1 : decode cX1_stands 1 = .ok (.getfield 9, 3) := by decide +kernel
theorem dX1_stands_4 : decode cX1_stands 4 = .ok (.bipush 10, 2) := by decide +kernel
theorem dX1_stands_6 : decode cX1_stands 6 = .ok (.iaload, 1) := by decide +kernel
theorem dX1_stands_7 : decode cX1_stands 7 = .ok (.ifCond .le 7, 3) := by decide +kernel
theorem dX1_stands_14 : decode cX1_stands 14 = .ok (.iconst 0, 1) := by decide +kernel
theorem dX1_stands_15 : decode cX1_stands 15 = .ok (.ireturn, 1) := by decide +kernel
theorem dX2_begin_0 : decode cX2_begin 0 = .ok (.iconst 0, 1) := by decide +kernel
theorem dX2_begin_1 : decode cX2_begin 1 = .ok (.istore_n 1, 1) := by decide +kernel
theorem dX2_begin_2 : decode cX2_begin 2 = .ok (.iload_n 1, 1) := by decide +kernel
theorem dX2_begin_3 : decode cX2_begin 3 = .ok (.bipush 6, 2) := by decide +kernel
theorem dX2_begin_5 : decode cX2_begin 5 = .ok (.if_icmp .ge 16, 3) := by decide +kernel
theorem dX2_begin_8 : decode cX2_begin 8 = .ok (.aload_n 0, 1) := by decide +kernel
theorem dX2_begin_9 : decode cX2_begin 9 = .ok (.getfield 22, 3) := by decide +kernel
theorem dX2_begin_12 : decode cX2_begin 12 = .ok (.iload_n 1, 1) := by decide +kernel
theorem dX2_begin_13 : decode cX2_begin 13 = .ok (.iconst 0, 1) := by decide +kernel
theorem dX2_begin_14 : decode cX2_begin 14 = .ok (.iastore, 1) := by decide +kernel
theorem dX2_begin_15 : decode cX2_begin 15 = .ok (.iinc 1 1, 3) := by decide +kernel
theorem dX2_begin_18 : decode cX2_begin 18 = .ok (.goto (-16), 3) := by decide +kernel
theorem dX2_begin_21 : decode cX2_begin 21 = .ok (.aload_n 0, 1) := by decide +kernel
theorem dX2_begin_22 : decode cX2_begin 22 = .ok (.aload_n 0, 1) := by decide +kernel
theorem dX2_begin_23 : decode cX2_begin 23 = .ok (.getfield 29, 3) := by decide +kernel
theorem dX2_begin_26 : decode cX2_begin 26 = .ok (.putfield 38, 3) := by decide +kernel
theorem dX2_begin_29 : decode cX2_begin 29 = .ok (.aload_n 0, 1) := by decide +kernel
theorem dX2_begin_30 : decode cX2_begin 30 = .ok (.iconst 0, 1) := by decide +kernel
theorem dX2_begin_31 : decode cX2_begin 31 = .ok (.putfield 41, 3) := by decide +kernel
theorem dX2_begin_34 : decode cX2_begin 34 = .ok (.return_, 1) := by decide +kernel
theorem dX2_clearFor_0 : decode cX2_clearFor 0 = .ok (.aload_n 0, 1) := by decide +kernel
theorem dX2_clearFor_1 : decode cX2_clearFor 1 = .ok (.iconst 0, 1) := by decide +kernel
theorem dX2_clearFor_2 : decode cX2_clearFor 2 = .ok (.putfield 25, 3) := by decide +kernel
theorem dX2_clearFor_5 : decode cX2_clearFor 5 = .ok (.aload_n 0, 1) := by decide +kernel
theorem dX2_clearFor_6 : decode cX2_clearFor 6 = .ok (.aload_n 1, 1) := by decide +kernel
theorem dX2_clearFor_7 : decode cX2_clearFor 7 = .ok (.getfield 44, 3) := by decide +kernel
theorem dX2_clearFor_10 : decode cX2_clearFor 10 = .ok (.iconst 1, 1) := by decide +kernel
theorem dX2_clearFor_11 : decode cX2_clearFor 11 = .ok (.iaload, 1) := by decide +kernel
theorem dX2_clearFor_12 : decode cX2_clearFor 12 = .ok (.putfield 29, 3) := by decide +kernel
theorem dX2_clearFor_15 : decode cX2_clearFor 15 = .ok (.aload_n 0, 1) := by decide +kernel
theorem dX2_clearFor_16 : decode cX2_clearFor 16 = .ok (.aload_n 1, 1) := by decide +kernel
theorem dX2_clearFor_17 : decode cX2_clearFor 17 = .ok (.getfield 44, 3) := by decide +kernel
theorem dX2_clearFor_20 : decode cX2_clearFor 20 = .ok (.iconst 2, 1) := by decide +kernel
theorem dX2_clearFor_21 : decode cX2_clearFor 21 = .ok (.iaload, 1) := by decide +kernel
theorem dX2_clearFor_22 : decode cX2_clearFor 22 = .ok (.putfield 32, 3) := by decide +kernel
theorem dX2_clearFor_25 : decode cX2_clearFor 25 = .ok (.aload_n 0, 1) := by decide +kernel
theorem dX2_clearFor_26 : decode cX2_clearFor 26 = .ok (.aload_n 1, 1) := by decide +kernel
theorem dX2_clearFor_27 : decode cX2_clearFor 27 = .ok (.getfield 44, 3) := by decide +kernel
theorem dX2_clearFor_30 : decode cX2_clearFor 30 = .ok (.iconst 3, 1) := by decide +kernel
theorem dX2_clearFor_31 : decode cX2_clearFor 31 = .ok (.iaload, 1) := by decide +kernel
theorem dX2_clearFor_32 : decode cX2_clearFor 32 = .ok (.putfield 35, 3) := by decide +kernel
theorem dX2_clearFor_35 : decode cX2_clearFor 35 = .ok (.return_, 1) := by decide +kernel
theorem dX2_loadAt_0 : decode cX2_loadAt 0 = .ok (.aload_n 0, 1) := by decide +kernel
theorem dX2_loadAt_1 : decode cX2_loadAt 1 = .ok (.getfield 32, 3) := by decide +kernel
theorem dX2_loadAt_4 : decode cX2_loadAt 4 = .ok (.istore_n 2, 1) := by decide +kernel
theorem dX2_loadAt_5 : decode cX2_loadAt 5 = .ok (.iconst 0, 1) := by decide +kernel
theorem dX2_loadAt_6 : decode cX2_loadAt 6 = .ok (.istore_n 3, 1) := by decide +kernel
theorem dX2_loadAt_7 : decode cX2_loadAt 7 = .ok (.iload_n 3, 1) := by decide +kernel
theorem dX2_loadAt_8 : decode cX2_loadAt 8 = .ok (.iload_n 1, 1) := by decide +kernel
theorem dX2_loadAt_9 : decode cX2_loadAt 9 = .ok (.if_icmp .ge 30, 3) := by decide +kernel
theorem dX2_loadAt_12 : decode cX2_loadAt 12 = .ok (.iload_n 3, 1) := by decide +kernel
theorem dX2_loadAt_13 : decode cX2_loadAt 13 = .ok (.aload_n 0, 1) := by decide +kernel
theorem dX2_loadAt_14 : decode cX2_loadAt 14 = .ok (.getfield 25, 3) := by decide +kernel
theorem dX2_loadAt_17 : decode cX2_loadAt 17 = .ok (.if_icmp .ge 22, 3) := by decide +kernel
theorem dX2_loadAt_39 : decode cX2_loadAt 39 = .ok (.iload_n 2, 1) := by decide +kernel
theorem dX2_loadAt_40 : decode cX2_loadAt 40 = .ok (.ireturn, 1) := by decide +kernel
theorem dX2_poured_0 : decode cX2_poured 0 = .ok (.aload_n 0, 1) := by decide +kernel
theorem dX2_poured_1 : decode cX2_poured 1 = .ok (.aload_n 0, 1) := by decide +kernel
theorem dX2_poured_2 : decode cX2_poured 2 = .ok (.getfield 25, 3) := by decide +kernel
theorem dX2_poured_5 : decode cX2_poured 5 = .ok (.invokevirtual 62, 3) := by decide +kernel
theorem dX2_poured_8 : decode cX2_poured 8 = .ok (.ireturn, 1) := by decide +kernel
theorem dX4_nextToken_0 : decode cX4_nextToken 0 = .ok (.aload_n 0, 1) := by decide +kernel
theorem dX4_nextToken_1 : decode cX4_nextToken 1 = .ok (.getfield 18, 3) := by decide +kernel
theorem dX4_nextToken_4 : decode cX4_nextToken 4 = .ok (.ifCond .eq 4, 3) := by decide +kernel
theorem dX4_nextToken_8 : decode cX4_nextToken 8 = .ok (.aload_n 0, 1) := by decide +kernel
theorem dX4_nextToken_9 : decode cX4_nextToken 9 = .ok (.getfield 31, 3) := by decide +kernel
theorem dX4_nextToken_12 : decode cX4_nextToken 12 = .ok (.aload_n 0, 1) := by decide +kernel
theorem dX4_nextToken_13 : decode cX4_nextToken 13 = .ok (.getfield 12, 3) := by decide +kernel
theorem dX4_nextToken_16 : decode cX4_nextToken 16 = .ok (.getfield 135, 3) := by decide +kernel
theorem dX4_nextToken_19 : decode cX4_nextToken 19 = .ok (.if_icmp .ge 34, 3) := by decide +kernel
theorem dX4_nextToken_53 : decode cX4_nextToken 53 = .ok (.aload_n 0, 1) := by decide +kernel
theorem dX4_nextToken_54 : decode cX4_nextToken 54 = .ok (.aload_n 0, 1) := by decide +kernel
theorem dX4_nextToken_55 : decode cX4_nextToken 55 = .ok (.getfield 31, 3) := by decide +kernel
theorem dX4_nextToken_58 : decode cX4_nextToken 58 = .ok (.putfield 28, 3) := by decide +kernel
theorem dX4_nextToken_61 : decode cX4_nextToken 61 = .ok (.aload_n 0, 1) := by decide +kernel
theorem dX4_nextToken_62 : decode cX4_nextToken 62 = .ok (.getfield 31, 3) := by decide +kernel
theorem dX4_nextToken_65 : decode cX4_nextToken 65 = .ok (.aload_n 0, 1) := by decide +kernel
theorem dX4_nextToken_66 : decode cX4_nextToken 66 = .ok (.getfield 12, 3) := by decide +kernel
theorem dX4_nextToken_69 : decode cX4_nextToken 69 = .ok (.getfield 135, 3) := by decide +kernel
theorem dX4_nextToken_72 : decode cX4_nextToken 72 = .ok (.if_icmp .lt 9, 3) := by decide +kernel
theorem dX4_nextToken_75 : decode cX4_nextToken 75 = .ok (.aload_n 0, 1) := by decide +kernel
theorem dX4_nextToken_76 : decode cX4_nextToken 76 = .ok (.iconst 5, 1) := by decide +kernel
theorem dX4_nextToken_77 : decode cX4_nextToken 77 = .ok (.putfield 25, 3) := by decide +kernel
theorem dX4_nextToken_80 : decode cX4_nextToken 80 = .ok (.return_, 1) := by decide +kernel
theorem dX4_readInto_0 : decode cX4_readInto 0 = .ok (.aload_n 1, 1) := by decide +kernel
theorem dX4_readInto_1 : decode cX4_readInto 1 = .ok (.invokevirtual 37, 3) := by decide +kernel
theorem dX4_readInto_4 : decode cX4_readInto 4 = .ok (.aload_n 0, 1) := by decide +kernel
theorem dX4_readInto_5 : decode cX4_readInto 5 = .ok (.iconst 0, 1) := by decide +kernel
theorem dX4_readInto_6 : decode cX4_readInto 6 = .ok (.putfield 18, 3) := by decide +kernel
theorem dX4_readInto_9 : decode cX4_readInto 9 = .ok (.aload_n 0, 1) := by decide +kernel
theorem dX4_readInto_10 : decode cX4_readInto 10 = .ok (.iconst (-1), 1) := by decide +kernel
theorem dX4_readInto_11 : decode cX4_readInto 11 = .ok (.putfield 22, 3) := by decide +kernel
theorem dX4_readInto_14 : decode cX4_readInto 14 = .ok (.aload_n 0, 1) := by decide +kernel
theorem dX4_readInto_15 : decode cX4_readInto 15 = .ok (.iconst 0, 1) := by decide +kernel
theorem dX4_readInto_16 : decode cX4_readInto 16 = .ok (.putfield 31, 3) := by decide +kernel
theorem dX4_readInto_19 : decode cX4_readInto 19 = .ok (.aload_n 0, 1) := by decide +kernel
theorem dX4_readInto_20 : decode cX4_readInto 20 = .ok (.invokevirtual 42, 3) := by decide +kernel
theorem dX4_readInto_23 : decode cX4_readInto 23 = .ok (.iconst 0, 1) := by decide +kernel
theorem dX4_readInto_24 : decode cX4_readInto 24 = .ok (.istore_n 2, 1) := by decide +kernel
theorem dX4_readInto_25 : decode cX4_readInto 25 = .ok (.iload_n 2, 1) := by decide +kernel
theorem dX4_readInto_26 : decode cX4_readInto 26 = .ok (.sipush 500, 3) := by decide +kernel
theorem dX4_readInto_29 : decode cX4_readInto 29 = .ok (.if_icmp .gt 29, 3) := by decide +kernel
theorem dX4_readInto_32 : decode cX4_readInto 32 = .ok (.aload_n 0, 1) := by decide +kernel
theorem dX4_readInto_33 : decode cX4_readInto 33 = .ok (.getfield 18, 3) := by decide +kernel
theorem dX4_readInto_36 : decode cX4_readInto 36 = .ok (.ifCond .ne 22, 3) := by decide +kernel
theorem dX4_readInto_39 : decode cX4_readInto 39 = .ok (.aload_n 0, 1) := by decide +kernel
theorem dX4_readInto_40 : decode cX4_readInto 40 = .ok (.getfield 25, 3) := by decide +kernel
theorem dX4_readInto_43 : decode cX4_readInto 43 = .ok (.iconst 5, 1) := by decide +kernel
theorem dX4_readInto_44 : decode cX4_readInto 44 = .ok (.if_icmp .eq 14, 3) := by decide +kernel
theorem dX4_readInto_58 : decode cX4_readInto 58 = .ok (.aload_n 0, 1) := by decide +kernel
theorem dX4_readInto_59 : decode cX4_readInto 59 = .ok (.getfield 18, 3) := by decide +kernel
theorem dX4_readInto_62 : decode cX4_readInto 62 = .ok (.ifCond .ne 7, 3) := by decide +kernel
theorem dX4_readInto_65 : decode cX4_readInto 65 = .ok (.iconst 1, 1) := by decide +kernel
theorem dX4_readInto_66 : decode cX4_readInto 66 = .ok (.goto 4, 3) := by decide +kernel
theorem dX4_readInto_70 : decode cX4_readInto 70 = .ok (.ireturn, 1) := by decide +kernel
theorem dX5_hasRow_0 : decode cX5_hasRow 0 = .ok (.aload_n 0, 1) := by decide +kernel
theorem dX5_hasRow_1 : decode cX5_hasRow 1 = .ok (.getfield 15, 3) := by decide +kernel
theorem dX5_hasRow_4 : decode cX5_hasRow 4 = .ok (.iload_n 1, 1) := by decide +kernel
theorem dX5_hasRow_5 : decode cX5_hasRow 5 = .ok (.iaload, 1) := by decide +kernel
theorem dX5_hasRow_6 : decode cX5_hasRow 6 = .ok (.iconst (-1), 1) := by decide +kernel
theorem dX5_hasRow_7 : decode cX5_hasRow 7 = .ok (.if_icmp .eq 7, 3) := by decide +kernel
theorem dX5_hasRow_14 : decode cX5_hasRow 14 = .ok (.iconst 0, 1) := by decide +kernel
theorem dX5_hasRow_15 : decode cX5_hasRow 15 = .ok (.ireturn, 1) := by decide +kernel
theorem dX5_isSlot_0 : decode cX5_isSlot 0 = .ok (.iload_n 1, 1) := by decide +kernel
theorem dX5_isSlot_1 : decode cX5_isSlot 1 = .ok (.ifCond .lt 12, 3) := by decide +kernel
theorem dX5_isSlot_4 : decode cX5_isSlot 4 = .ok (.iload_n 1, 1) := by decide +kernel
theorem dX5_isSlot_5 : decode cX5_isSlot 5 = .ok (.iconst 4, 1) := by decide +kernel
theorem dX5_isSlot_6 : decode cX5_isSlot 6 = .ok (.if_icmp .ge 7, 3) := by decide +kernel
theorem dX5_isSlot_9 : decode cX5_isSlot 9 = .ok (.iconst 1, 1) := by decide +kernel
theorem dX5_isSlot_10 : decode cX5_isSlot 10 = .ok (.goto 4, 3) := by decide +kernel
theorem dX5_isSlot_13 : decode cX5_isSlot 13 = .ok (.iconst 0, 1) := by decide +kernel
theorem dX5_isSlot_14 : decode cX5_isSlot 14 = .ok (.ireturn, 1) := by decide +kernel
theorem dX5_makeRow_0 : decode cX5_makeRow 0 = .ok (.aload_n 0, 1) := by decide +kernel
theorem dX5_makeRow_1 : decode cX5_makeRow 1 = .ok (.getfield 19, 3) := by decide +kernel
theorem dX5_makeRow_4 : decode cX5_makeRow 4 = .ok (.iload_n 1, 1) := by decide +kernel
theorem dX5_makeRow_5 : decode cX5_makeRow 5 = .ok (.iload_n 2, 1) := by decide +kernel
theorem dX5_makeRow_6 : decode cX5_makeRow 6 = .ok (.iastore, 1) := by decide +kernel
theorem dX5_makeRow_7 : decode cX5_makeRow 7 = .ok (.aload_n 0, 1) := by decide +kernel
theorem dX5_makeRow_8 : decode cX5_makeRow 8 = .ok (.getfield 15, 3) := by decide +kernel
theorem dX5_makeRow_11 : decode cX5_makeRow 11 = .ok (.iload_n 1, 1) := by decide +kernel
theorem dX5_makeRow_12 : decode cX5_makeRow 12 = .ok (.iload_n 3, 1) := by decide +kernel
theorem dX5_makeRow_13 : decode cX5_makeRow 13 = .ok (.iastore, 1) := by decide +kernel
theorem dX5_makeRow_14 : decode cX5_makeRow 14 = .ok (.iconst 0, 1) := by decide +kernel
theorem dX5_makeRow_15 : decode cX5_makeRow 15 = .ok (.istore 4, 2) := by decide +kernel
theorem dX5_makeRow_17 : decode cX5_makeRow 17 = .ok (.iload 4, 2) := by decide +kernel
theorem dX5_makeRow_19 : decode cX5_makeRow 19 = .ok (.bipush 60, 2) := by decide +kernel
theorem dX5_makeRow_21 : decode cX5_makeRow 21 = .ok (.if_icmp .ge 22, 3) := by decide +kernel
theorem dX5_makeRow_24 : decode cX5_makeRow 24 = .ok (.aload_n 0, 1) := by decide +kernel
theorem dX5_makeRow_25 : decode cX5_makeRow 25 = .ok (.getfield 11, 3) := by decide +kernel
theorem dX5_makeRow_28 : decode cX5_makeRow 28 = .ok (.iload_n 1, 1) := by decide +kernel
theorem dX5_makeRow_29 : decode cX5_makeRow 29 = .ok (.bipush 60, 2) := by decide +kernel
theorem dX5_makeRow_31 : decode cX5_makeRow 31 = .ok (.imul, 1) := by decide +kernel
theorem dX5_makeRow_32 : decode cX5_makeRow 32 = .ok (.iload 4, 2) := by decide +kernel
theorem dX5_makeRow_34 : decode cX5_makeRow 34 = .ok (.iadd, 1) := by decide +kernel
theorem dX5_makeRow_35 : decode cX5_makeRow 35 = .ok (.lconst 0, 1) := by decide +kernel
theorem dX5_makeRow_36 : decode cX5_makeRow 36 = .ok (.lastore, 1) := by decide +kernel
theorem dX5_makeRow_37 : decode cX5_makeRow 37 = .ok (.iinc 4 1, 3) := by decide +kernel
theorem dX5_makeRow_40 : decode cX5_makeRow 40 = .ok (.goto (-23), 3) := by decide +kernel
theorem dX5_makeRow_43 : decode cX5_makeRow 43 = .ok (.return_, 1) := by decide +kernel
theorem dX5_rowsThere_0 : decode cX5_rowsThere 0 = .ok (.iconst 0, 1) := by decide +kernel
theorem dX5_rowsThere_1 : decode cX5_rowsThere 1 = .ok (.istore_n 1, 1) := by decide +kernel
theorem dX5_rowsThere_2 : decode cX5_rowsThere 2 = .ok (.iconst 0, 1) := by decide +kernel
theorem dX5_rowsThere_3 : decode cX5_rowsThere 3 = .ok (.istore_n 2, 1) := by decide +kernel
theorem dX5_rowsThere_4 : decode cX5_rowsThere 4 = .ok (.iload_n 2, 1) := by decide +kernel
theorem dX5_rowsThere_5 : decode cX5_rowsThere 5 = .ok (.iconst 4, 1) := by decide +kernel
theorem dX5_rowsThere_6 : decode cX5_rowsThere 6 = .ok (.if_icmp .ge 20, 3) := by decide +kernel
theorem dX5_rowsThere_9 : decode cX5_rowsThere 9 = .ok (.aload_n 0, 1) := by decide +kernel
theorem dX5_rowsThere_10 : decode cX5_rowsThere 10 = .ok (.iload_n 2, 1) := by decide +kernel
theorem dX5_rowsThere_11 : decode cX5_rowsThere 11 = .ok (.invokevirtual 22, 3) := by decide +kernel
theorem dX5_rowsThere_14 : decode cX5_rowsThere 14 = .ok (.ifCond .eq 6, 3) := by decide +kernel
theorem dX5_rowsThere_20 : decode cX5_rowsThere 20 = .ok (.iinc 2 1, 3) := by decide +kernel
theorem dX5_rowsThere_23 : decode cX5_rowsThere 23 = .ok (.goto (-19), 3) := by decide +kernel
theorem dX5_rowsThere_26 : decode cX5_rowsThere 26 = .ok (.iload_n 1, 1) := by decide +kernel
theorem dX5_rowsThere_27 : decode cX5_rowsThere 27 = .ok (.ireturn, 1) := by decide +kernel
theorem dX6_tell_0 : decode cX6_tell 0 = .ok (.iconst 0, 1) := by decide +kernel
theorem dX6_tell_1 : decode cX6_tell 1 = .ok (.istore_n 3, 1) := by decide +kernel
theorem dX6_tell_2 : decode cX6_tell 2 = .ok (.iload_n 3, 1) := by decide +kernel
theorem dX6_tell_3 : decode cX6_tell 3 = .ok (.bipush 6, 2) := by decide +kernel
theorem dX6_tell_5 : decode cX6_tell 5 = .ok (.if_icmp .gt 20, 3) := by decide +kernel
theorem dX6_tell_8 : decode cX6_tell 8 = .ok (.aload_n 0, 1) := by decide +kernel
theorem dX6_tell_9 : decode cX6_tell 9 = .ok (.getfield 42, 3) := by decide +kernel
theorem dX6_tell_12 : decode cX6_tell 12 = .ok (.iload_n 3, 1) := by decide +kernel
theorem dX6_tell_13 : decode cX6_tell 13 = .ok (.aload_n 2, 1) := by decide +kernel
theorem dX6_tell_14 : decode cX6_tell 14 = .ok (.iload_n 3, 1) := by decide +kernel
theorem dX6_tell_15 : decode cX6_tell 15 = .ok (.invokevirtual 53, 3) := by decide +kernel
theorem dX6_tell_18 : decode cX6_tell 18 = .ok (.iastore, 1) := by decide +kernel
theorem dX6_tell_19 : decode cX6_tell 19 = .ok (.iinc 3 1, 3) := by decide +kernel
theorem dX6_tell_22 : decode cX6_tell 22 = .ok (.goto (-20), 3) := by decide +kernel
theorem dX6_tell_25 : decode cX6_tell 25 = .ok (.aload_n 0, 1) := by decide +kernel
theorem dX6_tell_26 : decode cX6_tell 26 = .ok (.aload_n 2, 1) := by decide +kernel
theorem dX6_tell_27 : decode cX6_tell 27 = .ok (.invokevirtual 59, 3) := by decide +kernel
theorem dX6_tell_30 : decode cX6_tell 30 = .ok (.putfield 49, 3) := by decide +kernel
theorem dX6_tell_33 : decode cX6_tell 33 = .ok (.aload_n 0, 1) := by decide +kernel
theorem dX6_tell_34 : decode cX6_tell 34 = .ok (.lconst 0, 1) := by decide +kernel
theorem dX6_tell_35 : decode cX6_tell 35 = .ok (.putfield 45, 3) := by decide +kernel
theorem dX6_tell_38 : decode cX6_tell 38 = .ok (.aload_n 2, 1) := by decide +kernel
theorem dX6_tell_39 : decode cX6_tell 39 = .ok (.invokevirtual 62, 3) := by decide +kernel
theorem dX6_tell_42 : decode cX6_tell 42 = .ok (.iconst 0, 1) := by decide +kernel
theorem dX6_tell_43 : decode cX6_tell 43 = .ok (.istore_n 3, 1) := by decide +kernel
theorem dX6_tell_44 : decode cX6_tell 44 = .ok (.iload_n 3, 1) := by decide +kernel
theorem dX6_tell_45 : decode cX6_tell 45 = .ok (.aload_n 1, 1) := by decide +kernel
theorem dX6_tell_46 : decode cX6_tell 46 = .ok (.getfield 65, 3) := by decide +kernel
theorem dX6_tell_49 : decode cX6_tell 49 = .ok (.iconst 0, 1) := by decide +kernel
theorem dX6_tell_50 : decode cX6_tell 50 = .ok (.iaload, 1) := by decide +kernel
theorem dX6_tell_51 : decode cX6_tell 51 = .ok (.if_icmp .ge 63, 3) := by decide +kernel
theorem dX6_tell_114 : decode cX6_tell 114 = .ok (.return_, 1) := by decide +kernel
theorem dX7_hasRoom_0 : decode cX7_hasRoom 0 = .ok (.aload_n 0, 1) := by decide +kernel
theorem dX7_hasRoom_1 : decode cX7_hasRoom 1 = .ok (.getfield 15, 3) := by decide +kernel
theorem dX7_hasRoom_4 : decode cX7_hasRoom 4 = .ok (.iload_n 1, 1) := by decide +kernel
theorem dX7_hasRoom_5 : decode cX7_hasRoom 5 = .ok (.iadd, 1) := by decide +kernel
theorem dX7_hasRoom_6 : decode cX7_hasRoom 6 = .ok (.sipush 500, 3) := by decide +kernel
theorem dX7_hasRoom_9 : decode cX7_hasRoom 9 = .ok (.if_icmp .gt 7, 3) := by decide +kernel
theorem dX7_hasRoom_12 : decode cX7_hasRoom 12 = .ok (.iconst 1, 1) := by decide +kernel
theorem dX7_hasRoom_13 : decode cX7_hasRoom 13 = .ok (.goto 4, 3) := by decide +kernel
theorem dX7_hasRoom_17 : decode cX7_hasRoom 17 = .ok (.ireturn, 1) := by decide +kernel
theorem dX7_putNumber_0 : decode cX7_putNumber 0 = .ok (.aload_n 0, 1) := by decide +kernel
theorem dX7_putNumber_1 : decode cX7_putNumber 1 = .ok (.iconst 4, 1) := by decide +kernel
theorem dX7_putNumber_2 : decode cX7_putNumber 2 = .ok (.invokevirtual 19, 3) := by decide +kernel
theorem dX7_putNumber_5 : decode cX7_putNumber 5 = .ok (.ifCond .ne 4, 3) := by decide +kernel
theorem dX7_putNumber_9 : decode cX7_putNumber 9 = .ok (.bipush 24, 2) := by decide +kernel
theorem dX7_putNumber_11 : decode cX7_putNumber 11 = .ok (.istore_n 2, 1) := by decide +kernel
theorem dX7_putNumber_12 : decode cX7_putNumber 12 = .ok (.iload_n 2, 1) := by decide +kernel
theorem dX7_putNumber_13 : decode cX7_putNumber 13 = .ok (.ifCond .lt 32, 3) := by decide +kernel
theorem dX7_putNumber_16 : decode cX7_putNumber 16 = .ok (.aload_n 0, 1) := by decide +kernel
theorem dX7_putNumber_17 : decode cX7_putNumber 17 = .ok (.getfield 9, 3) := by decide +kernel
theorem dX7_putNumber_20 : decode cX7_putNumber 20 = .ok (.aload_n 0, 1) := by decide +kernel
theorem dX7_putNumber_21 : decode cX7_putNumber 21 = .ok (.getfield 15, 3) := by decide +kernel
theorem dX7_putNumber_24 : decode cX7_putNumber 24 = .ok (.iload_n 1, 1) := by decide +kernel
theorem dX7_putNumber_25 : decode cX7_putNumber 25 = .ok (.iload_n 2, 1) := by decide +kernel
theorem dX7_putNumber_26 : decode cX7_putNumber 26 = .ok (.ishr, 1) := by decide +kernel
theorem dX7_putNumber_27 : decode cX7_putNumber 27 = .ok (.i2b, 1) := by decide +kernel
theorem dX7_putNumber_28 : decode cX7_putNumber 28 = .ok (.bastore, 1) := by decide +kernel
theorem dX7_putNumber_29 : decode cX7_putNumber 29 = .ok (.aload_n 0, 1) := by decide +kernel
theorem dX7_putNumber_30 : decode cX7_putNumber 30 = .ok (.dup, 1) := by decide +kernel
theorem dX7_putNumber_31 : decode cX7_putNumber 31 = .ok (.getfield 15, 3) := by decide +kernel
theorem dX7_putNumber_34 : decode cX7_putNumber 34 = .ok (.iconst 1, 1) := by decide +kernel
theorem dX7_putNumber_35 : decode cX7_putNumber 35 = .ok (.iadd, 1) := by decide +kernel
theorem dX7_putNumber_36 : decode cX7_putNumber 36 = .ok (.putfield 15, 3) := by decide +kernel
theorem dX7_putNumber_39 : decode cX7_putNumber 39 = .ok (.iinc 2 (-8), 3) := by decide +kernel
theorem dX7_putNumber_42 : decode cX7_putNumber 42 = .ok (.goto (-30), 3) := by decide +kernel
theorem dX7_putNumber_45 : decode cX7_putNumber 45 = .ok (.return_, 1) := by decide +kernel
theorem dX8_anew_0 : decode cX8_anew 0 = .ok (.aload_n 0, 1) := by decide +kernel
theorem dX8_anew_1 : decode cX8_anew 1 = .ok (.getfield 28, 3) := by decide +kernel
theorem dX8_anew_4 : decode cX8_anew 4 = .ok (.invokevirtual 146, 3) := by decide +kernel
theorem dX8_anew_7 : decode cX8_anew 7 = .ok (.ifCond .ne 6, 3) := by decide +kernel
theorem dX8_anew_10 : decode cX8_anew 10 = .ok (.bipush (-2), 2) := by decide +kernel
theorem dX8_anew_12 : decode cX8_anew 12 = .ok (.ireturn, 1) := by decide +kernel
theorem dX8_ask_0 : decode cX8_ask 0 = .ok (.aload_n 0, 1) := by decide +kernel
theorem dX8_ask_1 : decode cX8_ask 1 = .ok (.iload_n 1, 1) := by decide +kernel
theorem dX8_ask_2 : decode cX8_ask 2 = .ok (.invokevirtual 310, 3) := by decide +kernel
theorem dX8_ask_5 : decode cX8_ask 5 = .ok (.istore_n 2, 1) := by decide +kernel
theorem dX8_ask_6 : decode cX8_ask 6 = .ok (.iload_n 2, 1) := by decide +kernel
theorem dX8_ask_7 : decode cX8_ask 7 = .ok (.ifCond .eq 5, 3) := by decide +kernel
theorem dX8_ask_10 : decode cX8_ask 10 = .ok (.iload_n 2, 1) := by decide +kernel
theorem dX8_ask_11 : decode cX8_ask 11 = .ok (.ireturn, 1) := by decide +kernel
theorem dX8_atSecond_0 : decode cX8_atSecond 0 = .ok (.aload_n 0, 1) := by decide +kernel
theorem dX8_atSecond_1 : decode cX8_atSecond 1 = .ok (.getfield 28, 3) := by decide +kernel
theorem dX8_atSecond_4 : decode cX8_atSecond 4 = .ok (.iload_n 2, 1) := by decide +kernel
theorem dX8_atSecond_5 : decode cX8_atSecond 5 = .ok (.invokevirtual 150, 3) := by decide +kernel
theorem dX8_atSecond_8 : decode cX8_atSecond 8 = .ok (.ifCond .eq 9, 3) := by decide +kernel
theorem dX8_atSecond_17 : decode cX8_atSecond 17 = .ok (.bipush (-2), 2) := by decide +kernel
theorem dX8_atSecond_19 : decode cX8_atSecond 19 = .ok (.ireturn, 1) := by decide +kernel
theorem dX8_back_0 : decode cX8_back 0 = .ok (.iload_n 1, 1) := by decide +kernel
theorem dX8_back_1 : decode cX8_back 1 = .ok (.ifCond .lt 8, 3) := by decide +kernel
theorem dX8_back_4 : decode cX8_back 4 = .ok (.iload_n 1, 1) := by decide +kernel
theorem dX8_back_5 : decode cX8_back 5 = .ok (.iconst 3, 1) := by decide +kernel
theorem dX8_back_6 : decode cX8_back 6 = .ok (.if_icmp .lt 6, 3) := by decide +kernel
theorem dX8_back_9 : decode cX8_back 9 = .ok (.bipush (-2), 2) := by decide +kernel
theorem dX8_back_11 : decode cX8_back 11 = .ok (.ireturn, 1) := by decide +kernel
theorem dX8_back_12 : decode cX8_back 12 = .ok (.aload_n 0, 1) := by decide +kernel
theorem dX8_back_13 : decode cX8_back 13 = .ok (.getfield 35, 3) := by decide +kernel
theorem dX8_back_16 : decode cX8_back 16 = .ok (.iload_n 1, 1) := by decide +kernel
theorem dX8_back_17 : decode cX8_back 17 = .ok (.baload, 1) := by decide +kernel
theorem dX8_back_18 : decode cX8_back 18 = .ok (.ifCond .ne 6, 3) := by decide +kernel
theorem dX8_back_21 : decode cX8_back 21 = .ok (.bipush (-6), 2) := by decide +kernel
theorem dX8_back_23 : decode cX8_back 23 = .ok (.ireturn, 1) := by decide +kernel
theorem dX8_best_0 : decode cX8_best 0 = .ok (.aload_n 0, 1) := by decide +kernel
theorem dX8_best_1 : decode cX8_best 1 = .ok (.getfield 28, 3) := by decide +kernel
theorem dX8_best_4 : decode cX8_best 4 = .ok (.invokevirtual 146, 3) := by decide +kernel
theorem dX8_best_7 : decode cX8_best 7 = .ok (.ifCond .ne 6, 3) := by decide +kernel
theorem dX8_best_10 : decode cX8_best 10 = .ok (.bipush (-2), 2) := by decide +kernel
theorem dX8_best_12 : decode cX8_best 12 = .ok (.ireturn, 1) := by decide +kernel
theorem dX8_brigade_0 : decode cX8_brigade 0 = .ok (.aload_n 0, 1) := by decide +kernel
theorem dX8_brigade_1 : decode cX8_brigade 1 = .ok (.getfield 10, 3) := by decide +kernel
theorem dX8_brigade_4 : decode cX8_brigade 4 = .ok (.aload_n 0, 1) := by decide +kernel
theorem dX8_brigade_5 : decode cX8_brigade 5 = .ok (.getfield 24, 3) := by decide +kernel
theorem dX8_brigade_8 : decode cX8_brigade 8 = .ok (.invokevirtual 98, 3) := by decide +kernel
theorem dX8_brigade_11 : decode cX8_brigade 11 = .ok (.ifCond .ne 6, 3) := by decide +kernel
theorem dX8_brigade_17 : decode cX8_brigade 17 = .ok (.aload_n 0, 1) := by decide +kernel
theorem dX8_brigade_18 : decode cX8_brigade 18 = .ok (.getfield 28, 3) := by decide +kernel
theorem dX8_brigade_21 : decode cX8_brigade 21 = .ok (.aload_n 0, 1) := by decide +kernel
theorem dX8_brigade_22 : decode cX8_brigade 22 = .ok (.getfield 24, 3) := by decide +kernel
theorem dX8_brigade_25 : decode cX8_brigade 25 = .ok (.invokevirtual 102, 3) := by decide +kernel
theorem dX8_brigade_28 : decode cX8_brigade 28 = .ok (.aload_n 0, 1) := by decide +kernel
theorem dX8_brigade_29 : decode cX8_brigade 29 = .ok (.getfield 20, 3) := by decide +kernel
theorem dX8_brigade_32 : decode cX8_brigade 32 = .ok (.iconst 0, 1) := by decide +kernel
theorem dX8_brigade_33 : decode cX8_brigade 33 = .ok (.putfield 94, 3) := by decide +kernel
theorem dX8_brigade_36 : decode cX8_brigade 36 = .ok (.aload_n 0, 1) := by decide +kernel
theorem dX8_brigade_37 : decode cX8_brigade 37 = .ok (.invokevirtual 106, 3) := by decide +kernel
theorem dX8_brigade_40 : decode cX8_brigade 40 = .ok (.aload_n 0, 1) := by decide +kernel
theorem dX8_brigade_41 : decode cX8_brigade 41 = .ok (.getfield 28, 3) := by decide +kernel
theorem dX8_brigade_44 : decode cX8_brigade 44 = .ok (.getfield 109, 3) := by decide +kernel
theorem dX8_brigade_47 : decode cX8_brigade 47 = .ok (.bipush 10, 2) := by decide +kernel
theorem dX8_brigade_49 : decode cX8_brigade 49 = .ok (.iaload, 1) := by decide +kernel
theorem dX8_brigade_50 : decode cX8_brigade 50 = .ok (.ireturn, 1) := by decide +kernel
theorem dX8_brings_0 : decode cX8_brings 0 = .ok (.aload_n 0, 1) := by decide +kernel
theorem dX8_brings_1 : decode cX8_brings 1 = .ok (.getfield 28, 3) := by decide +kernel
theorem dX8_brings_4 : decode cX8_brings 4 = .ok (.invokevirtual 146, 3) := by decide +kernel
theorem dX8_brings_7 : decode cX8_brings 7 = .ok (.ifCond .eq 18, 3) := by decide +kernel
theorem dX8_brings_25 : decode cX8_brings 25 = .ok (.bipush (-2), 2) := by decide +kernel
theorem dX8_brings_27 : decode cX8_brings 27 = .ok (.ireturn, 1) := by decide +kernel
theorem dX8_busy_0 : decode cX8_busy 0 = .ok (.aload_n 0, 1) := by decide +kernel
theorem dX8_busy_1 : decode cX8_busy 1 = .ok (.aload_n 0, 1) := by decide +kernel
theorem dX8_busy_2 : decode cX8_busy 2 = .ok (.invokevirtual 153, 3) := by decide +kernel
theorem dX8_busy_5 : decode cX8_busy 5 = .ok (.getfield 157, 3) := by decide +kernel
theorem dX8_busy_8 : decode cX8_busy 8 = .ok (.iload_n 1, 1) := by decide +kernel
theorem dX8_busy_9 : decode cX8_busy 9 = .ok (.invokevirtual 171, 3) := by decide +kernel
theorem dX8_busy_12 : decode cX8_busy 12 = .ok (.ireturn, 1) := by decide +kernel
theorem dX8_chance_0 : decode cX8_chance 0 = .ok (.aload_n 0, 1) := by decide +kernel
theorem dX8_chance_1 : decode cX8_chance 1 = .ok (.iload_n 1, 1) := by decide +kernel
theorem dX8_chance_2 : decode cX8_chance 2 = .ok (.invokevirtual 342, 3) := by decide +kernel
theorem dX8_chance_5 : decode cX8_chance 5 = .ok (.ifCond .eq 20, 3) := by decide +kernel
theorem dX8_chance_25 : decode cX8_chance 25 = .ok (.ldc2_w 345, 3) := by decide +kernel
theorem dX8_chance_28 : decode cX8_chance 28 = .ok (.lreturn, 1) := by decide +kernel
theorem dX8_change_0 : decode cX8_change 0 = .ok (.aload_n 0, 1) := by decide +kernel
theorem dX8_change_1 : decode cX8_change 1 = .ok (.getfield 28, 3) := by decide +kernel
theorem dX8_change_4 : decode cX8_change 4 = .ok (.invokevirtual 146, 3) := by decide +kernel
theorem dX8_change_7 : decode cX8_change 7 = .ok (.ifCond .ne 6, 3) := by decide +kernel
theorem dX8_change_10 : decode cX8_change 10 = .ok (.bipush (-2), 2) := by decide +kernel
theorem dX8_change_12 : decode cX8_change 12 = .ok (.ireturn, 1) := by decide +kernel
theorem dX8_count_0 : decode cX8_count 0 = .ok (.iload_n 1, 1) := by decide +kernel
theorem dX8_count_1 : decode cX8_count 1 = .ok (.ifCond .lt 19, 3) := by decide +kernel
theorem dX8_count_4 : decode cX8_count 4 = .ok (.iload_n 1, 1) := by decide +kernel
theorem dX8_count_5 : decode cX8_count 5 = .ok (.bipush 11, 2) := by decide +kernel
theorem dX8_count_7 : decode cX8_count 7 = .ok (.if_icmp .ge 13, 3) := by decide +kernel
theorem dX8_count_10 : decode cX8_count 10 = .ok (.aload_n 0, 1) := by decide +kernel
theorem dX8_count_11 : decode cX8_count 11 = .ok (.getfield 28, 3) := by decide +kernel
theorem dX8_count_14 : decode cX8_count 14 = .ok (.getfield 109, 3) := by decide +kernel
theorem dX8_count_17 : decode cX8_count 17 = .ok (.iload_n 1, 1) := by decide +kernel
theorem dX8_count_18 : decode cX8_count 18 = .ok (.iaload, 1) := by decide +kernel
theorem dX8_count_19 : decode cX8_count 19 = .ok (.ireturn, 1) := by decide +kernel
theorem dX8_count_20 : decode cX8_count 20 = .ok (.iload_n 1, 1) := by decide +kernel
theorem dX8_count_21 : decode cX8_count 21 = .ok (.bipush 11, 2) := by decide +kernel
theorem dX8_count_23 : decode cX8_count 23 = .ok (.if_icmp .ne 11, 3) := by decide +kernel
theorem dX8_count_26 : decode cX8_count 26 = .ok (.aload_n 0, 1) := by decide +kernel
theorem dX8_count_27 : decode cX8_count 27 = .ok (.getfield 20, 3) := by decide +kernel
theorem dX8_count_30 : decode cX8_count 30 = .ok (.getfield 94, 3) := by decide +kernel
theorem dX8_count_33 : decode cX8_count 33 = .ok (.ireturn, 1) := by decide +kernel
theorem dX8_count_34 : decode cX8_count 34 = .ok (.iload_n 1, 1) := by decide +kernel
theorem dX8_count_35 : decode cX8_count 35 = .ok (.bipush 12, 2) := by decide +kernel
theorem dX8_count_37 : decode cX8_count 37 = .ok (.if_icmp .ne 13, 3) := by decide +kernel
theorem dX8_count_40 : decode cX8_count 40 = .ok (.aload_n 0, 1) := by decide +kernel
theorem dX8_count_41 : decode cX8_count 41 = .ok (.getfield 42, 3) := by decide +kernel
theorem dX8_count_44 : decode cX8_count 44 = .ok (.invokevirtual 383, 3) := by decide +kernel
theorem dX8_count_47 : decode cX8_count 47 = .ok (.goto 4, 3) := by decide +kernel
theorem dX8_count_50 : decode cX8_count 50 = .ok (.iconst (-1), 1) := by decide +kernel
theorem dX8_count_51 : decode cX8_count 51 = .ok (.ireturn, 1) := by decide +kernel
theorem dX8_crowded_0 : decode cX8_crowded 0 = .ok (.aload_n 0, 1) := by decide +kernel
theorem dX8_crowded_1 : decode cX8_crowded 1 = .ok (.getfield 28, 3) := by decide +kernel
theorem dX8_crowded_4 : decode cX8_crowded 4 = .ok (.invokevirtual 146, 3) := by decide +kernel
theorem dX8_crowded_7 : decode cX8_crowded 7 = .ok (.ifCond .ne 6, 3) := by decide +kernel
theorem dX8_crowded_10 : decode cX8_crowded 10 = .ok (.bipush (-2), 2) := by decide +kernel
theorem dX8_crowded_12 : decode cX8_crowded 12 = .ok (.ireturn, 1) := by decide +kernel
theorem dX8_drawn_0 : decode cX8_drawn 0 = .ok (.aload_n 0, 1) := by decide +kernel
theorem dX8_drawn_1 : decode cX8_drawn 1 = .ok (.getfield 28, 3) := by decide +kernel
theorem dX8_drawn_4 : decode cX8_drawn 4 = .ok (.invokevirtual 146, 3) := by decide +kernel
theorem dX8_drawn_7 : decode cX8_drawn 7 = .ok (.ifCond .eq 19, 3) := by decide +kernel
theorem dX8_drawn_26 : decode cX8_drawn 26 = .ok (.bipush (-2), 2) := by decide +kernel
theorem dX8_drawn_28 : decode cX8_drawn 28 = .ok (.ireturn, 1) := by decide +kernel
theorem dX8_ease_0 : decode cX8_ease 0 = .ok (.aload_n 0, 1) := by decide +kernel
theorem dX8_ease_1 : decode cX8_ease 1 = .ok (.getfield 28, 3) := by decide +kernel
theorem dX8_ease_4 : decode cX8_ease 4 = .ok (.iload_n 1, 1) := by decide +kernel
theorem dX8_ease_5 : decode cX8_ease 5 = .ok (.invokevirtual 119, 3) := by decide +kernel
theorem dX8_ease_8 : decode cX8_ease 8 = .ok (.ifCond .ne 6, 3) := by decide +kernel
theorem dX8_ease_11 : decode cX8_ease 11 = .ok (.bipush (-2), 2) := by decide +kernel
theorem dX8_ease_13 : decode cX8_ease 13 = .ok (.ireturn, 1) := by decide +kernel
theorem dX8_end_0 : decode cX8_end 0 = .ok (.iload_n 1, 1) := by decide +kernel
theorem dX8_end_1 : decode cX8_end 1 = .ok (.ifCond .lt 14, 3) := by decide +kernel
theorem dX8_end_4 : decode cX8_end 4 = .ok (.iload_n 1, 1) := by decide +kernel
theorem dX8_end_5 : decode cX8_end 5 = .ok (.aload_n 0, 1) := by decide +kernel
theorem dX8_end_6 : decode cX8_end 6 = .ok (.getfield 20, 3) := by decide +kernel
theorem dX8_end_9 : decode cX8_end 9 = .ok (.getfield 94, 3) := by decide +kernel
theorem dX8_end_12 : decode cX8_end 12 = .ok (.if_icmp .le 5, 3) := by decide +kernel
theorem dX8_end_15 : decode cX8_end 15 = .ok (.iconst (-1), 1) := by decide +kernel
theorem dX8_end_16 : decode cX8_end 16 = .ok (.ireturn, 1) := by decide +kernel
theorem dX8_end_17 : decode cX8_end 17 = .ok (.aload_n 0, 1) := by decide +kernel
theorem dX8_end_18 : decode cX8_end 18 = .ok (.getfield 20, 3) := by decide +kernel
theorem dX8_end_21 : decode cX8_end 21 = .ok (.iload_n 1, 1) := by decide +kernel
theorem dX8_end_22 : decode cX8_end 22 = .ok (.putfield 94, 3) := by decide +kernel
theorem dX8_end_25 : decode cX8_end 25 = .ok (.iload_n 1, 1) := by decide +kernel
theorem dX8_end_26 : decode cX8_end 26 = .ok (.ireturn, 1) := by decide +kernel
theorem dX8_enough_0 : decode cX8_enough 0 = .ok (.aload_n 0, 1) := by decide +kernel
theorem dX8_enough_1 : decode cX8_enough 1 = .ok (.getfield 28, 3) := by decide +kernel
theorem dX8_enough_4 : decode cX8_enough 4 = .ok (.invokevirtual 146, 3) := by decide +kernel
theorem dX8_enough_7 : decode cX8_enough 7 = .ok (.ifCond .ne 6, 3) := by decide +kernel
theorem dX8_enough_10 : decode cX8_enough 10 = .ok (.bipush (-2), 2) := by decide +kernel
theorem dX8_enough_12 : decode cX8_enough 12 = .ok (.ireturn, 1) := by decide +kernel
theorem dX8_fault_0 : decode cX8_fault 0 = .ok (.iload_n 1, 1) := by decide +kernel
theorem dX8_fault_1 : decode cX8_fault 1 = .ok (.ifCond .ne 11, 3) := by decide +kernel
theorem dX8_fault_4 : decode cX8_fault 4 = .ok (.aload_n 0, 1) := by decide +kernel
theorem dX8_fault_5 : decode cX8_fault 5 = .ok (.getfield 10, 3) := by decide +kernel
theorem dX8_fault_8 : decode cX8_fault 8 = .ok (.getfield 113, 3) := by decide +kernel
theorem dX8_fault_11 : decode cX8_fault 11 = .ok (.ireturn, 1) := by decide +kernel
theorem dX8_fault_12 : decode cX8_fault 12 = .ok (.iload_n 1, 1) := by decide +kernel
theorem dX8_fault_13 : decode cX8_fault 13 = .ok (.iconst 1, 1) := by decide +kernel
theorem dX8_fault_14 : decode cX8_fault 14 = .ok (.if_icmp .ne 13, 3) := by decide +kernel
theorem dX8_fault_17 : decode cX8_fault 17 = .ok (.aload_n 0, 1) := by decide +kernel
theorem dX8_fault_18 : decode cX8_fault 18 = .ok (.getfield 10, 3) := by decide +kernel
theorem dX8_fault_21 : decode cX8_fault 21 = .ok (.getfield 116, 3) := by decide +kernel
theorem dX8_fault_24 : decode cX8_fault 24 = .ok (.goto 4, 3) := by decide +kernel
theorem dX8_fault_27 : decode cX8_fault 27 = .ok (.iconst (-1), 1) := by decide +kernel
theorem dX8_fault_28 : decode cX8_fault 28 = .ok (.ireturn, 1) := by decide +kernel
theorem dX8_feed_0 : decode cX8_feed 0 = .ok (.aload_n 0, 1) := by decide +kernel
theorem dX8_feed_1 : decode cX8_feed 1 = .ok (.getfield 20, 3) := by decide +kernel
theorem dX8_feed_4 : decode cX8_feed 4 = .ok (.bipush 20, 2) := by decide +kernel
theorem dX8_feed_6 : decode cX8_feed 6 = .ok (.invokevirtual 84, 3) := by decide +kernel
theorem dX8_feed_9 : decode cX8_feed 9 = .ok (.ifCond .ne 5, 3) := by decide +kernel
theorem dX8_feed_14 : decode cX8_feed 14 = .ok (.aload_n 0, 1) := by decide +kernel
theorem dX8_feed_15 : decode cX8_feed 15 = .ok (.getfield 20, 3) := by decide +kernel
theorem dX8_feed_18 : decode cX8_feed 18 = .ok (.iload_n 1, 1) := by decide +kernel
theorem dX8_feed_19 : decode cX8_feed 19 = .ok (.invokevirtual 90, 3) := by decide +kernel
theorem dX8_feed_22 : decode cX8_feed 22 = .ok (.aload_n 0, 1) := by decide +kernel
theorem dX8_feed_23 : decode cX8_feed 23 = .ok (.getfield 20, 3) := by decide +kernel
theorem dX8_feed_26 : decode cX8_feed 26 = .ok (.iload_n 2, 1) := by decide +kernel
theorem dX8_feed_27 : decode cX8_feed 27 = .ok (.invokevirtual 90, 3) := by decide +kernel
theorem dX8_feed_30 : decode cX8_feed 30 = .ok (.aload_n 0, 1) := by decide +kernel
theorem dX8_feed_31 : decode cX8_feed 31 = .ok (.getfield 20, 3) := by decide +kernel
theorem dX8_feed_34 : decode cX8_feed 34 = .ok (.iload_n 3, 1) := by decide +kernel
theorem dX8_feed_35 : decode cX8_feed 35 = .ok (.invokevirtual 90, 3) := by decide +kernel
theorem dX8_feed_38 : decode cX8_feed 38 = .ok (.aload_n 0, 1) := by decide +kernel
theorem dX8_feed_39 : decode cX8_feed 39 = .ok (.getfield 20, 3) := by decide +kernel
theorem dX8_feed_42 : decode cX8_feed 42 = .ok (.iload 4, 2) := by decide +kernel
theorem dX8_feed_44 : decode cX8_feed 44 = .ok (.invokevirtual 90, 3) := by decide +kernel
theorem dX8_feed_47 : decode cX8_feed 47 = .ok (.aload_n 0, 1) := by decide +kernel
theorem dX8_feed_48 : decode cX8_feed 48 = .ok (.getfield 20, 3) := by decide +kernel
theorem dX8_feed_51 : decode cX8_feed 51 = .ok (.iload 5, 2) := by decide +kernel
theorem dX8_feed_53 : decode cX8_feed 53 = .ok (.invokevirtual 90, 3) := by decide +kernel
theorem dX8_feed_56 : decode cX8_feed 56 = .ok (.aload_n 0, 1) := by decide +kernel
theorem dX8_feed_57 : decode cX8_feed 57 = .ok (.getfield 20, 3) := by decide +kernel
theorem dX8_feed_60 : decode cX8_feed 60 = .ok (.getfield 94, 3) := by decide +kernel
theorem dX8_feed_63 : decode cX8_feed 63 = .ok (.ireturn, 1) := by decide +kernel
theorem dX8_fills_0 : decode cX8_fills 0 = .ok (.iload_n 1, 1) := by decide +kernel
theorem dX8_fills_1 : decode cX8_fills 1 = .ok (.iconst 1, 1) := by decide +kernel
theorem dX8_fills_2 : decode cX8_fills 2 = .ok (.if_icmp .lt 19, 3) := by decide +kernel
theorem dX8_fills_5 : decode cX8_fills 5 = .ok (.iload_n 1, 1) := by decide +kernel
theorem dX8_fills_6 : decode cX8_fills 6 = .ok (.bipush 30, 2) := by decide +kernel
theorem dX8_fills_8 : decode cX8_fills 8 = .ok (.if_icmp .gt 13, 3) := by decide +kernel
theorem dX8_fills_11 : decode cX8_fills 11 = .ok (.aload_n 0, 1) := by decide +kernel
theorem dX8_fills_12 : decode cX8_fills 12 = .ok (.getfield 28, 3) := by decide +kernel
theorem dX8_fills_15 : decode cX8_fills 15 = .ok (.invokevirtual 146, 3) := by decide +kernel
theorem dX8_fills_18 : decode cX8_fills 18 = .ok (.ifCond .ne 6, 3) := by decide +kernel
theorem dX8_fills_21 : decode cX8_fills 21 = .ok (.bipush (-2), 2) := by decide +kernel
theorem dX8_fills_23 : decode cX8_fills 23 = .ok (.ireturn, 1) := by decide +kernel
theorem dX8_fire_0 : decode cX8_fire 0 = .ok (.aload_n 0, 1) := by decide +kernel
theorem dX8_fire_1 : decode cX8_fire 1 = .ok (.aload_n 0, 1) := by decide +kernel
theorem dX8_fire_2 : decode cX8_fire 2 = .ok (.invokevirtual 153, 3) := by decide +kernel
theorem dX8_fire_5 : decode cX8_fire 5 = .ok (.getfield 193, 3) := by decide +kernel
theorem dX8_fire_8 : decode cX8_fire 8 = .ok (.iload_n 1, 1) := by decide +kernel
theorem dX8_fire_9 : decode cX8_fire 9 = .ok (.invokevirtual 171, 3) := by decide +kernel
theorem dX8_fire_12 : decode cX8_fire 12 = .ok (.ireturn, 1) := by decide +kernel
theorem dX8_fits_0 : decode cX8_fits 0 = .ok (.aload_n 0, 1) := by decide +kernel
