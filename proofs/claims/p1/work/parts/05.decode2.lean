theorem dX9_asItIs_73 : decode cX9_asItIs 73 = .ok (.iconst 0, 1) := by decide +kernel
theorem dX9_asItIs_74 : decode cX9_asItIs 74 = .ok (.bastore, 1) := by decide +kernel
theorem dX9_asItIs_75 : decode cX9_asItIs 75 = .ok (.iinc 1 1, 3) := by decide +kernel
theorem dX9_asItIs_78 : decode cX9_asItIs 78 = .ok (.goto (-16), 3) := by decide +kernel
theorem dX9_asItIs_81 : decode cX9_asItIs 81 = .ok (.aload_n 0, 1) := by decide +kernel
theorem dX9_asItIs_82 : decode cX9_asItIs 82 = .ok (.aload_n 0, 1) := by decide +kernel
theorem dX9_asItIs_83 : decode cX9_asItIs 83 = .ok (.invokevirtual 133, 3) := by decide +kernel
theorem dX9_asItIs_86 : decode cX9_asItIs 86 = .ok (.putfield 253, 3) := by decide +kernel
theorem dX9_asItIs_89 : decode cX9_asItIs 89 = .ok (.aload_n 0, 1) := by decide +kernel
theorem dX9_asItIs_90 : decode cX9_asItIs 90 = .ok (.aload_n 0, 1) := by decide +kernel
theorem dX9_asItIs_91 : decode cX9_asItIs 91 = .ok (.getfield 9, 3) := by decide +kernel
theorem dX9_asItIs_94 : decode cX9_asItIs 94 = .ok (.iconst 1, 1) := by decide +kernel
theorem dX9_asItIs_95 : decode cX9_asItIs 95 = .ok (.iaload, 1) := by decide +kernel
theorem dX9_asItIs_96 : decode cX9_asItIs 96 = .ok (.putfield 256, 3) := by decide +kernel
theorem dX9_asItIs_99 : decode cX9_asItIs 99 = .ok (.aload_n 0, 1) := by decide +kernel
theorem dX9_asItIs_100 : decode cX9_asItIs 100 = .ok (.aload_n 0, 1) := by decide +kernel
theorem dX9_asItIs_101 : decode cX9_asItIs 101 = .ok (.getfield 9, 3) := by decide +kernel
theorem dX9_asItIs_104 : decode cX9_asItIs 104 = .ok (.iconst 2, 1) := by decide +kernel
theorem dX9_asItIs_105 : decode cX9_asItIs 105 = .ok (.iaload, 1) := by decide +kernel
theorem dX9_asItIs_106 : decode cX9_asItIs 106 = .ok (.putfield 259, 3) := by decide +kernel
theorem dX9_asItIs_109 : decode cX9_asItIs 109 = .ok (.iconst 0, 1) := by decide +kernel
theorem dX9_asItIs_110 : decode cX9_asItIs 110 = .ok (.istore_n 1, 1) := by decide +kernel
theorem dX9_asItIs_111 : decode cX9_asItIs 111 = .ok (.iload_n 1, 1) := by decide +kernel
theorem dX9_asItIs_112 : decode cX9_asItIs 112 = .ok (.aload_n 0, 1) := by decide +kernel
theorem dX9_asItIs_113 : decode cX9_asItIs 113 = .ok (.getfield 9, 3) := by decide +kernel
theorem dX9_asItIs_116 : decode cX9_asItIs 116 = .ok (.bipush 9, 2) := by decide +kernel
theorem dX9_asItIs_118 : decode cX9_asItIs 118 = .ok (.iaload, 1) := by decide +kernel
theorem dX9_asItIs_119 : decode cX9_asItIs 119 = .ok (.if_icmp .ge 103, 3) := by decide +kernel
theorem dX9_asItIs_222 : decode cX9_asItIs 222 = .ok (.return_, 1) := by decide +kernel
theorem dX9_ask_0 : decode cX9_ask 0 = .ok (.aload_n 0, 1) := by decide +kernel
theorem dX9_ask_1 : decode cX9_ask 1 = .ok (.iload_n 1, 1) := by decide +kernel
theorem dX9_ask_2 : decode cX9_ask 2 = .ok (.invokevirtual 451, 3) := by decide +kernel
theorem dX9_ask_5 : decode cX9_ask 5 = .ok (.istore_n 2, 1) := by decide +kernel
theorem dX9_ask_6 : decode cX9_ask 6 = .ok (.iload_n 2, 1) := by decide +kernel
theorem dX9_ask_7 : decode cX9_ask 7 = .ok (.ifCond .ge 7, 3) := by decide +kernel
theorem dX9_ask_10 : decode cX9_ask 10 = .ok (.iload_n 2, 1) := by decide +kernel
theorem dX9_ask_11 : decode cX9_ask 11 = .ok (.goto 7, 3) := by decide +kernel
theorem dX9_ask_18 : decode cX9_ask 18 = .ok (.ireturn, 1) := by decide +kernel
theorem dX9_asksBrigade_0 : decode cX9_asksBrigade 0 = .ok (.aload_n 0, 1) := by decide +kernel
theorem dX9_asksBrigade_1 : decode cX9_asksBrigade 1 = .ok (.invokevirtual 298, 3) := by decide +kernel
theorem dX9_asksBrigade_4 : decode cX9_asksBrigade 4 = .ok (.aload_n 0, 1) := by decide +kernel
theorem dX9_asksBrigade_5 : decode cX9_asksBrigade 5 = .ok (.invokevirtual 301, 3) := by decide +kernel
theorem dX9_asksBrigade_8 : decode cX9_asksBrigade 8 = .ok (.ifCond .eq 11, 3) := by decide +kernel
theorem dX9_asksBrigade_19 : decode cX9_asksBrigade 19 = .ok (.aload_n 0, 1) := by decide +kernel
theorem dX9_asksBrigade_20 : decode cX9_asksBrigade 20 = .ok (.invokevirtual 301, 3) := by decide +kernel
theorem dX9_asksBrigade_23 : decode cX9_asksBrigade 23 = .ok (.ireturn, 1) := by decide +kernel
theorem dX9_asksHand_0 : decode cX9_asksHand 0 = .ok (.aload_n 0, 1) := by decide +kernel
theorem dX9_asksHand_1 : decode cX9_asksHand 1 = .ok (.invokevirtual 307, 3) := by decide +kernel
theorem dX9_asksHand_4 : decode cX9_asksHand 4 = .ok (.ifCond .eq 15, 3) := by decide +kernel
theorem dX9_asksHand_19 : decode cX9_asksHand 19 = .ok (.iconst 0, 1) := by decide +kernel
theorem dX9_asksHand_20 : decode cX9_asksHand 20 = .ok (.ireturn, 1) := by decide +kernel
theorem dX9_asksOrders_0 : decode cX9_asksOrders 0 = .ok (.aload_n 0, 1) := by decide +kernel
theorem dX9_asksOrders_1 : decode cX9_asksOrders 1 = .ok (.invokevirtual 301, 3) := by decide +kernel
theorem dX9_asksOrders_4 : decode cX9_asksOrders 4 = .ok (.ifCond .ne 5, 3) := by decide +kernel
theorem dX9_asksOrders_7 : decode cX9_asksOrders 7 = .ok (.iconst 0, 1) := by decide +kernel
theorem dX9_asksOrders_8 : decode cX9_asksOrders 8 = .ok (.ireturn, 1) := by decide +kernel
theorem dX9_asksSecond_0 : decode cX9_asksSecond 0 = .ok (.aload_n 0, 1) := by decide +kernel
theorem dX9_asksSecond_1 : decode cX9_asksSecond 1 = .ok (.invokevirtual 307, 3) := by decide +kernel
theorem dX9_asksSecond_4 : decode cX9_asksSecond 4 = .ok (.ifCond .eq 16, 3) := by decide +kernel
theorem dX9_asksSecond_20 : decode cX9_asksSecond 20 = .ok (.iconst 0, 1) := by decide +kernel
theorem dX9_asksSecond_21 : decode cX9_asksSecond 21 = .ok (.ireturn, 1) := by decide +kernel
theorem dX9_back_0 : decode cX9_back 0 = .ok (.iload_n 1, 1) := by decide +kernel
theorem dX9_back_1 : decode cX9_back 1 = .ok (.i2l, 1) := by decide +kernel
theorem dX9_back_2 : decode cX9_back 2 = .ok (.lconst 0, 1) := by decide +kernel
theorem dX9_back_3 : decode cX9_back 3 = .ok (.ldc2_w 123, 3) := by decide +kernel
theorem dX9_back_6 : decode cX9_back 6 = .ok (.invokestatic 125, 3) := by decide +kernel
theorem dX9_back_9 : decode cX9_back 9 = .ok (.ifCond .ne 6, 3) := by decide +kernel
theorem dX9_back_12 : decode cX9_back 12 = .ok (.bipush (-2), 2) := by decide +kernel
theorem dX9_back_14 : decode cX9_back 14 = .ok (.ireturn, 1) := by decide +kernel
theorem dX9_back_15 : decode cX9_back 15 = .ok (.aload_n 0, 1) := by decide +kernel
theorem dX9_back_16 : decode cX9_back 16 = .ok (.getfield 16, 3) := by decide +kernel
theorem dX9_back_19 : decode cX9_back 19 = .ok (.iload_n 1, 1) := by decide +kernel
theorem dX9_back_20 : decode cX9_back 20 = .ok (.baload, 1) := by decide +kernel
theorem dX9_back_21 : decode cX9_back 21 = .ok (.ifCond .ne 6, 3) := by decide +kernel
theorem dX9_back_24 : decode cX9_back 24 = .ok (.bipush (-6), 2) := by decide +kernel
theorem dX9_back_26 : decode cX9_back 26 = .ok (.ireturn, 1) := by decide +kernel
theorem dX9_best_0 : decode cX9_best 0 = .ok (.aload_n 0, 1) := by decide +kernel
theorem dX9_best_1 : decode cX9_best 1 = .ok (.invokevirtual 427, 3) := by decide +kernel
theorem dX9_best_4 : decode cX9_best 4 = .ok (.ifCond .eq 10, 3) := by decide +kernel
theorem dX9_best_14 : decode cX9_best 14 = .ok (.bipush (-2), 2) := by decide +kernel
theorem dX9_best_16 : decode cX9_best 16 = .ok (.ireturn, 1) := by decide +kernel
theorem dX9_brigade_0 : decode cX9_brigade 0 = .ok (.aload_n 0, 1) := by decide +kernel
theorem dX9_brigade_1 : decode cX9_brigade 1 = .ok (.aload_n 0, 1) := by decide +kernel
theorem dX9_brigade_2 : decode cX9_brigade 2 = .ok (.getfield 136, 3) := by decide +kernel
theorem dX9_brigade_5 : decode cX9_brigade 5 = .ok (.putfield 139, 3) := by decide +kernel
theorem dX9_brigade_8 : decode cX9_brigade 8 = .ok (.aload_n 0, 1) := by decide +kernel
theorem dX9_brigade_9 : decode cX9_brigade 9 = .ok (.iconst 0, 1) := by decide +kernel
theorem dX9_brigade_10 : decode cX9_brigade 10 = .ok (.putfield 136, 3) := by decide +kernel
theorem dX9_brigade_13 : decode cX9_brigade 13 = .ok (.aload_n 0, 1) := by decide +kernel
theorem dX9_brigade_14 : decode cX9_brigade 14 = .ok (.iconst 0, 1) := by decide +kernel
theorem dX9_brigade_15 : decode cX9_brigade 15 = .ok (.putfield 142, 3) := by decide +kernel
theorem dX9_brigade_18 : decode cX9_brigade 18 = .ok (.aload_n 0, 1) := by decide +kernel
theorem dX9_brigade_19 : decode cX9_brigade 19 = .ok (.iconst 0, 1) := by decide +kernel
theorem dX9_brigade_20 : decode cX9_brigade 20 = .ok (.putfield 173, 3) := by decide +kernel
theorem dX9_brigade_23 : decode cX9_brigade 23 = .ok (.aload_n 0, 1) := by decide +kernel
theorem dX9_brigade_24 : decode cX9_brigade 24 = .ok (.iconst (-1), 1) := by decide +kernel
theorem dX9_brigade_25 : decode cX9_brigade 25 = .ok (.putfield 27, 3) := by decide +kernel
theorem dX9_brigade_28 : decode cX9_brigade 28 = .ok (.iconst 0, 1) := by decide +kernel
theorem dX9_brigade_29 : decode cX9_brigade 29 = .ok (.istore_n 1, 1) := by decide +kernel
theorem dX9_brigade_30 : decode cX9_brigade 30 = .ok (.iload_n 1, 1) := by decide +kernel
theorem dX9_brigade_31 : decode cX9_brigade 31 = .ok (.bipush 68, 2) := by decide +kernel
theorem dX9_brigade_33 : decode cX9_brigade 33 = .ok (.if_icmp .ge 16, 3) := by decide +kernel
theorem dX9_brigade_36 : decode cX9_brigade 36 = .ok (.aload_n 0, 1) := by decide +kernel
theorem dX9_brigade_37 : decode cX9_brigade 37 = .ok (.getfield 31, 3) := by decide +kernel
theorem dX9_brigade_40 : decode cX9_brigade 40 = .ok (.iload_n 1, 1) := by decide +kernel
theorem dX9_brigade_41 : decode cX9_brigade 41 = .ok (.iconst 0, 1) := by decide +kernel
theorem dX9_brigade_42 : decode cX9_brigade 42 = .ok (.iastore, 1) := by decide +kernel
theorem dX9_brigade_43 : decode cX9_brigade 43 = .ok (.iinc 1 1, 3) := by decide +kernel
theorem dX9_brigade_46 : decode cX9_brigade 46 = .ok (.goto (-16), 3) := by decide +kernel
theorem dX9_brigade_49 : decode cX9_brigade 49 = .ok (.aload_n 0, 1) := by decide +kernel
theorem dX9_brigade_50 : decode cX9_brigade 50 = .ok (.invokevirtual 192, 3) := by decide +kernel
theorem dX9_brigade_53 : decode cX9_brigade 53 = .ok (.aload_n 0, 1) := by decide +kernel
theorem dX9_brigade_54 : decode cX9_brigade 54 = .ok (.invokevirtual 176, 3) := by decide +kernel
theorem dX9_brigade_57 : decode cX9_brigade 57 = .ok (.ifCond .eq 17, 3) := by decide +kernel
theorem dX9_brigade_60 : decode cX9_brigade 60 = .ok (.aload_n 0, 1) := by decide +kernel
theorem dX9_brigade_61 : decode cX9_brigade 61 = .ok (.getfield 152, 3) := by decide +kernel
theorem dX9_brigade_64 : decode cX9_brigade 64 = .ok (.ifCond .eq 10, 3) := by decide +kernel
theorem dX9_brigade_74 : decode cX9_brigade 74 = .ok (.aload_n 0, 1) := by decide +kernel
theorem dX9_brigade_75 : decode cX9_brigade 75 = .ok (.invokevirtual 176, 3) := by decide +kernel
theorem dX9_brigade_78 : decode cX9_brigade 78 = .ok (.ifCond .ne 6, 3) := by decide +kernel
theorem dX9_brigade_84 : decode cX9_brigade 84 = .ok (.iconst 0, 1) := by decide +kernel
theorem dX9_brigade_85 : decode cX9_brigade 85 = .ok (.istore_n 1, 1) := by decide +kernel
theorem dX9_brigade_86 : decode cX9_brigade 86 = .ok (.iload_n 1, 1) := by decide +kernel
theorem dX9_brigade_87 : decode cX9_brigade 87 = .ok (.bipush 68, 2) := by decide +kernel
theorem dX9_brigade_89 : decode cX9_brigade 89 = .ok (.if_icmp .ge 21, 3) := by decide +kernel
theorem dX9_brigade_92 : decode cX9_brigade 92 = .ok (.aload_n 0, 1) := by decide +kernel
theorem dX9_brigade_93 : decode cX9_brigade 93 = .ok (.getfield 9, 3) := by decide +kernel
theorem dX9_brigade_96 : decode cX9_brigade 96 = .ok (.iload_n 1, 1) := by decide +kernel
theorem dX9_brigade_97 : decode cX9_brigade 97 = .ok (.aload_n 0, 1) := by decide +kernel
theorem dX9_brigade_98 : decode cX9_brigade 98 = .ok (.getfield 31, 3) := by decide +kernel
theorem dX9_brigade_101 : decode cX9_brigade 101 = .ok (.iload_n 1, 1) := by decide +kernel
theorem dX9_brigade_102 : decode cX9_brigade 102 = .ok (.iaload, 1) := by decide +kernel
theorem dX9_brigade_103 : decode cX9_brigade 103 = .ok (.iastore, 1) := by decide +kernel
theorem dX9_brigade_104 : decode cX9_brigade 104 = .ok (.iinc 1 1, 3) := by decide +kernel
theorem dX9_brigade_107 : decode cX9_brigade 107 = .ok (.goto (-21), 3) := by decide +kernel
theorem dX9_brigade_110 : decode cX9_brigade 110 = .ok (.aload_n 0, 1) := by decide +kernel
theorem dX9_brigade_111 : decode cX9_brigade 111 = .ok (.getfield 9, 3) := by decide +kernel
theorem dX9_brigade_114 : decode cX9_brigade 114 = .ok (.bipush 10, 2) := by decide +kernel
theorem dX9_brigade_116 : decode cX9_brigade 116 = .ok (.iaload, 1) := by decide +kernel
theorem dX9_brigade_117 : decode cX9_brigade 117 = .ok (.ireturn, 1) := by decide +kernel
theorem dX9_brings_0 : decode cX9_brings 0 = .ok (.aload_n 0, 1) := by decide +kernel
theorem dX9_brings_1 : decode cX9_brings 1 = .ok (.iload_n 1, 1) := by decide +kernel
theorem dX9_brings_2 : decode cX9_brings 2 = .ok (.invokevirtual 463, 3) := by decide +kernel
theorem dX9_brings_5 : decode cX9_brings 5 = .ok (.ifCond .ne 6, 3) := by decide +kernel
theorem dX9_brings_8 : decode cX9_brings 8 = .ok (.bipush (-2), 2) := by decide +kernel
theorem dX9_brings_10 : decode cX9_brings 10 = .ok (.ireturn, 1) := by decide +kernel
theorem dX9_busy_0 : decode cX9_busy 0 = .ok (.aload_n 0, 1) := by decide +kernel
theorem dX9_busy_1 : decode cX9_busy 1 = .ok (.iload_n 1, 1) := by decide +kernel
theorem dX9_busy_2 : decode cX9_busy 2 = .ok (.invokevirtual 318, 3) := by decide +kernel
theorem dX9_busy_5 : decode cX9_busy 5 = .ok (.ifCond .eq 11, 3) := by decide +kernel
theorem dX9_busy_16 : decode cX9_busy 16 = .ok (.bipush (-2), 2) := by decide +kernel
theorem dX9_busy_18 : decode cX9_busy 18 = .ok (.ireturn, 1) := by decide +kernel
theorem dX9_chance_0 : decode cX9_chance 0 = .ok (.aload_n 0, 1) := by decide +kernel
theorem dX9_chance_1 : decode cX9_chance 1 = .ok (.iload_n 1, 1) := by decide +kernel
theorem dX9_chance_2 : decode cX9_chance 2 = .ok (.iload_n 3, 1) := by decide +kernel
theorem dX9_chance_3 : decode cX9_chance 3 = .ok (.invokevirtual 491, 3) := by decide +kernel
theorem dX9_chance_6 : decode cX9_chance 6 = .ok (.ifCond .eq 15, 3) := by decide +kernel
theorem dX9_chance_21 : decode cX9_chance 21 = .ok (.ldc2_w 496, 3) := by decide +kernel
theorem dX9_chance_24 : decode cX9_chance 24 = .ok (.lreturn, 1) := by decide +kernel
theorem dX9_change__0 : decode cX9_change_ 0 = .ok (.aload_n 0, 1) := by decide +kernel
theorem dX9_change__1 : decode cX9_change_ 1 = .ok (.invokevirtual 307, 3) := by decide +kernel
theorem dX9_change__4 : decode cX9_change_ 4 = .ok (.ifCond .ne 6, 3) := by decide +kernel
theorem dX9_change__7 : decode cX9_change_ 7 = .ok (.bipush (-2), 2) := by decide +kernel
theorem dX9_change__9 : decode cX9_change_ 9 = .ok (.ireturn, 1) := by decide +kernel
theorem dX9_count_0 : decode cX9_count 0 = .ok (.iload_n 1, 1) := by decide +kernel
theorem dX9_count_1 : decode cX9_count 1 = .ok (.i2l, 1) := by decide +kernel
theorem dX9_count_2 : decode cX9_count 2 = .ok (.lconst 0, 1) := by decide +kernel
theorem dX9_count_3 : decode cX9_count 3 = .ok (.ldc2_w 514, 3) := by decide +kernel
theorem dX9_count_6 : decode cX9_count 6 = .ok (.invokestatic 125, 3) := by decide +kernel
theorem dX9_count_9 : decode cX9_count 9 = .ok (.ifCond .eq 10, 3) := by decide +kernel
theorem dX9_count_12 : decode cX9_count 12 = .ok (.aload_n 0, 1) := by decide +kernel
theorem dX9_count_13 : decode cX9_count 13 = .ok (.getfield 9, 3) := by decide +kernel
theorem dX9_count_16 : decode cX9_count 16 = .ok (.iload_n 1, 1) := by decide +kernel
theorem dX9_count_17 : decode cX9_count 17 = .ok (.iaload, 1) := by decide +kernel
theorem dX9_count_18 : decode cX9_count 18 = .ok (.ireturn, 1) := by decide +kernel
theorem dX9_count_19 : decode cX9_count 19 = .ok (.iload_n 1, 1) := by decide +kernel
theorem dX9_count_20 : decode cX9_count 20 = .ok (.bipush 11, 2) := by decide +kernel
theorem dX9_count_22 : decode cX9_count 22 = .ok (.if_icmp .ne 8, 3) := by decide +kernel
theorem dX9_count_25 : decode cX9_count 25 = .ok (.aload_n 0, 1) := by decide +kernel
theorem dX9_count_26 : decode cX9_count 26 = .ok (.getfield 136, 3) := by decide +kernel
theorem dX9_count_29 : decode cX9_count 29 = .ok (.ireturn, 1) := by decide +kernel
theorem dX9_count_30 : decode cX9_count 30 = .ok (.iload_n 1, 1) := by decide +kernel
theorem dX9_count_31 : decode cX9_count 31 = .ok (.bipush 12, 2) := by decide +kernel
theorem dX9_count_33 : decode cX9_count 33 = .ok (.if_icmp .eq 5, 3) := by decide +kernel
theorem dX9_count_36 : decode cX9_count 36 = .ok (.iconst (-1), 1) := by decide +kernel
theorem dX9_count_37 : decode cX9_count 37 = .ok (.ireturn, 1) := by decide +kernel
theorem dX9_count_38 : decode cX9_count 38 = .ok (.iconst 0, 1) := by decide +kernel
theorem dX9_count_39 : decode cX9_count 39 = .ok (.istore_n 2, 1) := by decide +kernel
theorem dX9_count_40 : decode cX9_count 40 = .ok (.iconst 0, 1) := by decide +kernel
theorem dX9_count_41 : decode cX9_count 41 = .ok (.istore_n 3, 1) := by decide +kernel
theorem dX9_count_42 : decode cX9_count 42 = .ok (.iload_n 3, 1) := by decide +kernel
theorem dX9_count_43 : decode cX9_count 43 = .ok (.iconst 4, 1) := by decide +kernel
theorem dX9_count_44 : decode cX9_count 44 = .ok (.if_icmp .ge 27, 3) := by decide +kernel
theorem dX9_count_47 : decode cX9_count 47 = .ok (.iload_n 2, 1) := by decide +kernel
theorem dX9_count_48 : decode cX9_count 48 = .ok (.aload_n 0, 1) := by decide +kernel
theorem dX9_count_49 : decode cX9_count 49 = .ok (.getfield 107, 3) := by decide +kernel
theorem dX9_count_52 : decode cX9_count 52 = .ok (.iload_n 3, 1) := by decide +kernel
theorem dX9_count_53 : decode cX9_count 53 = .ok (.iaload, 1) := by decide +kernel
theorem dX9_count_54 : decode cX9_count 54 = .ok (.iconst (-1), 1) := by decide +kernel
theorem dX9_count_55 : decode cX9_count 55 = .ok (.if_icmp .ne 7, 3) := by decide +kernel
theorem dX9_count_58 : decode cX9_count 58 = .ok (.iconst 0, 1) := by decide +kernel
theorem dX9_count_59 : decode cX9_count 59 = .ok (.goto 4, 3) := by decide +kernel
theorem dX9_count_63 : decode cX9_count 63 = .ok (.iadd, 1) := by decide +kernel
theorem dX9_count_64 : decode cX9_count 64 = .ok (.istore_n 2, 1) := by decide +kernel
theorem dX9_count_65 : decode cX9_count 65 = .ok (.iinc 3 1, 3) := by decide +kernel
theorem dX9_count_68 : decode cX9_count 68 = .ok (.goto (-26), 3) := by decide +kernel
theorem dX9_count_71 : decode cX9_count 71 = .ok (.iload_n 2, 1) := by decide +kernel
theorem dX9_count_72 : decode cX9_count 72 = .ok (.ireturn, 1) := by decide +kernel
theorem dX9_crowded_0 : decode cX9_crowded 0 = .ok (.aload_n 0, 1) := by decide +kernel
theorem dX9_crowded_1 : decode cX9_crowded 1 = .ok (.invokevirtual 307, 3) := by decide +kernel
theorem dX9_crowded_4 : decode cX9_crowded 4 = .ok (.ifCond .ne 6, 3) := by decide +kernel
theorem dX9_crowded_7 : decode cX9_crowded 7 = .ok (.bipush (-2), 2) := by decide +kernel
theorem dX9_crowded_9 : decode cX9_crowded 9 = .ok (.ireturn, 1) := by decide +kernel
theorem dX9_drawn_0 : decode cX9_drawn 0 = .ok (.aload_n 0, 1) := by decide +kernel
theorem dX9_drawn_1 : decode cX9_drawn 1 = .ok (.invokevirtual 301, 3) := by decide +kernel
theorem dX9_drawn_4 : decode cX9_drawn 4 = .ok (.ifCond .eq 22, 3) := by decide +kernel
theorem dX9_drawn_26 : decode cX9_drawn 26 = .ok (.bipush (-2), 2) := by decide +kernel
theorem dX9_drawn_28 : decode cX9_drawn 28 = .ok (.ireturn, 1) := by decide +kernel
theorem dX9_ease_0 : decode cX9_ease 0 = .ok (.aload_n 0, 1) := by decide +kernel
theorem dX9_ease_1 : decode cX9_ease 1 = .ok (.iload_n 1, 1) := by decide +kernel
theorem dX9_ease_2 : decode cX9_ease 2 = .ok (.invokevirtual 327, 3) := by decide +kernel
theorem dX9_ease_5 : decode cX9_ease 5 = .ok (.ifCond .ne 6, 3) := by decide +kernel
theorem dX9_ease_8 : decode cX9_ease 8 = .ok (.bipush (-2), 2) := by decide +kernel
theorem dX9_ease_10 : decode cX9_ease 10 = .ok (.ireturn, 1) := by decide +kernel
theorem dX9_end_0 : decode cX9_end 0 = .ok (.iload_n 1, 1) := by decide +kernel
theorem dX9_end_1 : decode cX9_end 1 = .ok (.i2l, 1) := by decide +kernel
theorem dX9_end_2 : decode cX9_end 2 = .ok (.lconst 0, 1) := by decide +kernel
theorem dX9_end_3 : decode cX9_end 3 = .ok (.aload_n 0, 1) := by decide +kernel
theorem dX9_end_4 : decode cX9_end 4 = .ok (.getfield 136, 3) := by decide +kernel
theorem dX9_end_7 : decode cX9_end 7 = .ok (.i2l, 1) := by decide +kernel
theorem dX9_end_8 : decode cX9_end 8 = .ok (.invokestatic 125, 3) := by decide +kernel
theorem dX9_end_11 : decode cX9_end 11 = .ok (.ifCond .ne 5, 3) := by decide +kernel
theorem dX9_end_14 : decode cX9_end 14 = .ok (.iconst (-1), 1) := by decide +kernel
theorem dX9_end_15 : decode cX9_end 15 = .ok (.ireturn, 1) := by decide +kernel
theorem dX9_end_16 : decode cX9_end 16 = .ok (.aload_n 0, 1) := by decide +kernel
theorem dX9_end_17 : decode cX9_end 17 = .ok (.iload_n 1, 1) := by decide +kernel
theorem dX9_end_18 : decode cX9_end 18 = .ok (.putfield 136, 3) := by decide +kernel
theorem dX9_end_21 : decode cX9_end 21 = .ok (.iload_n 1, 1) := by decide +kernel
theorem dX9_end_22 : decode cX9_end 22 = .ok (.ireturn, 1) := by decide +kernel
theorem dX9_enough_0 : decode cX9_enough 0 = .ok (.aload_n 0, 1) := by decide +kernel
theorem dX9_enough_1 : decode cX9_enough 1 = .ok (.invokevirtual 301, 3) := by decide +kernel
theorem dX9_enough_4 : decode cX9_enough 4 = .ok (.ifCond .ne 6, 3) := by decide +kernel
theorem dX9_enough_7 : decode cX9_enough 7 = .ok (.bipush (-2), 2) := by decide +kernel
theorem dX9_enough_9 : decode cX9_enough 9 = .ok (.ireturn, 1) := by decide +kernel
theorem dX9_fault_0 : decode cX9_fault 0 = .ok (.iload_n 1, 1) := by decide +kernel
theorem dX9_fault_1 : decode cX9_fault 1 = .ok (.ifCond .ne 10, 3) := by decide +kernel
theorem dX9_fault_4 : decode cX9_fault 4 = .ok (.aload_n 0, 1) := by decide +kernel
theorem dX9_fault_5 : decode cX9_fault 5 = .ok (.getfield 173, 3) := by decide +kernel
theorem dX9_fault_8 : decode cX9_fault 8 = .ok (.goto 16, 3) := by decide +kernel
theorem dX9_fault_11 : decode cX9_fault 11 = .ok (.iload_n 1, 1) := by decide +kernel
theorem dX9_fault_12 : decode cX9_fault 12 = .ok (.iconst 1, 1) := by decide +kernel
theorem dX9_fault_13 : decode cX9_fault 13 = .ok (.if_icmp .ne 10, 3) := by decide +kernel
theorem dX9_fault_16 : decode cX9_fault 16 = .ok (.aload_n 0, 1) := by decide +kernel
theorem dX9_fault_17 : decode cX9_fault 17 = .ok (.getfield 27, 3) := by decide +kernel
theorem dX9_fault_20 : decode cX9_fault 20 = .ok (.goto 4, 3) := by decide +kernel
theorem dX9_fault_23 : decode cX9_fault 23 = .ok (.iconst (-1), 1) := by decide +kernel
theorem dX9_fault_24 : decode cX9_fault 24 = .ok (.ireturn, 1) := by decide +kernel
theorem dX9_feed_0 : decode cX9_feed 0 = .ok (.aload_n 0, 1) := by decide +kernel
theorem dX9_feed_1 : decode cX9_feed 1 = .ok (.getfield 136, 3) := by decide +kernel
theorem dX9_feed_4 : decode cX9_feed 4 = .ok (.bipush 20, 2) := by decide +kernel
theorem dX9_feed_6 : decode cX9_feed 6 = .ok (.iadd, 1) := by decide +kernel
theorem dX9_feed_7 : decode cX9_feed 7 = .ok (.sipush 500, 3) := by decide +kernel
theorem dX9_feed_10 : decode cX9_feed 10 = .ok (.if_icmp .le 5, 3) := by decide +kernel
theorem dX9_feed_15 : decode cX9_feed 15 = .ok (.aload_n 0, 1) := by decide +kernel
theorem dX9_feed_16 : decode cX9_feed 16 = .ok (.getfield 24, 3) := by decide +kernel
theorem dX9_feed_19 : decode cX9_feed 19 = .ok (.iconst 0, 1) := by decide +kernel
theorem dX9_feed_20 : decode cX9_feed 20 = .ok (.iload_n 1, 1) := by decide +kernel
theorem dX9_feed_21 : decode cX9_feed 21 = .ok (.iastore, 1) := by decide +kernel
theorem dX9_feed_22 : decode cX9_feed 22 = .ok (.aload_n 0, 1) := by decide +kernel
theorem dX9_feed_23 : decode cX9_feed 23 = .ok (.getfield 24, 3) := by decide +kernel
theorem dX9_feed_26 : decode cX9_feed 26 = .ok (.iconst 1, 1) := by decide +kernel
theorem dX9_feed_27 : decode cX9_feed 27 = .ok (.iload_n 2, 1) := by decide +kernel
theorem dX9_feed_28 : decode cX9_feed 28 = .ok (.iastore, 1) := by decide +kernel
theorem dX9_feed_29 : decode cX9_feed 29 = .ok (.aload_n 0, 1) := by decide +kernel
theorem dX9_feed_30 : decode cX9_feed 30 = .ok (.getfield 24, 3) := by decide +kernel
theorem dX9_feed_33 : decode cX9_feed 33 = .ok (.iconst 2, 1) := by decide +kernel
theorem dX9_feed_34 : decode cX9_feed 34 = .ok (.iload_n 3, 1) := by decide +kernel
theorem dX9_feed_35 : decode cX9_feed 35 = .ok (.iastore, 1) := by decide +kernel
theorem dX9_feed_36 : decode cX9_feed 36 = .ok (.aload_n 0, 1) := by decide +kernel
theorem dX9_feed_37 : decode cX9_feed 37 = .ok (.getfield 24, 3) := by decide +kernel
theorem dX9_feed_40 : decode cX9_feed 40 = .ok (.iconst 3, 1) := by decide +kernel
theorem dX9_feed_41 : decode cX9_feed 41 = .ok (.iload 4, 2) := by decide +kernel
theorem dX9_feed_43 : decode cX9_feed 43 = .ok (.iastore, 1) := by decide +kernel
theorem dX9_feed_44 : decode cX9_feed 44 = .ok (.aload_n 0, 1) := by decide +kernel
theorem dX9_feed_45 : decode cX9_feed 45 = .ok (.getfield 24, 3) := by decide +kernel
theorem dX9_feed_48 : decode cX9_feed 48 = .ok (.iconst 4, 1) := by decide +kernel
theorem dX9_feed_49 : decode cX9_feed 49 = .ok (.iload 5, 2) := by decide +kernel
theorem dX9_feed_51 : decode cX9_feed 51 = .ok (.iastore, 1) := by decide +kernel
theorem dX9_feed_52 : decode cX9_feed 52 = .ok (.iconst 0, 1) := by decide +kernel
theorem dX9_feed_53 : decode cX9_feed 53 = .ok (.istore 6, 2) := by decide +kernel
theorem dX9_feed_55 : decode cX9_feed 55 = .ok (.iload 6, 2) := by decide +kernel
theorem dX9_feed_57 : decode cX9_feed 57 = .ok (.bipush 20, 2) := by decide +kernel
theorem dX9_feed_59 : decode cX9_feed 59 = .ok (.if_icmp .ge 42, 3) := by decide +kernel
theorem dX9_feed_62 : decode cX9_feed 62 = .ok (.aload_n 0, 1) := by decide +kernel
theorem dX9_feed_63 : decode cX9_feed 63 = .ok (.getfield 20, 3) := by decide +kernel
theorem dX9_feed_66 : decode cX9_feed 66 = .ok (.aload_n 0, 1) := by decide +kernel
theorem dX9_feed_67 : decode cX9_feed 67 = .ok (.getfield 136, 3) := by decide +kernel
theorem dX9_feed_70 : decode cX9_feed 70 = .ok (.iload 6, 2) := by decide +kernel
theorem dX9_feed_72 : decode cX9_feed 72 = .ok (.iadd, 1) := by decide +kernel
theorem dX9_feed_73 : decode cX9_feed 73 = .ok (.aload_n 0, 1) := by decide +kernel
theorem dX9_feed_74 : decode cX9_feed 74 = .ok (.getfield 24, 3) := by decide +kernel
theorem dX9_feed_77 : decode cX9_feed 77 = .ok (.iload 6, 2) := by decide +kernel
theorem dX9_feed_79 : decode cX9_feed 79 = .ok (.iconst 4, 1) := by decide +kernel
theorem dX9_feed_80 : decode cX9_feed 80 = .ok (.idiv, 1) := by decide +kernel
theorem dX9_feed_81 : decode cX9_feed 81 = .ok (.iaload, 1) := by decide +kernel
theorem dX9_feed_82 : decode cX9_feed 82 = .ok (.bipush 24, 2) := by decide +kernel
theorem dX9_feed_84 : decode cX9_feed 84 = .ok (.bipush 8, 2) := by decide +kernel
theorem dX9_feed_86 : decode cX9_feed 86 = .ok (.iload 6, 2) := by decide +kernel
theorem dX9_feed_88 : decode cX9_feed 88 = .ok (.iconst 4, 1) := by decide +kernel
theorem dX9_feed_89 : decode cX9_feed 89 = .ok (.irem, 1) := by decide +kernel
theorem dX9_feed_90 : decode cX9_feed 90 = .ok (.imul, 1) := by decide +kernel
theorem dX9_feed_91 : decode cX9_feed 91 = .ok (.isub, 1) := by decide +kernel
theorem dX9_feed_92 : decode cX9_feed 92 = .ok (.ishr, 1) := by decide +kernel
theorem dX9_feed_93 : decode cX9_feed 93 = .ok (.i2b, 1) := by decide +kernel
theorem dX9_feed_94 : decode cX9_feed 94 = .ok (.bastore, 1) := by decide +kernel
theorem dX9_feed_95 : decode cX9_feed 95 = .ok (.iinc 6 1, 3) := by decide +kernel
theorem dX9_feed_98 : decode cX9_feed 98 = .ok (.goto (-43), 3) := by decide +kernel
theorem dX9_feed_101 : decode cX9_feed 101 = .ok (.aload_n 0, 1) := by decide +kernel
theorem dX9_feed_102 : decode cX9_feed 102 = .ok (.dup, 1) := by decide +kernel
theorem dX9_feed_103 : decode cX9_feed 103 = .ok (.getfield 136, 3) := by decide +kernel
theorem dX9_feed_106 : decode cX9_feed 106 = .ok (.bipush 20, 2) := by decide +kernel
theorem dX9_feed_108 : decode cX9_feed 108 = .ok (.iadd, 1) := by decide +kernel
theorem dX9_feed_109 : decode cX9_feed 109 = .ok (.putfield 136, 3) := by decide +kernel
theorem dX9_feed_112 : decode cX9_feed 112 = .ok (.aload_n 0, 1) := by decide +kernel
theorem dX9_feed_113 : decode cX9_feed 113 = .ok (.getfield 136, 3) := by decide +kernel
theorem dX9_feed_116 : decode cX9_feed 116 = .ok (.ireturn, 1) := by decide +kernel
theorem dX9_fills_0 : decode cX9_fills 0 = .ok (.aload_n 0, 1) := by decide +kernel
theorem dX9_fills_1 : decode cX9_fills 1 = .ok (.invokevirtual 301, 3) := by decide +kernel
theorem dX9_fills_4 : decode cX9_fills 4 = .ok (.ifCond .eq 15, 3) := by decide +kernel
theorem dX9_fills_19 : decode cX9_fills 19 = .ok (.bipush (-2), 2) := by decide +kernel
theorem dX9_fills_21 : decode cX9_fills 21 = .ok (.ireturn, 1) := by decide +kernel
theorem dX9_fire_0 : decode cX9_fire 0 = .ok (.aload_n 0, 1) := by decide +kernel
theorem dX9_fire_1 : decode cX9_fire 1 = .ok (.iload_n 1, 1) := by decide +kernel
theorem dX9_fire_2 : decode cX9_fire 2 = .ok (.invokevirtual 318, 3) := by decide +kernel
theorem dX9_fire_5 : decode cX9_fire 5 = .ok (.ifCond .ne 6, 3) := by decide +kernel
theorem dX9_fire_8 : decode cX9_fire 8 = .ok (.bipush (-2), 2) := by decide +kernel
theorem dX9_fire_10 : decode cX9_fire 10 = .ok (.ireturn, 1) := by decide +kernel
theorem dX9_fits_0 : decode cX9_fits 0 = .ok (.aload_n 0, 1) := by decide +kernel
theorem dX9_fits_1 : decode cX9_fits 1 = .ok (.iload_n 1, 1) := by decide +kernel
theorem dX9_fits_2 : decode cX9_fits 2 = .ok (.invokevirtual 451, 3) := by decide +kernel
theorem dX9_fits_5 : decode cX9_fits 5 = .ok (.istore_n 2, 1) := by decide +kernel
theorem dX9_fits_6 : decode cX9_fits 6 = .ok (.iload_n 2, 1) := by decide +kernel
theorem dX9_fits_7 : decode cX9_fits 7 = .ok (.ifCond .ge 7, 3) := by decide +kernel
theorem dX9_fits_10 : decode cX9_fits 10 = .ok (.iload_n 2, 1) := by decide +kernel
theorem dX9_fits_11 : decode cX9_fits 11 = .ok (.goto 7, 3) := by decide +kernel
theorem dX9_fits_18 : decode cX9_fits 18 = .ok (.ireturn, 1) := by decide +kernel
theorem dX9_full_0 : decode cX9_full 0 = .ok (.aload_n 0, 1) := by decide +kernel
theorem dX9_full_1 : decode cX9_full 1 = .ok (.invokevirtual 307, 3) := by decide +kernel
theorem dX9_full_4 : decode cX9_full 4 = .ok (.ifCond .eq 10, 3) := by decide +kernel
theorem dX9_full_14 : decode cX9_full 14 = .ok (.bipush (-2), 2) := by decide +kernel
theorem dX9_full_16 : decode cX9_full 16 = .ok (.ireturn, 1) := by decide +kernel
theorem dX9_gap_0 : decode cX9_gap 0 = .ok (.aload_n 0, 1) := by decide +kernel
theorem dX9_gap_1 : decode cX9_gap 1 = .ok (.invokevirtual 307, 3) := by decide +kernel
theorem dX9_gap_4 : decode cX9_gap 4 = .ok (.ifCond .ne 6, 3) := by decide +kernel
theorem dX9_gap_7 : decode cX9_gap 7 = .ok (.bipush (-2), 2) := by decide +kernel
theorem dX9_gap_9 : decode cX9_gap 9 = .ok (.ireturn, 1) := by decide +kernel
theorem dX9_gets_0 : decode cX9_gets 0 = .ok (.aload_n 0, 1) := by decide +kernel
theorem dX9_gets_1 : decode cX9_gets 1 = .ok (.iload_n 1, 1) := by decide +kernel
theorem dX9_gets_2 : decode cX9_gets 2 = .ok (.iload_n 2, 1) := by decide +kernel
theorem dX9_gets_3 : decode cX9_gets 3 = .ok (.invokevirtual 472, 3) := by decide +kernel
theorem dX9_gets_6 : decode cX9_gets 6 = .ok (.ifCond .eq 37, 3) := by decide +kernel
theorem dX9_gets_43 : decode cX9_gets 43 = .ok (.sipush (-1000), 3) := by decide +kernel
theorem dX9_gets_46 : decode cX9_gets 46 = .ok (.ireturn, 1) := by decide +kernel
theorem dX9_good_0 : decode cX9_good 0 = .ok (.aload_n 0, 1) := by decide +kernel
theorem dX9_good_1 : decode cX9_good 1 = .ok (.getfield 173, 3) := by decide +kernel
theorem dX9_good_4 : decode cX9_good 4 = .ok (.ifCond .ne 7, 3) := by decide +kernel
theorem dX9_good_7 : decode cX9_good 7 = .ok (.iconst 1, 1) := by decide +kernel
theorem dX9_good_8 : decode cX9_good 8 = .ok (.goto 4, 3) := by decide +kernel
theorem dX9_good_12 : decode cX9_good 12 = .ok (.ireturn, 1) := by decide +kernel
theorem dX9_hand_0 : decode cX9_hand 0 = .ok (.aload_n 0, 1) := by decide +kernel
theorem dX9_hand_1 : decode cX9_hand 1 = .ok (.invokevirtual 298, 3) := by decide +kernel
theorem dX9_hand_4 : decode cX9_hand 4 = .ok (.aload_n 0, 1) := by decide +kernel
theorem dX9_hand_5 : decode cX9_hand 5 = .ok (.iload_n 1, 1) := by decide +kernel
theorem dX9_hand_6 : decode cX9_hand 6 = .ok (.invokevirtual 314, 3) := by decide +kernel
theorem dX9_hand_9 : decode cX9_hand 9 = .ok (.ifCond .eq 13, 3) := by decide +kernel
theorem dX9_hand_22 : decode cX9_hand 22 = .ok (.bipush (-2), 2) := by decide +kernel
theorem dX9_hand_24 : decode cX9_hand 24 = .ok (.ireturn, 1) := by decide +kernel
theorem dX9_hands_0 : decode cX9_hands 0 = .ok (.aload_n 0, 1) := by decide +kernel
theorem dX9_hands_1 : decode cX9_hands 1 = .ok (.getfield 9, 3) := by decide +kernel
theorem dX9_hands_4 : decode cX9_hands 4 = .ok (.iconst 5, 1) := by decide +kernel
theorem dX9_hands_5 : decode cX9_hands 5 = .ok (.iaload, 1) := by decide +kernel
theorem dX9_hands_6 : decode cX9_hands 6 = .ok (.ireturn, 1) := by decide +kernel
theorem dX9_hasRound_0 : decode cX9_hasRound 0 = .ok (.aload_n 0, 1) := by decide +kernel
theorem dX9_hasRound_1 : decode cX9_hasRound 1 = .ok (.invokevirtual 301, 3) := by decide +kernel
theorem dX9_hasRound_4 : decode cX9_hasRound 4 = .ok (.ifCond .eq 14, 3) := by decide +kernel
theorem dX9_hasRound_18 : decode cX9_hasRound 18 = .ok (.iconst 0, 1) := by decide +kernel
theorem dX9_hasRound_19 : decode cX9_hasRound 19 = .ok (.ireturn, 1) := by decide +kernel
theorem dX9_heat_0 : decode cX9_heat 0 = .ok (.aload_n 0, 1) := by decide +kernel
theorem dX9_heat_1 : decode cX9_heat 1 = .ok (.invokevirtual 307, 3) := by decide +kernel
theorem dX9_heat_4 : decode cX9_heat 4 = .ok (.ifCond .ne 6, 3) := by decide +kernel
theorem dX9_heat_7 : decode cX9_heat 7 = .ok (.bipush (-2), 2) := by decide +kernel
theorem dX9_heat_9 : decode cX9_heat 9 = .ok (.ireturn, 1) := by decide +kernel
theorem dX9_held_0 : decode cX9_held 0 = .ok (.aload_n 0, 1) := by decide +kernel
theorem dX9_held_1 : decode cX9_held 1 = .ok (.iload_n 2, 1) := by decide +kernel
theorem dX9_held_2 : decode cX9_held 2 = .ok (.invokevirtual 318, 3) := by decide +kernel
theorem dX9_held_5 : decode cX9_held 5 = .ok (.ifCond .eq 29, 3) := by decide +kernel
theorem dX9_held_34 : decode cX9_held 34 = .ok (.bipush (-2), 2) := by decide +kernel
theorem dX9_held_36 : decode cX9_held 36 = .ok (.ireturn, 1) := by decide +kernel
theorem dX9_holds_0 : decode cX9_holds 0 = .ok (.aload_n 0, 1) := by decide +kernel
theorem dX9_holds_1 : decode cX9_holds 1 = .ok (.iload_n 2, 1) := by decide +kernel
theorem dX9_holds_2 : decode cX9_holds 2 = .ok (.invokevirtual 318, 3) := by decide +kernel
theorem dX9_holds_5 : decode cX9_holds 5 = .ok (.ifCond .eq 39, 3) := by decide +kernel
theorem dX9_holds_44 : decode cX9_holds 44 = .ok (.bipush (-2), 2) := by decide +kernel
theorem dX9_holds_46 : decode cX9_holds 46 = .ok (.ireturn, 1) := by decide +kernel
theorem dX9_idle_0 : decode cX9_idle 0 = .ok (.aload_n 0, 1) := by decide +kernel
theorem dX9_idle_1 : decode cX9_idle 1 = .ok (.iload_n 1, 1) := by decide +kernel
theorem dX9_idle_2 : decode cX9_idle 2 = .ok (.invokevirtual 327, 3) := by decide +kernel
theorem dX9_idle_5 : decode cX9_idle 5 = .ok (.ifCond .eq 11, 3) := by decide +kernel
theorem dX9_idle_16 : decode cX9_idle 16 = .ok (.bipush (-2), 2) := by decide +kernel
theorem dX9_idle_18 : decode cX9_idle 18 = .ok (.ireturn, 1) := by decide +kernel
theorem dX9_image_0 : decode cX9_image 0 = .ok (.iload_n 1, 1) := by decide +kernel
theorem dX9_image_1 : decode cX9_image 1 = .ok (.i2l, 1) := by decide +kernel
theorem dX9_image_2 : decode cX9_image 2 = .ok (.lconst 0, 1) := by decide +kernel
theorem dX9_image_3 : decode cX9_image 3 = .ok (.ldc2_w 123, 3) := by decide +kernel
theorem dX9_image_6 : decode cX9_image 6 = .ok (.invokestatic 125, 3) := by decide +kernel
theorem dX9_image_9 : decode cX9_image 9 = .ok (.ifCond .ne 6, 3) := by decide +kernel
theorem dX9_image_12 : decode cX9_image 12 = .ok (.bipush (-2), 2) := by decide +kernel
theorem dX9_image_14 : decode cX9_image 14 = .ok (.ireturn, 1) := by decide +kernel
theorem dX9_image_15 : decode cX9_image 15 = .ok (.iconst 0, 1) := by decide +kernel
theorem dX9_image_16 : decode cX9_image 16 = .ok (.istore_n 2, 1) := by decide +kernel
theorem dX9_image_17 : decode cX9_image 17 = .ok (.iload_n 2, 1) := by decide +kernel
theorem dX9_image_18 : decode cX9_image 18 = .ok (.bipush 68, 2) := by decide +kernel
theorem dX9_image_20 : decode cX9_image 20 = .ok (.if_icmp .ge 26, 3) := by decide +kernel
theorem dX9_image_23 : decode cX9_image 23 = .ok (.aload_n 0, 1) := by decide +kernel
theorem dX9_image_24 : decode cX9_image 24 = .ok (.getfield 13, 3) := by decide +kernel
theorem dX9_image_27 : decode cX9_image 27 = .ok (.bipush 68, 2) := by decide +kernel
theorem dX9_image_29 : decode cX9_image 29 = .ok (.iload_n 1, 1) := by decide +kernel
theorem dX9_image_30 : decode cX9_image 30 = .ok (.imul, 1) := by decide +kernel
theorem dX9_image_31 : decode cX9_image 31 = .ok (.iload_n 2, 1) := by decide +kernel
theorem dX9_image_32 : decode cX9_image 32 = .ok (.iadd, 1) := by decide +kernel
theorem dX9_image_33 : decode cX9_image 33 = .ok (.aload_n 0, 1) := by decide +kernel
theorem dX9_image_34 : decode cX9_image 34 = .ok (.getfield 9, 3) := by decide +kernel
theorem dX9_image_37 : decode cX9_image 37 = .ok (.iload_n 2, 1) := by decide +kernel
theorem dX9_image_38 : decode cX9_image 38 = .ok (.iaload, 1) := by decide +kernel
theorem dX9_image_39 : decode cX9_image 39 = .ok (.iastore, 1) := by decide +kernel
theorem dX9_image_40 : decode cX9_image 40 = .ok (.iinc 2 1, 3) := by decide +kernel
theorem dX9_image_43 : decode cX9_image 43 = .ok (.goto (-26), 3) := by decide +kernel
theorem dX9_image_46 : decode cX9_image 46 = .ok (.aload_n 0, 1) := by decide +kernel
theorem dX9_image_47 : decode cX9_image 47 = .ok (.getfield 16, 3) := by decide +kernel
theorem dX9_image_50 : decode cX9_image 50 = .ok (.iload_n 1, 1) := by decide +kernel
theorem dX9_image_51 : decode cX9_image 51 = .ok (.iconst 1, 1) := by decide +kernel
theorem dX9_image_52 : decode cX9_image 52 = .ok (.bastore, 1) := by decide +kernel
theorem dX9_image_53 : decode cX9_image 53 = .ok (.iconst 0, 1) := by decide +kernel
theorem dX9_image_54 : decode cX9_image 54 = .ok (.ireturn, 1) := by decide +kernel
theorem dX9_in_0 : decode cX9_in 0 = .ok (.lload_n 0, 1) := by decide +kernel
theorem dX9_in_1 : decode cX9_in 1 = .ok (.lload_n 2, 1) := by decide +kernel
theorem dX9_in_2 : decode cX9_in 2 = .ok (.lcmp, 1) := by decide +kernel
theorem dX9_in_3 : decode cX9_in 3 = .ok (.ifCond .lt 14, 3) := by decide +kernel
theorem dX9_in_6 : decode cX9_in 6 = .ok (.lload_n 0, 1) := by decide +kernel
theorem dX9_in_7 : decode cX9_in 7 = .ok (.lload 4, 2) := by decide +kernel
theorem dX9_in_9 : decode cX9_in 9 = .ok (.lcmp, 1) := by decide +kernel
theorem dX9_in_10 : decode cX9_in 10 = .ok (.ifCond .gt 7, 3) := by decide +kernel
theorem dX9_in_13 : decode cX9_in 13 = .ok (.iconst 1, 1) := by decide +kernel
theorem dX9_in_14 : decode cX9_in 14 = .ok (.goto 4, 3) := by decide +kernel
theorem dX9_in_17 : decode cX9_in 17 = .ok (.iconst 0, 1) := by decide +kernel
theorem dX9_in_18 : decode cX9_in 18 = .ok (.ireturn, 1) := by decide +kernel
theorem dX9_isBrigade_0 : decode cX9_isBrigade 0 = .ok (.aload_n 0, 1) := by decide +kernel
theorem dX9_isBrigade_1 : decode cX9_isBrigade 1 = .ok (.getfield 9, 3) := by decide +kernel
theorem dX9_isBrigade_4 : decode cX9_isBrigade 4 = .ok (.bipush 10, 2) := by decide +kernel
theorem dX9_isBrigade_6 : decode cX9_isBrigade 6 = .ok (.iaload, 1) := by decide +kernel
theorem dX9_isBrigade_7 : decode cX9_isBrigade 7 = .ok (.ifCond .le 7, 3) := by decide +kernel
theorem dX9_isBrigade_14 : decode cX9_isBrigade 14 = .ok (.iconst 0, 1) := by decide +kernel
theorem dX9_isBrigade_15 : decode cX9_isBrigade 15 = .ok (.ireturn, 1) := by decide +kernel
theorem dX9_isHand_0 : decode cX9_isHand 0 = .ok (.iload_n 1, 1) := by decide +kernel
theorem dX9_isHand_1 : decode cX9_isHand 1 = .ok (.i2l, 1) := by decide +kernel
theorem dX9_isHand_2 : decode cX9_isHand 2 = .ok (.lconst 0, 1) := by decide +kernel
theorem dX9_isHand_3 : decode cX9_isHand 3 = .ok (.aload_n 0, 1) := by decide +kernel
theorem dX9_isHand_4 : decode cX9_isHand 4 = .ok (.getfield 9, 3) := by decide +kernel
theorem dX9_isHand_7 : decode cX9_isHand 7 = .ok (.iconst 5, 1) := by decide +kernel
theorem dX9_isHand_8 : decode cX9_isHand 8 = .ok (.iaload, 1) := by decide +kernel
theorem dX9_isHand_9 : decode cX9_isHand 9 = .ok (.iconst 1, 1) := by decide +kernel
theorem dX9_isHand_10 : decode cX9_isHand 10 = .ok (.isub, 1) := by decide +kernel
theorem dX9_isHand_11 : decode cX9_isHand 11 = .ok (.i2l, 1) := by decide +kernel
theorem dX9_isHand_12 : decode cX9_isHand 12 = .ok (.invokestatic 125, 3) := by decide +kernel
theorem dX9_isHand_15 : decode cX9_isHand 15 = .ok (.ireturn, 1) := by decide +kernel
theorem dX9_isSecond_0 : decode cX9_isSecond 0 = .ok (.lload_n 1, 1) := by decide +kernel
theorem dX9_isSecond_1 : decode cX9_isSecond 1 = .ok (.lconst 0, 1) := by decide +kernel
theorem dX9_isSecond_2 : decode cX9_isSecond 2 = .ok (.aload_n 0, 1) := by decide +kernel
theorem dX9_isSecond_3 : decode cX9_isSecond 3 = .ok (.invokevirtual 129, 3) := by decide +kernel
theorem dX9_isSecond_6 : decode cX9_isSecond 6 = .ok (.i2l, 1) := by decide +kernel
theorem dX9_isSecond_7 : decode cX9_isSecond 7 = .ok (.invokestatic 125, 3) := by decide +kernel
theorem dX9_isSecond_10 : decode cX9_isSecond 10 = .ok (.ireturn, 1) := by decide +kernel
theorem dX9_isSet_0 : decode cX9_isSet 0 = .ok (.aload_n 0, 1) := by decide +kernel
theorem dX9_isSet_1 : decode cX9_isSet 1 = .ok (.invokevirtual 301, 3) := by decide +kernel
theorem dX9_isSet_4 : decode cX9_isSet 4 = .ok (.ifCond .eq 21, 3) := by decide +kernel
theorem dX9_isSet_25 : decode cX9_isSet 25 = .ok (.iconst 0, 1) := by decide +kernel
theorem dX9_isSet_26 : decode cX9_isSet 26 = .ok (.ireturn, 1) := by decide +kernel
theorem dX9_isSlips_0 : decode cX9_isSlips 0 = .ok (.aload_n 0, 1) := by decide +kernel
theorem dX9_isSlips_1 : decode cX9_isSlips 1 = .ok (.iload_n 1, 1) := by decide +kernel
theorem dX9_isSlips_2 : decode cX9_isSlips 2 = .ok (.i2l, 1) := by decide +kernel
theorem dX9_isSlips_3 : decode cX9_isSlips 3 = .ok (.invokevirtual 310, 3) := by decide +kernel
theorem dX9_isSlips_6 : decode cX9_isSlips 6 = .ok (.ifCond .eq 29, 3) := by decide +kernel
theorem dX9_isSlips_35 : decode cX9_isSlips 35 = .ok (.iconst 0, 1) := by decide +kernel
theorem dX9_isSlips_36 : decode cX9_isSlips 36 = .ok (.ireturn, 1) := by decide +kernel
theorem dX9_isSlot_0 : decode cX9_isSlot 0 = .ok (.iload_n 0, 1) := by decide +kernel
theorem dX9_isSlot_1 : decode cX9_isSlot 1 = .ok (.i2l, 1) := by decide +kernel
theorem dX9_isSlot_2 : decode cX9_isSlot 2 = .ok (.lconst 0, 1) := by decide +kernel
theorem dX9_isSlot_3 : decode cX9_isSlot 3 = .ok (.ldc2_w 529, 3) := by decide +kernel
theorem dX9_isSlot_6 : decode cX9_isSlot 6 = .ok (.invokestatic 125, 3) := by decide +kernel
theorem dX9_isSlot_9 : decode cX9_isSlot 9 = .ok (.ireturn, 1) := by decide +kernel
theorem dX9_keeps_0 : decode cX9_keeps 0 = .ok (.aload_n 0, 1) := by decide +kernel
theorem dX9_keeps_1 : decode cX9_keeps 1 = .ok (.invokevirtual 298, 3) := by decide +kernel
theorem dX9_keeps_4 : decode cX9_keeps 4 = .ok (.iload_n 1, 1) := by decide +kernel
theorem dX9_keeps_5 : decode cX9_keeps 5 = .ok (.i2l, 1) := by decide +kernel
theorem dX9_keeps_6 : decode cX9_keeps 6 = .ok (.lconst 0, 1) := by decide +kernel
theorem dX9_keeps_7 : decode cX9_keeps 7 = .ok (.aload_n 0, 1) := by decide +kernel
theorem dX9_keeps_8 : decode cX9_keeps 8 = .ok (.getfield 9, 3) := by decide +kernel
theorem dX9_keeps_11 : decode cX9_keeps 11 = .ok (.bipush 6, 2) := by decide +kernel
theorem dX9_keeps_13 : decode cX9_keeps 13 = .ok (.iaload, 1) := by decide +kernel
theorem dX9_keeps_14 : decode cX9_keeps 14 = .ok (.iconst 1, 1) := by decide +kernel
theorem dX9_keeps_15 : decode cX9_keeps 15 = .ok (.isub, 1) := by decide +kernel
theorem dX9_keeps_16 : decode cX9_keeps 16 = .ok (.i2l, 1) := by decide +kernel
theorem dX9_keeps_17 : decode cX9_keeps 17 = .ok (.invokestatic 125, 3) := by decide +kernel
theorem dX9_keeps_20 : decode cX9_keeps 20 = .ok (.ifCond .eq 19, 3) := by decide +kernel
theorem dX9_keeps_39 : decode cX9_keeps 39 = .ok (.bipush (-2), 2) := by decide +kernel
theorem dX9_keeps_41 : decode cX9_keeps 41 = .ok (.ireturn, 1) := by decide +kernel
theorem dX9_kept_0 : decode cX9_kept 0 = .ok (.aload_n 0, 1) := by decide +kernel
theorem dX9_kept_1 : decode cX9_kept 1 = .ok (.invokevirtual 301, 3) := by decide +kernel
theorem dX9_kept_4 : decode cX9_kept 4 = .ok (.ifCond .ne 6, 3) := by decide +kernel
theorem dX9_kept_7 : decode cX9_kept 7 = .ok (.bipush (-2), 2) := by decide +kernel
theorem dX9_kept_9 : decode cX9_kept 9 = .ok (.ireturn, 1) := by decide +kernel
theorem dX9_last_0 : decode cX9_last 0 = .ok (.aload_n 0, 1) := by decide +kernel
theorem dX9_last_1 : decode cX9_last 1 = .ok (.getfield 9, 3) := by decide +kernel
theorem dX9_last_4 : decode cX9_last 4 = .ok (.iconst 0, 1) := by decide +kernel
theorem dX9_last_5 : decode cX9_last 5 = .ok (.iaload, 1) := by decide +kernel
theorem dX9_last_6 : decode cX9_last 6 = .ok (.iconst 1, 1) := by decide +kernel
theorem dX9_last_7 : decode cX9_last 7 = .ok (.isub, 1) := by decide +kernel
theorem dX9_last_8 : decode cX9_last 8 = .ok (.ireturn, 1) := by decide +kernel
theorem dX9_layFits_0 : decode cX9_layFits 0 = .ok (.iload_n 1, 1) := by decide +kernel
theorem dX9_layFits_1 : decode cX9_layFits 1 = .ok (.invokestatic 440, 3) := by decide +kernel
theorem dX9_layFits_4 : decode cX9_layFits 4 = .ok (.ifCond .eq 10, 3) := by decide +kernel
theorem dX9_layFits_7 : decode cX9_layFits 7 = .ok (.aload_n 0, 1) := by decide +kernel
theorem dX9_layFits_8 : decode cX9_layFits 8 = .ok (.invokevirtual 301, 3) := by decide +kernel
theorem dX9_layFits_11 : decode cX9_layFits 11 = .ok (.ifCond .ne 6, 3) := by decide +kernel
theorem dX9_layFits_14 : decode cX9_layFits 14 = .ok (.bipush (-2), 2) := by decide +kernel
theorem dX9_layFits_16 : decode cX9_layFits 16 = .ok (.ireturn, 1) := by decide +kernel
theorem dX9_lazy_0 : decode cX9_lazy 0 = .ok (.aload_n 0, 1) := by decide +kernel
theorem dX9_lazy_1 : decode cX9_lazy 1 = .ok (.invokevirtual 307, 3) := by decide +kernel
theorem dX9_lazy_4 : decode cX9_lazy 4 = .ok (.ifCond .ne 6, 3) := by decide +kernel
theorem dX9_lazy_7 : decode cX9_lazy 7 = .ok (.bipush (-2), 2) := by decide +kernel
theorem dX9_lazy_9 : decode cX9_lazy 9 = .ok (.ireturn, 1) := by decide +kernel
theorem dX9_leaves_0 : decode cX9_leaves 0 = .ok (.aload_n 0, 1) := by decide +kernel
theorem dX9_leaves_1 : decode cX9_leaves 1 = .ok (.iload_n 1, 1) := by decide +kernel
theorem dX9_leaves_2 : decode cX9_leaves 2 = .ok (.invokevirtual 451, 3) := by decide +kernel
theorem dX9_leaves_5 : decode cX9_leaves 5 = .ok (.istore_n 2, 1) := by decide +kernel
theorem dX9_leaves_6 : decode cX9_leaves 6 = .ok (.iload_n 2, 1) := by decide +kernel
theorem dX9_leaves_7 : decode cX9_leaves 7 = .ok (.ifCond .ge 5, 3) := by decide +kernel
theorem dX9_leaves_10 : decode cX9_leaves 10 = .ok (.iload_n 2, 1) := by decide +kernel
theorem dX9_leaves_11 : decode cX9_leaves 11 = .ok (.ireturn, 1) := by decide +kernel
theorem dX9_left_0 : decode cX9_left 0 = .ok (.aload_n 0, 1) := by decide +kernel
theorem dX9_left_1 : decode cX9_left 1 = .ok (.iload_n 1, 1) := by decide +kernel
theorem dX9_left_2 : decode cX9_left 2 = .ok (.invokevirtual 318, 3) := by decide +kernel
theorem dX9_left_5 : decode cX9_left 5 = .ok (.ifCond .ne 6, 3) := by decide +kernel
theorem dX9_left_8 : decode cX9_left 8 = .ok (.bipush (-2), 2) := by decide +kernel
theorem dX9_left_10 : decode cX9_left 10 = .ok (.ireturn, 1) := by decide +kernel
theorem dX9_let_0 : decode cX9_let 0 = .ok (.aload_n 0, 1) := by decide +kernel
theorem dX9_let_1 : decode cX9_let 1 = .ok (.invokevirtual 301, 3) := by decide +kernel
theorem dX9_let_4 : decode cX9_let 4 = .ok (.ifCond .eq 10, 3) := by decide +kernel
theorem dX9_let_14 : decode cX9_let 14 = .ok (.bipush (-2), 2) := by decide +kernel
theorem dX9_let_16 : decode cX9_let 16 = .ok (.ireturn, 1) := by decide +kernel
theorem dX9_lets_0 : decode cX9_lets 0 = .ok (.aload_n 0, 1) := by decide +kernel
theorem dX9_lets_1 : decode cX9_lets 1 = .ok (.invokevirtual 301, 3) := by decide +kernel
theorem dX9_lets_4 : decode cX9_lets 4 = .ok (.ifCond .eq 13, 3) := by decide +kernel
theorem dX9_lets_17 : decode cX9_lets 17 = .ok (.bipush (-2), 2) := by decide +kernel
theorem dX9_lets_19 : decode cX9_lets 19 = .ok (.ireturn, 1) := by decide +kernel
theorem dX9_loses_0 : decode cX9_loses 0 = .ok (.aload_n 0, 1) := by decide +kernel
theorem dX9_loses_1 : decode cX9_loses 1 = .ok (.iload_n 1, 1) := by decide +kernel
theorem dX9_loses_2 : decode cX9_loses 2 = .ok (.invokevirtual 327, 3) := by decide +kernel
theorem dX9_loses_5 : decode cX9_loses 5 = .ok (.ifCond .eq 12, 3) := by decide +kernel
theorem dX9_loses_17 : decode cX9_loses 17 = .ok (.bipush (-2), 2) := by decide +kernel
theorem dX9_loses_19 : decode cX9_loses 19 = .ok (.ireturn, 1) := by decide +kernel
theorem dX9_luck_0 : decode cX9_luck 0 = .ok (.aload_n 0, 1) := by decide +kernel
theorem dX9_luck_1 : decode cX9_luck 1 = .ok (.invokevirtual 301, 3) := by decide +kernel
theorem dX9_luck_4 : decode cX9_luck 4 = .ok (.ifCond .eq 22, 3) := by decide +kernel
theorem dX9_luck_26 : decode cX9_luck 26 = .ok (.bipush (-2), 2) := by decide +kernel
theorem dX9_luck_28 : decode cX9_luck 28 = .ok (.ireturn, 1) := by decide +kernel
theorem dX9_may_0 : decode cX9_may 0 = .ok (.aload_n 0, 1) := by decide +kernel
theorem dX9_may_1 : decode cX9_may 1 = .ok (.iload_n 2, 1) := by decide +kernel
theorem dX9_may_2 : decode cX9_may 2 = .ok (.invokevirtual 314, 3) := by decide +kernel
theorem dX9_may_5 : decode cX9_may 5 = .ok (.ifCond .ne 6, 3) := by decide +kernel
theorem dX9_may_8 : decode cX9_may 8 = .ok (.bipush (-2), 2) := by decide +kernel
theorem dX9_may_10 : decode cX9_may 10 = .ok (.ireturn, 1) := by decide +kernel
theorem dX9_mean_0 : decode cX9_mean 0 = .ok (.aload_n 0, 1) := by decide +kernel
theorem dX9_mean_1 : decode cX9_mean 1 = .ok (.iload_n 1, 1) := by decide +kernel
theorem dX9_mean_2 : decode cX9_mean 2 = .ok (.iload_n 2, 1) := by decide +kernel
theorem dX9_mean_3 : decode cX9_mean 3 = .ok (.invokevirtual 491, 3) := by decide +kernel
theorem dX9_mean_6 : decode cX9_mean 6 = .ok (.ifCond .ne 7, 3) := by decide +kernel
theorem dX9_mean_9 : decode cX9_mean 9 = .ok (.ldc2_w 496, 3) := by decide +kernel
theorem dX9_mean_12 : decode cX9_mean 12 = .ok (.lreturn, 1) := by decide +kernel
theorem dX9_orders_0 : decode cX9_orders 0 = .ok (.aload_n 0, 1) := by decide +kernel
theorem dX9_orders_1 : decode cX9_orders 1 = .ok (.invokevirtual 427, 3) := by decide +kernel
theorem dX9_orders_4 : decode cX9_orders 4 = .ok (.ifCond .eq 10, 3) := by decide +kernel
theorem dX9_orders_14 : decode cX9_orders 14 = .ok (.bipush (-2), 2) := by decide +kernel
theorem dX9_orders_16 : decode cX9_orders 16 = .ok (.ireturn, 1) := by decide +kernel
theorem dX9_out_0 : decode cX9_out 0 = .ok (.aload_n 0, 1) := by decide +kernel
theorem dX9_out_1 : decode cX9_out 1 = .ok (.invokevirtual 307, 3) := by decide +kernel
theorem dX9_out_4 : decode cX9_out 4 = .ok (.ifCond .eq 17, 3) := by decide +kernel
theorem dX9_out_21 : decode cX9_out 21 = .ok (.bipush (-2), 2) := by decide +kernel
theorem dX9_out_23 : decode cX9_out 23 = .ok (.ireturn, 1) := by decide +kernel
theorem dX9_paces_0 : decode cX9_paces 0 = .ok (.aload_n 0, 1) := by decide +kernel
