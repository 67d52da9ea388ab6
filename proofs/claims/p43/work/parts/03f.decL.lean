theorem dL_sees_53 : decode cL_sees 53 = .ok (.iconst 2, 1) := by decide +kernel
theorem dL_sees_54 : decode cL_sees 54 = .ok (.if_icmp .gt 7, 3) := by decide +kernel
theorem dL_sees_57 : decode cL_sees 57 = .ok (.iconst 0, 1) := by decide +kernel
theorem dL_sees_58 : decode cL_sees 58 = .ok (.goto 24, 3) := by decide +kernel
theorem dL_sees_61 : decode cL_sees 61 = .ok (.iload 6, 2) := by decide +kernel
theorem dL_sees_63 : decode cL_sees 63 = .ok (.ifCond .ge 7, 3) := by decide +kernel
theorem dL_sees_66 : decode cL_sees 66 = .ok (.iconst 0, 1) := by decide +kernel
theorem dL_sees_67 : decode cL_sees 67 = .ok (.goto 15, 3) := by decide +kernel
theorem dL_sees_70 : decode cL_sees 70 = .ok (.iload 6, 2) := by decide +kernel
theorem dL_sees_72 : decode cL_sees 72 = .ok (.iconst 5, 1) := by decide +kernel
theorem dL_sees_73 : decode cL_sees 73 = .ok (.if_icmp .le 7, 3) := by decide +kernel
theorem dL_sees_76 : decode cL_sees 76 = .ok (.iconst 5, 1) := by decide +kernel
theorem dL_sees_77 : decode cL_sees 77 = .ok (.goto 5, 3) := by decide +kernel
theorem dL_sees_80 : decode cL_sees 80 = .ok (.iload 6, 2) := by decide +kernel
theorem dL_sees_82 : decode cL_sees 82 = .ok (.ireturn, 1) := by decide +kernel
theorem dL_reading_0 : decode cL_reading 0 = .ok (.iconst (-1), 1) := by decide +kernel
theorem dL_reading_1 : decode cL_reading 1 = .ok (.istore 4, 2) := by decide +kernel
theorem dL_reading_3 : decode cL_reading 3 = .ok (.iconst 0, 1) := by decide +kernel
theorem dL_reading_4 : decode cL_reading 4 = .ok (.istore 5, 2) := by decide +kernel
theorem dL_reading_6 : decode cL_reading 6 = .ok (.iload 5, 2) := by decide +kernel
theorem dL_reading_8 : decode cL_reading 8 = .ok (.iconst 3, 1) := by decide +kernel
theorem dL_reading_9 : decode cL_reading 9 = .ok (.if_icmp .ge 51, 3) := by decide +kernel
theorem dL_reading_12 : decode cL_reading 12 = .ok (.aload_n 3, 1) := by decide +kernel
theorem dL_reading_13 : decode cL_reading 13 = .ok (.bipush 6, 2) := by decide +kernel
theorem dL_reading_15 : decode cL_reading 15 = .ok (.iload 5, 2) := by decide +kernel
theorem dL_reading_17 : decode cL_reading 17 = .ok (.iadd, 1) := by decide +kernel
theorem dL_reading_18 : decode cL_reading 18 = .ok (.iaload, 1) := by decide +kernel
theorem dL_reading_19 : decode cL_reading 19 = .ok (.iload_n 0, 1) := by decide +kernel
theorem dL_reading_20 : decode cL_reading 20 = .ok (.if_icmp .ne 15, 3) := by decide +kernel
theorem dL_reading_23 : decode cL_reading 23 = .ok (.iload 5, 2) := by decide +kernel
theorem dL_reading_25 : decode cL_reading 25 = .ok (.iload_n 0, 1) := by decide +kernel
theorem dL_reading_26 : decode cL_reading 26 = .ok (.aload_n 1, 1) := by decide +kernel
theorem dL_reading_27 : decode cL_reading 27 = .ok (.aload_n 2, 1) := by decide +kernel
theorem dL_reading_28 : decode cL_reading 28 = .ok (.aload_n 3, 1) := by decide +kernel
theorem dL_reading_29 : decode cL_reading 29 = .ok (.invokestatic 110, 3) := by decide +kernel
theorem dL_reading_32 : decode cL_reading 32 = .ok (.goto 4, 3) := by decide +kernel
theorem dL_reading_35 : decode cL_reading 35 = .ok (.iconst (-1), 1) := by decide +kernel
theorem dL_reading_36 : decode cL_reading 36 = .ok (.istore 6, 2) := by decide +kernel
theorem dL_reading_38 : decode cL_reading 38 = .ok (.iload 6, 2) := by decide +kernel
theorem dL_reading_40 : decode cL_reading 40 = .ok (.iload 4, 2) := by decide +kernel
theorem dL_reading_42 : decode cL_reading 42 = .ok (.if_icmp .le 8, 3) := by decide +kernel
theorem dL_reading_45 : decode cL_reading 45 = .ok (.iload 6, 2) := by decide +kernel
theorem dL_reading_47 : decode cL_reading 47 = .ok (.goto 5, 3) := by decide +kernel
theorem dL_reading_50 : decode cL_reading 50 = .ok (.iload 4, 2) := by decide +kernel
theorem dL_reading_52 : decode cL_reading 52 = .ok (.istore 4, 2) := by decide +kernel
theorem dL_reading_54 : decode cL_reading 54 = .ok (.iinc 5 1, 3) := by decide +kernel
theorem dL_reading_57 : decode cL_reading 57 = .ok (.goto (-51), 3) := by decide +kernel
theorem dL_reading_60 : decode cL_reading 60 = .ok (.iload 4, 2) := by decide +kernel
theorem dL_reading_62 : decode cL_reading 62 = .ok (.ireturn, 1) := by decide +kernel
theorem dL_why_0 : decode cL_why 0 = .ok (.iconst 0, 1) := by decide +kernel
theorem dL_why_1 : decode cL_why 1 = .ok (.istore 4, 2) := by decide +kernel
theorem dL_why_3 : decode cL_why 3 = .ok (.iconst 0, 1) := by decide +kernel
theorem dL_why_4 : decode cL_why 4 = .ok (.istore 5, 2) := by decide +kernel
theorem dL_why_6 : decode cL_why 6 = .ok (.iconst 0, 1) := by decide +kernel
theorem dL_why_7 : decode cL_why 7 = .ok (.istore 6, 2) := by decide +kernel
theorem dL_why_9 : decode cL_why 9 = .ok (.iload 6, 2) := by decide +kernel
theorem dL_why_11 : decode cL_why 11 = .ok (.aload_n 2, 1) := by decide +kernel
theorem dL_why_12 : decode cL_why 12 = .ok (.bipush 16, 2) := by decide +kernel
theorem dL_why_14 : decode cL_why 14 = .ok (.iaload, 1) := by decide +kernel
theorem dL_why_15 : decode cL_why 15 = .ok (.if_icmp .ge 75, 3) := by decide +kernel
theorem dL_why_18 : decode cL_why 18 = .ok (.aload_n 2, 1) := by decide +kernel
theorem dL_why_19 : decode cL_why 19 = .ok (.bipush 18, 2) := by decide +kernel
theorem dL_why_21 : decode cL_why 21 = .ok (.iaload, 1) := by decide +kernel
theorem dL_why_22 : decode cL_why 22 = .ok (.bipush 8, 2) := by decide +kernel
theorem dL_why_24 : decode cL_why 24 = .ok (.iadd, 1) := by decide +kernel
theorem dL_why_25 : decode cL_why 25 = .ok (.iload 6, 2) := by decide +kernel
theorem dL_why_27 : decode cL_why 27 = .ok (.isub, 1) := by decide +kernel
theorem dL_why_28 : decode cL_why 28 = .ok (.bipush 8, 2) := by decide +kernel
theorem dL_why_30 : decode cL_why 30 = .ok (.irem, 1) := by decide +kernel
theorem dL_why_31 : decode cL_why 31 = .ok (.istore 7, 2) := by decide +kernel
theorem dL_why_33 : decode cL_why 33 = .ok (.iload 4, 2) := by decide +kernel
theorem dL_why_35 : decode cL_why 35 = .ok (.ifCond .ne 14, 3) := by decide +kernel
theorem dL_why_38 : decode cL_why 38 = .ok (.aload_n 1, 1) := by decide +kernel
theorem dL_why_39 : decode cL_why 39 = .ok (.bipush 24, 2) := by decide +kernel
theorem dL_why_41 : decode cL_why 41 = .ok (.iload 7, 2) := by decide +kernel
theorem dL_why_43 : decode cL_why 43 = .ok (.iadd, 1) := by decide +kernel
theorem dL_why_44 : decode cL_why 44 = .ok (.iaload, 1) := by decide +kernel
theorem dL_why_45 : decode cL_why 45 = .ok (.iconst 3, 1) := by decide +kernel
theorem dL_why_46 : decode cL_why 46 = .ok (.if_icmp .lt 7, 3) := by decide +kernel
theorem dL_why_49 : decode cL_why 49 = .ok (.iconst 1, 1) := by decide +kernel
theorem dL_why_50 : decode cL_why 50 = .ok (.goto 4, 3) := by decide +kernel
theorem dL_why_53 : decode cL_why 53 = .ok (.iconst 0, 1) := by decide +kernel
theorem dL_why_54 : decode cL_why 54 = .ok (.istore 4, 2) := by decide +kernel
theorem dL_why_56 : decode cL_why 56 = .ok (.iload 5, 2) := by decide +kernel
theorem dL_why_58 : decode cL_why 58 = .ok (.ifCond .ne 19, 3) := by decide +kernel
theorem dL_why_61 : decode cL_why 61 = .ok (.aload_n 3, 1) := by decide +kernel
theorem dL_why_62 : decode cL_why 62 = .ok (.bipush 8, 2) := by decide +kernel
theorem dL_why_64 : decode cL_why 64 = .ok (.iload_n 0, 1) := by decide +kernel
theorem dL_why_65 : decode cL_why 65 = .ok (.imul, 1) := by decide +kernel
theorem dL_why_66 : decode cL_why 66 = .ok (.iload 7, 2) := by decide +kernel
theorem dL_why_68 : decode cL_why 68 = .ok (.iadd, 1) := by decide +kernel
theorem dL_why_69 : decode cL_why 69 = .ok (.iaload, 1) := by decide +kernel
theorem dL_why_70 : decode cL_why 70 = .ok (.aload_n 2, 1) := by decide +kernel
theorem dL_why_71 : decode cL_why 71 = .ok (.bipush 15, 2) := by decide +kernel
theorem dL_why_73 : decode cL_why 73 = .ok (.iaload, 1) := by decide +kernel
theorem dL_why_74 : decode cL_why 74 = .ok (.if_icmp .ge 7, 3) := by decide +kernel
theorem dL_why_77 : decode cL_why 77 = .ok (.iconst 1, 1) := by decide +kernel
theorem dL_why_78 : decode cL_why 78 = .ok (.goto 4, 3) := by decide +kernel
theorem dL_why_81 : decode cL_why 81 = .ok (.iconst 0, 1) := by decide +kernel
theorem dL_why_82 : decode cL_why 82 = .ok (.istore 5, 2) := by decide +kernel
theorem dL_why_84 : decode cL_why 84 = .ok (.iinc 6 1, 3) := by decide +kernel
theorem dL_why_87 : decode cL_why 87 = .ok (.goto (-78), 3) := by decide +kernel
theorem dL_why_90 : decode cL_why 90 = .ok (.iload 4, 2) := by decide +kernel
theorem dL_why_92 : decode cL_why 92 = .ok (.ifCond .eq 7, 3) := by decide +kernel
theorem dL_why_95 : decode cL_why 95 = .ok (.iconst 0, 1) := by decide +kernel
theorem dL_why_96 : decode cL_why 96 = .ok (.goto 13, 3) := by decide +kernel
theorem dL_why_99 : decode cL_why 99 = .ok (.iload 5, 2) := by decide +kernel
theorem dL_why_101 : decode cL_why 101 = .ok (.ifCond .eq 7, 3) := by decide +kernel
theorem dL_why_104 : decode cL_why 104 = .ok (.iconst 1, 1) := by decide +kernel
theorem dL_why_105 : decode cL_why 105 = .ok (.goto 4, 3) := by decide +kernel
theorem dL_why_108 : decode cL_why 108 = .ok (.iconst 2, 1) := by decide +kernel
theorem dL_why_109 : decode cL_why 109 = .ok (.ireturn, 1) := by decide +kernel
theorem dL_stand_0 : decode cL_stand 0 = .ok (.iconst 0, 1) := by decide +kernel
theorem dL_stand_1 : decode cL_stand 1 = .ok (.istore_n 3, 1) := by decide +kernel
theorem dL_stand_2 : decode cL_stand 2 = .ok (.iconst 0, 1) := by decide +kernel
theorem dL_stand_3 : decode cL_stand 3 = .ok (.istore 4, 2) := by decide +kernel
theorem dL_stand_5 : decode cL_stand 5 = .ok (.iload 4, 2) := by decide +kernel
theorem dL_stand_7 : decode cL_stand 7 = .ok (.aload_n 1, 1) := by decide +kernel
theorem dL_stand_8 : decode cL_stand 8 = .ok (.bipush 19, 2) := by decide +kernel
theorem dL_stand_10 : decode cL_stand 10 = .ok (.iaload, 1) := by decide +kernel
theorem dL_stand_11 : decode cL_stand 11 = .ok (.if_icmp .ge 41, 3) := by decide +kernel
theorem dL_stand_14 : decode cL_stand 14 = .ok (.iload_n 3, 1) := by decide +kernel
theorem dL_stand_15 : decode cL_stand 15 = .ok (.aload_n 2, 1) := by decide +kernel
theorem dL_stand_16 : decode cL_stand 16 = .ok (.iload 4, 2) := by decide +kernel
theorem dL_stand_18 : decode cL_stand 18 = .ok (.iaload, 1) := by decide +kernel
theorem dL_stand_19 : decode cL_stand 19 = .ok (.bipush 7, 2) := by decide +kernel
theorem dL_stand_21 : decode cL_stand 21 = .ok (.iand, 1) := by decide +kernel
theorem dL_stand_22 : decode cL_stand 22 = .ok (.iload_n 0, 1) := by decide +kernel
theorem dL_stand_23 : decode cL_stand 23 = .ok (.if_icmp .ne 20, 3) := by decide +kernel
theorem dL_stand_26 : decode cL_stand 26 = .ok (.aload_n 2, 1) := by decide +kernel
theorem dL_stand_27 : decode cL_stand 27 = .ok (.iload 4, 2) := by decide +kernel
theorem dL_stand_29 : decode cL_stand 29 = .ok (.iaload, 1) := by decide +kernel
theorem dL_stand_30 : decode cL_stand 30 = .ok (.bipush 8, 2) := by decide +kernel
theorem dL_stand_32 : decode cL_stand 32 = .ok (.ishr, 1) := by decide +kernel
theorem dL_stand_33 : decode cL_stand 33 = .ok (.iconst 3, 1) := by decide +kernel
theorem dL_stand_34 : decode cL_stand 34 = .ok (.iand, 1) := by decide +kernel
theorem dL_stand_35 : decode cL_stand 35 = .ok (.iconst 2, 1) := by decide +kernel
theorem dL_stand_36 : decode cL_stand 36 = .ok (.if_icmp .ge 7, 3) := by decide +kernel
theorem dL_stand_39 : decode cL_stand 39 = .ok (.iconst 1, 1) := by decide +kernel
theorem dL_stand_40 : decode cL_stand 40 = .ok (.goto 4, 3) := by decide +kernel
theorem dL_stand_43 : decode cL_stand 43 = .ok (.iconst 0, 1) := by decide +kernel
theorem dL_stand_44 : decode cL_stand 44 = .ok (.iadd, 1) := by decide +kernel
theorem dL_stand_45 : decode cL_stand 45 = .ok (.istore_n 3, 1) := by decide +kernel
theorem dL_stand_46 : decode cL_stand 46 = .ok (.iinc 4 1, 3) := by decide +kernel
theorem dL_stand_49 : decode cL_stand 49 = .ok (.goto (-44), 3) := by decide +kernel
theorem dL_stand_52 : decode cL_stand 52 = .ok (.iload_n 3, 1) := by decide +kernel
theorem dL_stand_53 : decode cL_stand 53 = .ok (.ireturn, 1) := by decide +kernel
theorem dL_tick_0 : decode cL_tick 0 = .ok (.aload_n 1, 1) := by decide +kernel
theorem dL_tick_1 : decode cL_tick 1 = .ok (.bipush 24, 2) := by decide +kernel
theorem dL_tick_3 : decode cL_tick 3 = .ok (.aload_n 2, 1) := by decide +kernel
theorem dL_tick_4 : decode cL_tick 4 = .ok (.bipush 18, 2) := by decide +kernel
theorem dL_tick_6 : decode cL_tick 6 = .ok (.iaload, 1) := by decide +kernel
theorem dL_tick_7 : decode cL_tick 7 = .ok (.bipush 8, 2) := by decide +kernel
theorem dL_tick_9 : decode cL_tick 9 = .ok (.irem, 1) := by decide +kernel
theorem dL_tick_10 : decode cL_tick 10 = .ok (.iadd, 1) := by decide +kernel
theorem dL_tick_11 : decode cL_tick 11 = .ok (.aload_n 1, 1) := by decide +kernel
theorem dL_tick_12 : decode cL_tick 12 = .ok (.aload_n 2, 1) := by decide +kernel
theorem dL_tick_13 : decode cL_tick 13 = .ok (.bipush 18, 2) := by decide +kernel
theorem dL_tick_15 : decode cL_tick 15 = .ok (.iaload, 1) := by decide +kernel
theorem dL_tick_16 : decode cL_tick 16 = .ok (.iconst 4, 1) := by decide +kernel
theorem dL_tick_17 : decode cL_tick 17 = .ok (.idiv, 1) := by decide +kernel
theorem dL_tick_18 : decode cL_tick 18 = .ok (.iaload, 1) := by decide +kernel
theorem dL_tick_19 : decode cL_tick 19 = .ok (.iastore, 1) := by decide +kernel
theorem dL_tick_20 : decode cL_tick 20 = .ok (.iconst 0, 1) := by decide +kernel
theorem dL_tick_21 : decode cL_tick 21 = .ok (.istore 6, 2) := by decide +kernel
theorem dL_tick_23 : decode cL_tick 23 = .ok (.iload 6, 2) := by decide +kernel
theorem dL_tick_25 : decode cL_tick 25 = .ok (.bipush 8, 2) := by decide +kernel
theorem dL_tick_27 : decode cL_tick 27 = .ok (.if_icmp .ge 161, 3) := by decide +kernel
theorem dL_tick_30 : decode cL_tick 30 = .ok (.iload 6, 2) := by decide +kernel
theorem dL_tick_32 : decode cL_tick 32 = .ok (.aload_n 0, 1) := by decide +kernel
theorem dL_tick_33 : decode cL_tick 33 = .ok (.aload_n 1, 1) := by decide +kernel
theorem dL_tick_34 : decode cL_tick 34 = .ok (.aload_n 2, 1) := by decide +kernel
theorem dL_tick_35 : decode cL_tick 35 = .ok (.invokestatic 114, 3) := by decide +kernel
theorem dL_tick_38 : decode cL_tick 38 = .ok (.istore 7, 2) := by decide +kernel
theorem dL_tick_40 : decode cL_tick 40 = .ok (.aload_n 3, 1) := by decide +kernel
theorem dL_tick_41 : decode cL_tick 41 = .ok (.bipush 8, 2) := by decide +kernel
theorem dL_tick_43 : decode cL_tick 43 = .ok (.iload 6, 2) := by decide +kernel
theorem dL_tick_45 : decode cL_tick 45 = .ok (.imul, 1) := by decide +kernel
theorem dL_tick_46 : decode cL_tick 46 = .ok (.aload_n 2, 1) := by decide +kernel
theorem dL_tick_47 : decode cL_tick 47 = .ok (.bipush 18, 2) := by decide +kernel
theorem dL_tick_49 : decode cL_tick 49 = .ok (.iaload, 1) := by decide +kernel
theorem dL_tick_50 : decode cL_tick 50 = .ok (.bipush 8, 2) := by decide +kernel
theorem dL_tick_52 : decode cL_tick 52 = .ok (.irem, 1) := by decide +kernel
theorem dL_tick_53 : decode cL_tick 53 = .ok (.iadd, 1) := by decide +kernel
theorem dL_tick_54 : decode cL_tick 54 = .ok (.iload 6, 2) := by decide +kernel
theorem dL_tick_56 : decode cL_tick 56 = .ok (.aload_n 2, 1) := by decide +kernel
theorem dL_tick_57 : decode cL_tick 57 = .ok (.bipush 18, 2) := by decide +kernel
theorem dL_tick_59 : decode cL_tick 59 = .ok (.iaload, 1) := by decide +kernel
theorem dL_tick_60 : decode cL_tick 60 = .ok (.aload_n 0, 1) := by decide +kernel
theorem dL_tick_61 : decode cL_tick 61 = .ok (.invokestatic 104, 3) := by decide +kernel
theorem dL_tick_64 : decode cL_tick 64 = .ok (.iastore, 1) := by decide +kernel
theorem dL_tick_65 : decode cL_tick 65 = .ok (.iconst 0, 1) := by decide +kernel
theorem dL_tick_66 : decode cL_tick 66 = .ok (.istore 8, 2) := by decide +kernel
theorem dL_tick_68 : decode cL_tick 68 = .ok (.iload 8, 2) := by decide +kernel
theorem dL_tick_70 : decode cL_tick 70 = .ok (.bipush 6, 2) := by decide +kernel
theorem dL_tick_72 : decode cL_tick 72 = .ok (.if_icmp .ge 110, 3) := by decide +kernel
theorem dL_tick_75 : decode cL_tick 75 = .ok (.aload 4, 2) := by decide +kernel
theorem dL_tick_77 : decode cL_tick 77 = .ok (.bipush 6, 2) := by decide +kernel
theorem dL_tick_79 : decode cL_tick 79 = .ok (.iload 6, 2) := by decide +kernel
theorem dL_tick_81 : decode cL_tick 81 = .ok (.imul, 1) := by decide +kernel
theorem dL_tick_82 : decode cL_tick 82 = .ok (.iload 8, 2) := by decide +kernel
theorem dL_tick_84 : decode cL_tick 84 = .ok (.iadd, 1) := by decide +kernel
theorem dL_tick_85 : decode cL_tick 85 = .ok (.iaload, 1) := by decide +kernel
theorem dL_tick_86 : decode cL_tick 86 = .ok (.istore 9, 2) := by decide +kernel
theorem dL_tick_88 : decode cL_tick 88 = .ok (.iload 7, 2) := by decide +kernel
theorem dL_tick_90 : decode cL_tick 90 = .ok (.iload 8, 2) := by decide +kernel
theorem dL_tick_92 : decode cL_tick 92 = .ok (.if_icmp .lt 13, 3) := by decide +kernel
theorem dL_tick_95 : decode cL_tick 95 = .ok (.iload 9, 2) := by decide +kernel
theorem dL_tick_97 : decode cL_tick 97 = .ok (.bipush 127, 2) := by decide +kernel
theorem dL_tick_99 : decode cL_tick 99 = .ok (.iand, 1) := by decide +kernel
theorem dL_tick_100 : decode cL_tick 100 = .ok (.iconst 1, 1) := by decide +kernel
theorem dL_tick_101 : decode cL_tick 101 = .ok (.iadd, 1) := by decide +kernel
theorem dL_tick_102 : decode cL_tick 102 = .ok (.goto 4, 3) := by decide +kernel
theorem dL_tick_105 : decode cL_tick 105 = .ok (.iconst 0, 1) := by decide +kernel
theorem dL_tick_106 : decode cL_tick 106 = .ok (.istore 10, 2) := by decide +kernel
theorem dL_tick_108 : decode cL_tick 108 = .ok (.iload 9, 2) := by decide +kernel
theorem dL_tick_110 : decode cL_tick 110 = .ok (.bipush 14, 2) := by decide +kernel
theorem dL_tick_112 : decode cL_tick 112 = .ok (.ishr, 1) := by decide +kernel
theorem dL_tick_113 : decode cL_tick 113 = .ok (.iload 10, 2) := by decide +kernel
theorem dL_tick_115 : decode cL_tick 115 = .ok (.if_icmp .le 11, 3) := by decide +kernel
theorem dL_tick_118 : decode cL_tick 118 = .ok (.iload 9, 2) := by decide +kernel
theorem dL_tick_120 : decode cL_tick 120 = .ok (.bipush 14, 2) := by decide +kernel
theorem dL_tick_122 : decode cL_tick 122 = .ok (.ishr, 1) := by decide +kernel
theorem dL_tick_123 : decode cL_tick 123 = .ok (.goto 5, 3) := by decide +kernel
theorem dL_tick_126 : decode cL_tick 126 = .ok (.iload 10, 2) := by decide +kernel
theorem dL_tick_128 : decode cL_tick 128 = .ok (.istore 11, 2) := by decide +kernel
theorem dL_tick_130 : decode cL_tick 130 = .ok (.aload 4, 2) := by decide +kernel
theorem dL_tick_132 : decode cL_tick 132 = .ok (.bipush 6, 2) := by decide +kernel
theorem dL_tick_134 : decode cL_tick 134 = .ok (.iload 6, 2) := by decide +kernel
theorem dL_tick_136 : decode cL_tick 136 = .ok (.imul, 1) := by decide +kernel
theorem dL_tick_137 : decode cL_tick 137 = .ok (.iload 8, 2) := by decide +kernel
theorem dL_tick_139 : decode cL_tick 139 = .ok (.iadd, 1) := by decide +kernel
theorem dL_tick_140 : decode cL_tick 140 = .ok (.iload 10, 2) := by decide +kernel
theorem dL_tick_142 : decode cL_tick 142 = .ok (.sipush 128, 3) := by decide +kernel
theorem dL_tick_145 : decode cL_tick 145 = .ok (.iload 9, 2) := by decide +kernel
theorem dL_tick_147 : decode cL_tick 147 = .ok (.bipush 7, 2) := by decide +kernel
theorem dL_tick_149 : decode cL_tick 149 = .ok (.ishr, 1) := by decide +kernel
theorem dL_tick_150 : decode cL_tick 150 = .ok (.bipush 127, 2) := by decide +kernel
theorem dL_tick_152 : decode cL_tick 152 = .ok (.iand, 1) := by decide +kernel
theorem dL_tick_153 : decode cL_tick 153 = .ok (.iload 7, 2) := by decide +kernel
theorem dL_tick_155 : decode cL_tick 155 = .ok (.iload 8, 2) := by decide +kernel
theorem dL_tick_157 : decode cL_tick 157 = .ok (.if_icmp .lt 7, 3) := by decide +kernel
theorem dL_tick_160 : decode cL_tick 160 = .ok (.iconst 1, 1) := by decide +kernel
theorem dL_tick_161 : decode cL_tick 161 = .ok (.goto 4, 3) := by decide +kernel
theorem dL_tick_164 : decode cL_tick 164 = .ok (.iconst 0, 1) := by decide +kernel
theorem dL_tick_165 : decode cL_tick 165 = .ok (.iadd, 1) := by decide +kernel
theorem dL_tick_166 : decode cL_tick 166 = .ok (.imul, 1) := by decide +kernel
theorem dL_tick_167 : decode cL_tick 167 = .ok (.iadd, 1) := by decide +kernel
theorem dL_tick_168 : decode cL_tick 168 = .ok (.sipush 16384, 3) := by decide +kernel
theorem dL_tick_171 : decode cL_tick 171 = .ok (.iload 11, 2) := by decide +kernel
theorem dL_tick_173 : decode cL_tick 173 = .ok (.imul, 1) := by decide +kernel
theorem dL_tick_174 : decode cL_tick 174 = .ok (.iadd, 1) := by decide +kernel
theorem dL_tick_175 : decode cL_tick 175 = .ok (.iastore, 1) := by decide +kernel
theorem dL_tick_176 : decode cL_tick 176 = .ok (.iinc 8 1, 3) := by decide +kernel
theorem dL_tick_179 : decode cL_tick 179 = .ok (.goto (-111), 3) := by decide +kernel
theorem dL_tick_182 : decode cL_tick 182 = .ok (.iinc 6 1, 3) := by decide +kernel
theorem dL_tick_185 : decode cL_tick 185 = .ok (.goto (-162), 3) := by decide +kernel
theorem dL_tick_188 : decode cL_tick 188 = .ok (.iconst 0, 1) := by decide +kernel
theorem dL_tick_189 : decode cL_tick 189 = .ok (.istore 6, 2) := by decide +kernel
theorem dL_tick_191 : decode cL_tick 191 = .ok (.iload 6, 2) := by decide +kernel
theorem dL_tick_193 : decode cL_tick 193 = .ok (.iconst 3, 1) := by decide +kernel
theorem dL_tick_194 : decode cL_tick 194 = .ok (.if_icmp .ge 93, 3) := by decide +kernel
theorem dL_tick_197 : decode cL_tick 197 = .ok (.aload_n 2, 1) := by decide +kernel
theorem dL_tick_198 : decode cL_tick 198 = .ok (.bipush 6, 2) := by decide +kernel
theorem dL_tick_200 : decode cL_tick 200 = .ok (.iload 6, 2) := by decide +kernel
theorem dL_tick_202 : decode cL_tick 202 = .ok (.iadd, 1) := by decide +kernel
theorem dL_tick_203 : decode cL_tick 203 = .ok (.iaload, 1) := by decide +kernel
theorem dL_tick_204 : decode cL_tick 204 = .ok (.istore 7, 2) := by decide +kernel
theorem dL_tick_206 : decode cL_tick 206 = .ok (.iload 7, 2) := by decide +kernel
theorem dL_tick_208 : decode cL_tick 208 = .ok (.ifCond .ge 7, 3) := by decide +kernel
theorem dL_tick_211 : decode cL_tick 211 = .ok (.iconst 0, 1) := by decide +kernel
theorem dL_tick_212 : decode cL_tick 212 = .ok (.goto 24, 3) := by decide +kernel
theorem dL_tick_215 : decode cL_tick 215 = .ok (.iload 6, 2) := by decide +kernel
theorem dL_tick_217 : decode cL_tick 217 = .ok (.iload 7, 2) := by decide +kernel
theorem dL_tick_219 : decode cL_tick 219 = .ok (.aload_n 0, 1) := by decide +kernel
theorem dL_tick_220 : decode cL_tick 220 = .ok (.aload_n 1, 1) := by decide +kernel
theorem dL_tick_221 : decode cL_tick 221 = .ok (.aload_n 2, 1) := by decide +kernel
theorem dL_tick_222 : decode cL_tick 222 = .ok (.invokestatic 110, 3) := by decide +kernel
theorem dL_tick_225 : decode cL_tick 225 = .ok (.iload 7, 2) := by decide +kernel
theorem dL_tick_227 : decode cL_tick 227 = .ok (.aload_n 2, 1) := by decide +kernel
theorem dL_tick_228 : decode cL_tick 228 = .ok (.bipush 18, 2) := by decide +kernel
theorem dL_tick_230 : decode cL_tick 230 = .ok (.iaload, 1) := by decide +kernel
theorem dL_tick_231 : decode cL_tick 231 = .ok (.aload_n 0, 1) := by decide +kernel
theorem dL_tick_232 : decode cL_tick 232 = .ok (.invokestatic 104, 3) := by decide +kernel
theorem dL_tick_235 : decode cL_tick 235 = .ok (.isub, 1) := by decide +kernel
theorem dL_tick_236 : decode cL_tick 236 = .ok (.istore 8, 2) := by decide +kernel
theorem dL_tick_238 : decode cL_tick 238 = .ok (.aload_n 2, 1) := by decide +kernel
theorem dL_tick_239 : decode cL_tick 239 = .ok (.bipush 9, 2) := by decide +kernel
theorem dL_tick_241 : decode cL_tick 241 = .ok (.iload 6, 2) := by decide +kernel
theorem dL_tick_243 : decode cL_tick 243 = .ok (.iadd, 1) := by decide +kernel
theorem dL_tick_244 : decode cL_tick 244 = .ok (.dup2, 1) := by decide +kernel
theorem dL_tick_245 : decode cL_tick 245 = .ok (.iaload, 1) := by decide +kernel
theorem dL_tick_246 : decode cL_tick 246 = .ok (.iload 8, 2) := by decide +kernel
theorem dL_tick_248 : decode cL_tick 248 = .ok (.ifCond .ge 9, 3) := by decide +kernel
theorem dL_tick_251 : decode cL_tick 251 = .ok (.iload 8, 2) := by decide +kernel
theorem dL_tick_253 : decode cL_tick 253 = .ok (.ineg, 1) := by decide +kernel
theorem dL_tick_254 : decode cL_tick 254 = .ok (.goto 5, 3) := by decide +kernel
theorem dL_tick_257 : decode cL_tick 257 = .ok (.iload 8, 2) := by decide +kernel
theorem dL_tick_259 : decode cL_tick 259 = .ok (.iadd, 1) := by decide +kernel
theorem dL_tick_260 : decode cL_tick 260 = .ok (.iastore, 1) := by decide +kernel
theorem dL_tick_261 : decode cL_tick 261 = .ok (.aload_n 2, 1) := by decide +kernel
theorem dL_tick_262 : decode cL_tick 262 = .ok (.bipush 12, 2) := by decide +kernel
theorem dL_tick_264 : decode cL_tick 264 = .ok (.iload 6, 2) := by decide +kernel
theorem dL_tick_266 : decode cL_tick 266 = .ok (.iadd, 1) := by decide +kernel
theorem dL_tick_267 : decode cL_tick 267 = .ok (.dup2, 1) := by decide +kernel
theorem dL_tick_268 : decode cL_tick 268 = .ok (.iaload, 1) := by decide +kernel
theorem dL_tick_269 : decode cL_tick 269 = .ok (.iload 7, 2) := by decide +kernel
theorem dL_tick_271 : decode cL_tick 271 = .ok (.ifCond .ge 7, 3) := by decide +kernel
theorem dL_tick_274 : decode cL_tick 274 = .ok (.iconst 0, 1) := by decide +kernel
theorem dL_tick_275 : decode cL_tick 275 = .ok (.goto 4, 3) := by decide +kernel
theorem dL_tick_278 : decode cL_tick 278 = .ok (.iconst 1, 1) := by decide +kernel
theorem dL_tick_279 : decode cL_tick 279 = .ok (.iadd, 1) := by decide +kernel
theorem dL_tick_280 : decode cL_tick 280 = .ok (.iastore, 1) := by decide +kernel
theorem dL_tick_281 : decode cL_tick 281 = .ok (.iinc 6 1, 3) := by decide +kernel
theorem dL_tick_284 : decode cL_tick 284 = .ok (.goto (-93), 3) := by decide +kernel
theorem dL_tick_287 : decode cL_tick 287 = .ok (.iconst 0, 1) := by decide +kernel
theorem dL_tick_288 : decode cL_tick 288 = .ok (.istore 6, 2) := by decide +kernel
theorem dL_tick_290 : decode cL_tick 290 = .ok (.iload 6, 2) := by decide +kernel
theorem dL_tick_292 : decode cL_tick 292 = .ok (.iconst 3, 1) := by decide +kernel
theorem dL_tick_293 : decode cL_tick 293 = .ok (.if_icmp .ge 37, 3) := by decide +kernel
theorem dL_tick_296 : decode cL_tick 296 = .ok (.aload_n 2, 1) := by decide +kernel
theorem dL_tick_297 : decode cL_tick 297 = .ok (.iconst 3, 1) := by decide +kernel
theorem dL_tick_298 : decode cL_tick 298 = .ok (.iload 6, 2) := by decide +kernel
theorem dL_tick_300 : decode cL_tick 300 = .ok (.iadd, 1) := by decide +kernel
theorem dL_tick_301 : decode cL_tick 301 = .ok (.aload_n 2, 1) := by decide +kernel
theorem dL_tick_302 : decode cL_tick 302 = .ok (.bipush 6, 2) := by decide +kernel
theorem dL_tick_304 : decode cL_tick 304 = .ok (.iload 6, 2) := by decide +kernel
theorem dL_tick_306 : decode cL_tick 306 = .ok (.iadd, 1) := by decide +kernel
theorem dL_tick_307 : decode cL_tick 307 = .ok (.iaload, 1) := by decide +kernel
theorem dL_tick_308 : decode cL_tick 308 = .ok (.ifCond .ge 7, 3) := by decide +kernel
theorem dL_tick_311 : decode cL_tick 311 = .ok (.iconst 0, 1) := by decide +kernel
theorem dL_tick_312 : decode cL_tick 312 = .ok (.goto 11, 3) := by decide +kernel
theorem dL_tick_315 : decode cL_tick 315 = .ok (.aload_n 2, 1) := by decide +kernel
theorem dL_tick_316 : decode cL_tick 316 = .ok (.iconst 3, 1) := by decide +kernel
theorem dL_tick_317 : decode cL_tick 317 = .ok (.iload 6, 2) := by decide +kernel
theorem dL_tick_319 : decode cL_tick 319 = .ok (.iadd, 1) := by decide +kernel
theorem dL_tick_320 : decode cL_tick 320 = .ok (.iaload, 1) := by decide +kernel
theorem dL_tick_321 : decode cL_tick 321 = .ok (.iconst 1, 1) := by decide +kernel
theorem dL_tick_322 : decode cL_tick 322 = .ok (.iadd, 1) := by decide +kernel
theorem dL_tick_323 : decode cL_tick 323 = .ok (.iastore, 1) := by decide +kernel
theorem dL_tick_324 : decode cL_tick 324 = .ok (.iinc 6 1, 3) := by decide +kernel
theorem dL_tick_327 : decode cL_tick 327 = .ok (.goto (-37), 3) := by decide +kernel
theorem dL_tick_330 : decode cL_tick 330 = .ok (.iconst 0, 1) := by decide +kernel
theorem dL_tick_331 : decode cL_tick 331 = .ok (.istore 6, 2) := by decide +kernel
theorem dL_tick_333 : decode cL_tick 333 = .ok (.iload 6, 2) := by decide +kernel
theorem dL_tick_335 : decode cL_tick 335 = .ok (.bipush 8, 2) := by decide +kernel
theorem dL_tick_337 : decode cL_tick 337 = .ok (.if_icmp .ge 85, 3) := by decide +kernel
theorem dL_tick_340 : decode cL_tick 340 = .ok (.aload_n 2, 1) := by decide +kernel
theorem dL_tick_341 : decode cL_tick 341 = .ok (.bipush 19, 2) := by decide +kernel
theorem dL_tick_343 : decode cL_tick 343 = .ok (.iaload, 1) := by decide +kernel
theorem dL_tick_344 : decode cL_tick 344 = .ok (.bipush 20, 2) := by decide +kernel
theorem dL_tick_346 : decode cL_tick 346 = .ok (.if_icmp .ge 70, 3) := by decide +kernel
theorem dL_tick_349 : decode cL_tick 349 = .ok (.aload 4, 2) := by decide +kernel
theorem dL_tick_351 : decode cL_tick 351 = .ok (.bipush 6, 2) := by decide +kernel
theorem dL_tick_353 : decode cL_tick 353 = .ok (.iload 6, 2) := by decide +kernel
theorem dL_tick_355 : decode cL_tick 355 = .ok (.imul, 1) := by decide +kernel
theorem dL_tick_356 : decode cL_tick 356 = .ok (.aload_n 2, 1) := by decide +kernel
theorem dL_tick_357 : decode cL_tick 357 = .ok (.bipush 15, 2) := by decide +kernel
theorem dL_tick_359 : decode cL_tick 359 = .ok (.iaload, 1) := by decide +kernel
