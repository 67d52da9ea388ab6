theorem dX6_takeReadings_110 : decode cX6_takeReadings 110 = .ok (.invokevirtual 124, 3) := by decide +kernel
theorem dX6_takeReadings_113 : decode cX6_takeReadings 113 = .ok (.iinc 4 1, 3) := by decide +kernel
theorem dX6_takeReadings_116 : decode cX6_takeReadings 116 = .ok (.goto (-84), 3) := by decide +kernel
theorem dX6_takeReadings_119 : decode cX6_takeReadings 119 = .ok (.return_, 1) := by decide +kernel
theorem dX6_giveNotices_0 : decode cX6_giveNotices 0 = .ok (.iconst 0, 1) := by decide +kernel
theorem dX6_giveNotices_1 : decode cX6_giveNotices 1 = .ok (.istore_n 1, 1) := by decide +kernel
theorem dX6_giveNotices_2 : decode cX6_giveNotices 2 = .ok (.iload_n 1, 1) := by decide +kernel
theorem dX6_giveNotices_3 : decode cX6_giveNotices 3 = .ok (.bipush 8, 2) := by decide +kernel
theorem dX6_giveNotices_5 : decode cX6_giveNotices 5 = .ok (.if_icmp .ge 87, 3) := by decide +kernel
theorem dX6_giveNotices_8 : decode cX6_giveNotices 8 = .ok (.aload_n 0, 1) := by decide +kernel
theorem dX6_giveNotices_9 : decode cX6_giveNotices 9 = .ok (.getfield 11, 3) := by decide +kernel
theorem dX6_giveNotices_12 : decode cX6_giveNotices 12 = .ok (.iload_n 1, 1) := by decide +kernel
theorem dX6_giveNotices_13 : decode cX6_giveNotices 13 = .ok (.aaload, 1) := by decide +kernel
theorem dX6_giveNotices_14 : decode cX6_giveNotices 14 = .ok (.getfield 127, 3) := by decide +kernel
theorem dX6_giveNotices_17 : decode cX6_giveNotices 17 = .ok (.aload_n 0, 1) := by decide +kernel
theorem dX6_giveNotices_18 : decode cX6_giveNotices 18 = .ok (.getfield 53, 3) := by decide +kernel
theorem dX6_giveNotices_21 : decode cX6_giveNotices 21 = .ok (.aload_n 0, 1) := by decide +kernel
theorem dX6_giveNotices_22 : decode cX6_giveNotices 22 = .ok (.getfield 44, 3) := by decide +kernel
theorem dX6_giveNotices_25 : decode cX6_giveNotices 25 = .ok (.aload_n 0, 1) := by decide +kernel
theorem dX6_giveNotices_26 : decode cX6_giveNotices 26 = .ok (.getfield 47, 3) := by decide +kernel
theorem dX6_giveNotices_29 : decode cX6_giveNotices 29 = .ok (.iconst 1, 1) := by decide +kernel
theorem dX6_giveNotices_30 : decode cX6_giveNotices 30 = .ok (.iadd, 1) := by decide +kernel
theorem dX6_giveNotices_31 : decode cX6_giveNotices 31 = .ok (.invokevirtual 130, 3) := by decide +kernel
theorem dX6_giveNotices_34 : decode cX6_giveNotices 34 = .ok (.istore_n 2, 1) := by decide +kernel
theorem dX6_giveNotices_35 : decode cX6_giveNotices 35 = .ok (.iload_n 2, 1) := by decide +kernel
theorem dX6_giveNotices_36 : decode cX6_giveNotices 36 = .ok (.aload_n 0, 1) := by decide +kernel
theorem dX6_giveNotices_37 : decode cX6_giveNotices 37 = .ok (.getfield 47, 3) := by decide +kernel
theorem dX6_giveNotices_40 : decode cX6_giveNotices 40 = .ok (.if_icmp .ne 46, 3) := by decide +kernel
theorem dX6_giveNotices_43 : decode cX6_giveNotices 43 = .ok (.aload_n 0, 1) := by decide +kernel
theorem dX6_giveNotices_44 : decode cX6_giveNotices 44 = .ok (.getfield 40, 3) := by decide +kernel
theorem dX6_giveNotices_47 : decode cX6_giveNotices 47 = .ok (.iconst 0, 1) := by decide +kernel
theorem dX6_giveNotices_48 : decode cX6_giveNotices 48 = .ok (.bipush 19, 2) := by decide +kernel
theorem dX6_giveNotices_50 : decode cX6_giveNotices 50 = .ok (.invokestatic 109, 3) := by decide +kernel
theorem dX6_giveNotices_53 : decode cX6_giveNotices 53 = .ok (.ifCond .eq 33, 3) := by decide +kernel
theorem dX6_giveNotices_56 : decode cX6_giveNotices 56 = .ok (.aload_n 0, 1) := by decide +kernel
theorem dX6_giveNotices_57 : decode cX6_giveNotices 57 = .ok (.aload_n 0, 1) := by decide +kernel
theorem dX6_giveNotices_58 : decode cX6_giveNotices 58 = .ok (.getfield 25, 3) := by decide +kernel
theorem dX6_giveNotices_61 : decode cX6_giveNotices 61 = .ok (.aload_n 0, 1) := by decide +kernel
theorem dX6_giveNotices_62 : decode cX6_giveNotices 62 = .ok (.getfield 40, 3) := by decide +kernel
theorem dX6_giveNotices_65 : decode cX6_giveNotices 65 = .ok (.aaload, 1) := by decide +kernel
theorem dX6_giveNotices_66 : decode cX6_giveNotices 66 = .ok (.iload_n 1, 1) := by decide +kernel
theorem dX6_giveNotices_67 : decode cX6_giveNotices 67 = .ok (.aload_n 0, 1) := by decide +kernel
theorem dX6_giveNotices_68 : decode cX6_giveNotices 68 = .ok (.getfield 11, 3) := by decide +kernel
theorem dX6_giveNotices_71 : decode cX6_giveNotices 71 = .ok (.iload_n 1, 1) := by decide +kernel
theorem dX6_giveNotices_72 : decode cX6_giveNotices 72 = .ok (.aaload, 1) := by decide +kernel
theorem dX6_giveNotices_73 : decode cX6_giveNotices 73 = .ok (.invokevirtual 134, 3) := by decide +kernel
theorem dX6_giveNotices_76 : decode cX6_giveNotices 76 = .ok (.aload_n 0, 1) := by decide +kernel
theorem dX6_giveNotices_77 : decode cX6_giveNotices 77 = .ok (.dup, 1) := by decide +kernel
theorem dX6_giveNotices_78 : decode cX6_giveNotices 78 = .ok (.getfield 40, 3) := by decide +kernel
theorem dX6_giveNotices_81 : decode cX6_giveNotices 81 = .ok (.iconst 1, 1) := by decide +kernel
theorem dX6_giveNotices_82 : decode cX6_giveNotices 82 = .ok (.iadd, 1) := by decide +kernel
theorem dX6_giveNotices_83 : decode cX6_giveNotices 83 = .ok (.putfield 40, 3) := by decide +kernel
theorem dX6_giveNotices_86 : decode cX6_giveNotices 86 = .ok (.iinc 1 1, 3) := by decide +kernel
theorem dX6_giveNotices_89 : decode cX6_giveNotices 89 = .ok (.goto (-87), 3) := by decide +kernel
theorem dX6_giveNotices_92 : decode cX6_giveNotices 92 = .ok (.return_, 1) := by decide +kernel
theorem dX6_fill_0 : decode cX6_fill 0 = .ok (.aload_n 1, 1) := by decide +kernel
theorem dX6_fill_1 : decode cX6_fill 1 = .ok (.iload_n 2, 1) := by decide +kernel
theorem dX6_fill_2 : decode cX6_fill 2 = .ok (.putfield 138, 3) := by decide +kernel
theorem dX6_fill_5 : decode cX6_fill 5 = .ok (.aload_n 1, 1) := by decide +kernel
theorem dX6_fill_6 : decode cX6_fill 6 = .ok (.bipush 10, 2) := by decide +kernel
theorem dX6_fill_8 : decode cX6_fill 8 = .ok (.aload_n 0, 1) := by decide +kernel
theorem dX6_fill_9 : decode cX6_fill 9 = .ok (.iload_n 2, 1) := by decide +kernel
theorem dX6_fill_10 : decode cX6_fill 10 = .ok (.invokevirtual 141, 3) := by decide +kernel
theorem dX6_fill_13 : decode cX6_fill 13 = .ok (.iconst 1, 1) := by decide +kernel
theorem dX6_fill_14 : decode cX6_fill 14 = .ok (.iadd, 1) := by decide +kernel
theorem dX6_fill_15 : decode cX6_fill 15 = .ok (.imul, 1) := by decide +kernel
theorem dX6_fill_16 : decode cX6_fill 16 = .ok (.putfield 144, 3) := by decide +kernel
theorem dX6_fill_19 : decode cX6_fill 19 = .ok (.aload_n 1, 1) := by decide +kernel
theorem dX6_fill_20 : decode cX6_fill 20 = .ok (.iconst 0, 1) := by decide +kernel
theorem dX6_fill_21 : decode cX6_fill 21 = .ok (.putfield 147, 3) := by decide +kernel
theorem dX6_fill_24 : decode cX6_fill 24 = .ok (.aload_n 1, 1) := by decide +kernel
theorem dX6_fill_25 : decode cX6_fill 25 = .ok (.iconst 0, 1) := by decide +kernel
theorem dX6_fill_26 : decode cX6_fill 26 = .ok (.putfield 151, 3) := by decide +kernel
theorem dX6_fill_29 : decode cX6_fill 29 = .ok (.iconst 0, 1) := by decide +kernel
theorem dX6_fill_30 : decode cX6_fill 30 = .ok (.istore 4, 2) := by decide +kernel
theorem dX6_fill_32 : decode cX6_fill 32 = .ok (.iload 4, 2) := by decide +kernel
theorem dX6_fill_34 : decode cX6_fill 34 = .ok (.aload_n 0, 1) := by decide +kernel
theorem dX6_fill_35 : decode cX6_fill 35 = .ok (.getfield 47, 3) := by decide +kernel
theorem dX6_fill_38 : decode cX6_fill 38 = .ok (.if_icmp .ge 76, 3) := by decide +kernel
theorem dX6_fill_41 : decode cX6_fill 41 = .ok (.aload_n 1, 1) := by decide +kernel
theorem dX6_fill_42 : decode cX6_fill 42 = .ok (.dup, 1) := by decide +kernel
theorem dX6_fill_43 : decode cX6_fill 43 = .ok (.getfield 147, 3) := by decide +kernel
theorem dX6_fill_46 : decode cX6_fill 46 = .ok (.aload_n 0, 1) := by decide +kernel
theorem dX6_fill_47 : decode cX6_fill 47 = .ok (.getfield 36, 3) := by decide +kernel
theorem dX6_fill_50 : decode cX6_fill 50 = .ok (.aload_n 0, 1) := by decide +kernel
theorem dX6_fill_51 : decode cX6_fill 51 = .ok (.getfield 53, 3) := by decide +kernel
theorem dX6_fill_54 : decode cX6_fill 54 = .ok (.iload 4, 2) := by decide +kernel
theorem dX6_fill_56 : decode cX6_fill 56 = .ok (.isub, 1) := by decide +kernel
theorem dX6_fill_57 : decode cX6_fill 57 = .ok (.invokevirtual 154, 3) := by decide +kernel
theorem dX6_fill_60 : decode cX6_fill 60 = .ok (.iconst 3, 1) := by decide +kernel
theorem dX6_fill_61 : decode cX6_fill 61 = .ok (.if_icmp .lt 7, 3) := by decide +kernel
theorem dX6_fill_64 : decode cX6_fill 64 = .ok (.iconst 1, 1) := by decide +kernel
theorem dX6_fill_65 : decode cX6_fill 65 = .ok (.goto 4, 3) := by decide +kernel
theorem dX6_fill_68 : decode cX6_fill 68 = .ok (.iconst 0, 1) := by decide +kernel
theorem dX6_fill_69 : decode cX6_fill 69 = .ok (.ior, 1) := by decide +kernel
theorem dX6_fill_70 : decode cX6_fill 70 = .ok (.putfield 147, 3) := by decide +kernel
theorem dX6_fill_73 : decode cX6_fill 73 = .ok (.aload_n 1, 1) := by decide +kernel
theorem dX6_fill_74 : decode cX6_fill 74 = .ok (.dup, 1) := by decide +kernel
theorem dX6_fill_75 : decode cX6_fill 75 = .ok (.getfield 151, 3) := by decide +kernel
theorem dX6_fill_78 : decode cX6_fill 78 = .ok (.aload_n 3, 1) := by decide +kernel
theorem dX6_fill_79 : decode cX6_fill 79 = .ok (.getfield 157, 3) := by decide +kernel
theorem dX6_fill_82 : decode cX6_fill 82 = .ok (.aload_n 0, 1) := by decide +kernel
theorem dX6_fill_83 : decode cX6_fill 83 = .ok (.getfield 53, 3) := by decide +kernel
theorem dX6_fill_86 : decode cX6_fill 86 = .ok (.iload 4, 2) := by decide +kernel
theorem dX6_fill_88 : decode cX6_fill 88 = .ok (.isub, 1) := by decide +kernel
theorem dX6_fill_89 : decode cX6_fill 89 = .ok (.invokevirtual 154, 3) := by decide +kernel
theorem dX6_fill_92 : decode cX6_fill 92 = .ok (.aload_n 0, 1) := by decide +kernel
theorem dX6_fill_93 : decode cX6_fill 93 = .ok (.getfield 44, 3) := by decide +kernel
theorem dX6_fill_96 : decode cX6_fill 96 = .ok (.if_icmp .ge 7, 3) := by decide +kernel
theorem dX6_fill_99 : decode cX6_fill 99 = .ok (.iconst 1, 1) := by decide +kernel
theorem dX6_fill_100 : decode cX6_fill 100 = .ok (.goto 4, 3) := by decide +kernel
theorem dX6_fill_103 : decode cX6_fill 103 = .ok (.iconst 0, 1) := by decide +kernel
theorem dX6_fill_104 : decode cX6_fill 104 = .ok (.ior, 1) := by decide +kernel
theorem dX6_fill_105 : decode cX6_fill 105 = .ok (.putfield 151, 3) := by decide +kernel
theorem dX6_fill_108 : decode cX6_fill 108 = .ok (.iinc 4 1, 3) := by decide +kernel
theorem dX6_fill_111 : decode cX6_fill 111 = .ok (.goto (-79), 3) := by decide +kernel
theorem dX6_fill_114 : decode cX6_fill 114 = .ok (.aload_n 1, 1) := by decide +kernel
theorem dX6_fill_115 : decode cX6_fill 115 = .ok (.iconst 0, 1) := by decide +kernel
theorem dX6_fill_116 : decode cX6_fill 116 = .ok (.putfield 160, 3) := by decide +kernel
theorem dX6_fill_119 : decode cX6_fill 119 = .ok (.aload_n 1, 1) := by decide +kernel
theorem dX6_fill_120 : decode cX6_fill 120 = .ok (.iconst 1, 1) := by decide +kernel
theorem dX6_fill_121 : decode cX6_fill 121 = .ok (.putfield 163, 3) := by decide +kernel
theorem dX6_fill_124 : decode cX6_fill 124 = .ok (.aload_n 3, 1) := by decide +kernel
theorem dX6_fill_125 : decode cX6_fill 125 = .ok (.dup, 1) := by decide +kernel
theorem dX6_fill_126 : decode cX6_fill 126 = .ok (.getfield 166, 3) := by decide +kernel
theorem dX6_fill_129 : decode cX6_fill 129 = .ok (.aload_n 1, 1) := by decide +kernel
theorem dX6_fill_130 : decode cX6_fill 130 = .ok (.getfield 144, 3) := by decide +kernel
theorem dX6_fill_133 : decode cX6_fill 133 = .ok (.iadd, 1) := by decide +kernel
theorem dX6_fill_134 : decode cX6_fill 134 = .ok (.putfield 166, 3) := by decide +kernel
theorem dX6_fill_137 : decode cX6_fill 137 = .ok (.return_, 1) := by decide +kernel
theorem dX6_goOn_0 : decode cX6_goOn 0 = .ok (.aload_n 0, 1) := by decide +kernel
theorem dX6_goOn_1 : decode cX6_goOn 1 = .ok (.dup, 1) := by decide +kernel
theorem dX6_goOn_2 : decode cX6_goOn 2 = .ok (.getfield 53, 3) := by decide +kernel
theorem dX6_goOn_5 : decode cX6_goOn 5 = .ok (.iconst 1, 1) := by decide +kernel
theorem dX6_goOn_6 : decode cX6_goOn 6 = .ok (.iadd, 1) := by decide +kernel
theorem dX6_goOn_7 : decode cX6_goOn 7 = .ok (.putfield 53, 3) := by decide +kernel
theorem dX6_goOn_10 : decode cX6_goOn 10 = .ok (.aload_n 0, 1) := by decide +kernel
theorem dX6_goOn_11 : decode cX6_goOn 11 = .ok (.getfield 53, 3) := by decide +kernel
theorem dX6_goOn_14 : decode cX6_goOn 14 = .ok (.bipush 96, 2) := by decide +kernel
theorem dX6_goOn_16 : decode cX6_goOn 16 = .ok (.if_icmp .ne 52, 3) := by decide +kernel
theorem dX6_goOn_19 : decode cX6_goOn 19 = .ok (.aload_n 0, 1) := by decide +kernel
theorem dX6_goOn_20 : decode cX6_goOn 20 = .ok (.iconst 0, 1) := by decide +kernel
theorem dX6_goOn_21 : decode cX6_goOn 21 = .ok (.putfield 53, 3) := by decide +kernel
theorem dX6_goOn_24 : decode cX6_goOn 24 = .ok (.aload_n 0, 1) := by decide +kernel
theorem dX6_goOn_25 : decode cX6_goOn 25 = .ok (.dup, 1) := by decide +kernel
theorem dX6_goOn_26 : decode cX6_goOn 26 = .ok (.getfield 50, 3) := by decide +kernel
theorem dX6_goOn_29 : decode cX6_goOn 29 = .ok (.iconst 1, 1) := by decide +kernel
theorem dX6_goOn_30 : decode cX6_goOn 30 = .ok (.iadd, 1) := by decide +kernel
theorem dX6_goOn_31 : decode cX6_goOn 31 = .ok (.putfield 50, 3) := by decide +kernel
theorem dX6_goOn_34 : decode cX6_goOn 34 = .ok (.aload_n 0, 1) := by decide +kernel
theorem dX6_goOn_35 : decode cX6_goOn 35 = .ok (.getfield 11, 3) := by decide +kernel
theorem dX6_goOn_38 : decode cX6_goOn 38 = .ok (.astore_n 1, 1) := by decide +kernel
theorem dX6_goOn_39 : decode cX6_goOn 39 = .ok (.aload_n 1, 1) := by decide +kernel
theorem dX6_goOn_40 : decode cX6_goOn 40 = .ok (.arraylength, 1) := by decide +kernel
theorem dX6_goOn_41 : decode cX6_goOn 41 = .ok (.istore_n 2, 1) := by decide +kernel
theorem dX6_goOn_42 : decode cX6_goOn 42 = .ok (.iconst 0, 1) := by decide +kernel
theorem dX6_goOn_43 : decode cX6_goOn 43 = .ok (.istore_n 3, 1) := by decide +kernel
theorem dX6_goOn_44 : decode cX6_goOn 44 = .ok (.iload_n 3, 1) := by decide +kernel
theorem dX6_goOn_45 : decode cX6_goOn 45 = .ok (.iload_n 2, 1) := by decide +kernel
theorem dX6_goOn_46 : decode cX6_goOn 46 = .ok (.if_icmp .ge 22, 3) := by decide +kernel
theorem dX6_goOn_49 : decode cX6_goOn 49 = .ok (.aload_n 1, 1) := by decide +kernel
theorem dX6_goOn_50 : decode cX6_goOn 50 = .ok (.iload_n 3, 1) := by decide +kernel
theorem dX6_goOn_51 : decode cX6_goOn 51 = .ok (.aaload, 1) := by decide +kernel
theorem dX6_goOn_52 : decode cX6_goOn 52 = .ok (.astore 4, 2) := by decide +kernel
theorem dX6_goOn_54 : decode cX6_goOn 54 = .ok (.aload 4, 2) := by decide +kernel
theorem dX6_goOn_56 : decode cX6_goOn 56 = .ok (.getfield 127, 3) := by decide +kernel
theorem dX6_goOn_59 : decode cX6_goOn 59 = .ok (.invokevirtual 169, 3) := by decide +kernel
theorem dX6_goOn_62 : decode cX6_goOn 62 = .ok (.iinc 3 1, 3) := by decide +kernel
theorem dX6_goOn_65 : decode cX6_goOn 65 = .ok (.goto (-21), 3) := by decide +kernel
theorem dX6_goOn_68 : decode cX6_goOn 68 = .ok (.return_, 1) := by decide +kernel
theorem dX6_hasNotice_0 : decode cX6_hasNotice 0 = .ok (.iload_n 1, 1) := by decide +kernel
theorem dX6_hasNotice_1 : decode cX6_hasNotice 1 = .ok (.ifCond .lt 21, 3) := by decide +kernel
theorem dX6_hasNotice_4 : decode cX6_hasNotice 4 = .ok (.iload_n 1, 1) := by decide +kernel
theorem dX6_hasNotice_5 : decode cX6_hasNotice 5 = .ok (.aload_n 0, 1) := by decide +kernel
theorem dX6_hasNotice_6 : decode cX6_hasNotice 6 = .ok (.getfield 40, 3) := by decide +kernel
theorem dX6_hasNotice_9 : decode cX6_hasNotice 9 = .ok (.if_icmp .ge 13, 3) := by decide +kernel
theorem dX6_hasNotice_12 : decode cX6_hasNotice 12 = .ok (.iload_n 1, 1) := by decide +kernel
theorem dX6_hasNotice_13 : decode cX6_hasNotice 13 = .ok (.bipush 20, 2) := by decide +kernel
theorem dX6_hasNotice_15 : decode cX6_hasNotice 15 = .ok (.if_icmp .ge 7, 3) := by decide +kernel
theorem dX6_hasNotice_18 : decode cX6_hasNotice 18 = .ok (.iconst 1, 1) := by decide +kernel
theorem dX6_hasNotice_19 : decode cX6_hasNotice 19 = .ok (.goto 4, 3) := by decide +kernel
theorem dX6_hasNotice_22 : decode cX6_hasNotice 22 = .ok (.iconst 0, 1) := by decide +kernel
theorem dX6_hasNotice_23 : decode cX6_hasNotice 23 = .ok (.ireturn, 1) := by decide +kernel
theorem dX6_decide_0 : decode cX6_decide 0 = .ok (.aload_n 1, 1) := by decide +kernel
theorem dX6_decide_1 : decode cX6_decide 1 = .ok (.iconst 1, 1) := by decide +kernel
theorem dX6_decide_2 : decode cX6_decide 2 = .ok (.putfield 160, 3) := by decide +kernel
theorem dX6_decide_5 : decode cX6_decide 5 = .ok (.aload_n 1, 1) := by decide +kernel
theorem dX6_decide_6 : decode cX6_decide 6 = .ok (.getfield 147, 3) := by decide +kernel
theorem dX6_decide_9 : decode cX6_decide 9 = .ok (.ifCond .ne 10, 3) := by decide +kernel
theorem dX6_decide_12 : decode cX6_decide 12 = .ok (.aload_n 1, 1) := by decide +kernel
theorem dX6_decide_13 : decode cX6_decide 13 = .ok (.getfield 151, 3) := by decide +kernel
theorem dX6_decide_16 : decode cX6_decide 16 = .ok (.ifCond .eq 42, 3) := by decide +kernel
theorem dX6_decide_19 : decode cX6_decide 19 = .ok (.aload_n 1, 1) := by decide +kernel
theorem dX6_decide_20 : decode cX6_decide 20 = .ok (.iconst 0, 1) := by decide +kernel
theorem dX6_decide_21 : decode cX6_decide 21 = .ok (.putfield 163, 3) := by decide +kernel
theorem dX6_decide_24 : decode cX6_decide 24 = .ok (.aload_n 1, 1) := by decide +kernel
theorem dX6_decide_25 : decode cX6_decide 25 = .ok (.getfield 138, 3) := by decide +kernel
theorem dX6_decide_28 : decode cX6_decide 28 = .ok (.iconst 0, 1) := by decide +kernel
theorem dX6_decide_29 : decode cX6_decide 29 = .ok (.bipush 7, 2) := by decide +kernel
theorem dX6_decide_31 : decode cX6_decide 31 = .ok (.invokestatic 109, 3) := by decide +kernel
theorem dX6_decide_34 : decode cX6_decide 34 = .ok (.ifCond .eq 24, 3) := by decide +kernel
theorem dX6_decide_37 : decode cX6_decide 37 = .ok (.aload_n 0, 1) := by decide +kernel
theorem dX6_decide_38 : decode cX6_decide 38 = .ok (.getfield 11, 3) := by decide +kernel
theorem dX6_decide_41 : decode cX6_decide 41 = .ok (.aload_n 1, 1) := by decide +kernel
theorem dX6_decide_42 : decode cX6_decide 42 = .ok (.getfield 138, 3) := by decide +kernel
theorem dX6_decide_45 : decode cX6_decide 45 = .ok (.aaload, 1) := by decide +kernel
theorem dX6_decide_46 : decode cX6_decide 46 = .ok (.dup, 1) := by decide +kernel
theorem dX6_decide_47 : decode cX6_decide 47 = .ok (.getfield 172, 3) := by decide +kernel
theorem dX6_decide_50 : decode cX6_decide 50 = .ok (.aload_n 1, 1) := by decide +kernel
theorem dX6_decide_51 : decode cX6_decide 51 = .ok (.getfield 144, 3) := by decide +kernel
theorem dX6_decide_54 : decode cX6_decide 54 = .ok (.iadd, 1) := by decide +kernel
theorem dX6_decide_55 : decode cX6_decide 55 = .ok (.putfield 172, 3) := by decide +kernel
theorem dX6_decide_58 : decode cX6_decide 58 = .ok (.return_, 1) := by decide +kernel
theorem dX6_standingCount_0 : decode cX6_standingCount 0 = .ok (.iconst 0, 1) := by decide +kernel
theorem dX6_standingCount_1 : decode cX6_standingCount 1 = .ok (.istore_n 1, 1) := by decide +kernel
theorem dX6_standingCount_2 : decode cX6_standingCount 2 = .ok (.iconst 0, 1) := by decide +kernel
theorem dX6_standingCount_3 : decode cX6_standingCount 3 = .ok (.istore_n 2, 1) := by decide +kernel
theorem dX6_standingCount_4 : decode cX6_standingCount 4 = .ok (.iload_n 2, 1) := by decide +kernel
theorem dX6_standingCount_5 : decode cX6_standingCount 5 = .ok (.bipush 20, 2) := by decide +kernel
theorem dX6_standingCount_7 : decode cX6_standingCount 7 = .ok (.if_icmp .ge 32, 3) := by decide +kernel
theorem dX6_standingCount_10 : decode cX6_standingCount 10 = .ok (.iload_n 2, 1) := by decide +kernel
theorem dX6_standingCount_11 : decode cX6_standingCount 11 = .ok (.aload_n 0, 1) := by decide +kernel
theorem dX6_standingCount_12 : decode cX6_standingCount 12 = .ok (.getfield 40, 3) := by decide +kernel
theorem dX6_standingCount_15 : decode cX6_standingCount 15 = .ok (.if_icmp .ge 24, 3) := by decide +kernel
theorem dX6_standingCount_18 : decode cX6_standingCount 18 = .ok (.aload_n 0, 1) := by decide +kernel
theorem dX6_standingCount_19 : decode cX6_standingCount 19 = .ok (.getfield 25, 3) := by decide +kernel
theorem dX6_standingCount_22 : decode cX6_standingCount 22 = .ok (.iload_n 2, 1) := by decide +kernel
theorem dX6_standingCount_23 : decode cX6_standingCount 23 = .ok (.aaload, 1) := by decide +kernel
theorem dX6_standingCount_24 : decode cX6_standingCount 24 = .ok (.getfield 163, 3) := by decide +kernel
theorem dX6_standingCount_27 : decode cX6_standingCount 27 = .ok (.ifCond .eq 6, 3) := by decide +kernel
theorem dX6_standingCount_30 : decode cX6_standingCount 30 = .ok (.iinc 1 1, 3) := by decide +kernel
theorem dX6_standingCount_33 : decode cX6_standingCount 33 = .ok (.iinc 2 1, 3) := by decide +kernel
theorem dX6_standingCount_36 : decode cX6_standingCount 36 = .ok (.goto (-32), 3) := by decide +kernel
theorem dX6_standingCount_39 : decode cX6_standingCount 39 = .ok (.iload_n 1, 1) := by decide +kernel
theorem dX6_standingCount_40 : decode cX6_standingCount 40 = .ok (.ireturn, 1) := by decide +kernel
theorem dX6_standingOf_0 : decode cX6_standingOf 0 = .ok (.iconst 0, 1) := by decide +kernel
theorem dX6_standingOf_1 : decode cX6_standingOf 1 = .ok (.istore_n 2, 1) := by decide +kernel
theorem dX6_standingOf_2 : decode cX6_standingOf 2 = .ok (.iconst 0, 1) := by decide +kernel
theorem dX6_standingOf_3 : decode cX6_standingOf 3 = .ok (.istore_n 3, 1) := by decide +kernel
theorem dX6_standingOf_4 : decode cX6_standingOf 4 = .ok (.iload_n 3, 1) := by decide +kernel
theorem dX6_standingOf_5 : decode cX6_standingOf 5 = .ok (.bipush 20, 2) := by decide +kernel
theorem dX6_standingOf_7 : decode cX6_standingOf 7 = .ok (.if_icmp .ge 45, 3) := by decide +kernel
theorem dX6_standingOf_10 : decode cX6_standingOf 10 = .ok (.iload_n 3, 1) := by decide +kernel
theorem dX6_standingOf_11 : decode cX6_standingOf 11 = .ok (.aload_n 0, 1) := by decide +kernel
theorem dX6_standingOf_12 : decode cX6_standingOf 12 = .ok (.getfield 40, 3) := by decide +kernel
theorem dX6_standingOf_15 : decode cX6_standingOf 15 = .ok (.if_icmp .ge 37, 3) := by decide +kernel
theorem dX6_standingOf_18 : decode cX6_standingOf 18 = .ok (.aload_n 0, 1) := by decide +kernel
theorem dX6_standingOf_19 : decode cX6_standingOf 19 = .ok (.getfield 25, 3) := by decide +kernel
theorem dX6_standingOf_22 : decode cX6_standingOf 22 = .ok (.iload_n 3, 1) := by decide +kernel
theorem dX6_standingOf_23 : decode cX6_standingOf 23 = .ok (.aaload, 1) := by decide +kernel
theorem dX6_standingOf_24 : decode cX6_standingOf 24 = .ok (.getfield 163, 3) := by decide +kernel
theorem dX6_standingOf_27 : decode cX6_standingOf 27 = .ok (.ifCond .eq 19, 3) := by decide +kernel
theorem dX6_standingOf_30 : decode cX6_standingOf 30 = .ok (.aload_n 0, 1) := by decide +kernel
theorem dX6_standingOf_31 : decode cX6_standingOf 31 = .ok (.getfield 25, 3) := by decide +kernel
theorem dX6_standingOf_34 : decode cX6_standingOf 34 = .ok (.iload_n 3, 1) := by decide +kernel
theorem dX6_standingOf_35 : decode cX6_standingOf 35 = .ok (.aaload, 1) := by decide +kernel
theorem dX6_standingOf_36 : decode cX6_standingOf 36 = .ok (.getfield 138, 3) := by decide +kernel
theorem dX6_standingOf_39 : decode cX6_standingOf 39 = .ok (.iload_n 1, 1) := by decide +kernel
theorem dX6_standingOf_40 : decode cX6_standingOf 40 = .ok (.if_icmp .ne 6, 3) := by decide +kernel
theorem dX6_standingOf_43 : decode cX6_standingOf 43 = .ok (.iinc 2 1, 3) := by decide +kernel
theorem dX6_standingOf_46 : decode cX6_standingOf 46 = .ok (.iinc 3 1, 3) := by decide +kernel
theorem dX6_standingOf_49 : decode cX6_standingOf 49 = .ok (.goto (-45), 3) := by decide +kernel
theorem dX6_standingOf_52 : decode cX6_standingOf 52 = .ok (.iload_n 2, 1) := by decide +kernel
theorem dX6_standingOf_53 : decode cX6_standingOf 53 = .ok (.ireturn, 1) := by decide +kernel
theorem dX6_finesByNotices_0 : decode cX6_finesByNotices 0 = .ok (.iconst 0, 1) := by decide +kernel
theorem dX6_finesByNotices_1 : decode cX6_finesByNotices 1 = .ok (.istore_n 2, 1) := by decide +kernel
theorem dX6_finesByNotices_2 : decode cX6_finesByNotices 2 = .ok (.iconst 0, 1) := by decide +kernel
theorem dX6_finesByNotices_3 : decode cX6_finesByNotices 3 = .ok (.istore_n 3, 1) := by decide +kernel
theorem dX6_finesByNotices_4 : decode cX6_finesByNotices 4 = .ok (.iload_n 3, 1) := by decide +kernel
theorem dX6_finesByNotices_5 : decode cX6_finesByNotices 5 = .ok (.bipush 20, 2) := by decide +kernel
theorem dX6_finesByNotices_7 : decode cX6_finesByNotices 7 = .ok (.if_icmp .ge 54, 3) := by decide +kernel
theorem dX6_finesByNotices_10 : decode cX6_finesByNotices 10 = .ok (.iload_n 3, 1) := by decide +kernel
theorem dX6_finesByNotices_11 : decode cX6_finesByNotices 11 = .ok (.aload_n 0, 1) := by decide +kernel
theorem dX6_finesByNotices_12 : decode cX6_finesByNotices 12 = .ok (.getfield 40, 3) := by decide +kernel
theorem dX6_finesByNotices_15 : decode cX6_finesByNotices 15 = .ok (.if_icmp .ge 46, 3) := by decide +kernel
theorem dX6_finesByNotices_18 : decode cX6_finesByNotices 18 = .ok (.aload_n 0, 1) := by decide +kernel
theorem dX6_finesByNotices_19 : decode cX6_finesByNotices 19 = .ok (.getfield 25, 3) := by decide +kernel
theorem dX6_finesByNotices_22 : decode cX6_finesByNotices 22 = .ok (.iload_n 3, 1) := by decide +kernel
theorem dX6_finesByNotices_23 : decode cX6_finesByNotices 23 = .ok (.aaload, 1) := by decide +kernel
theorem dX6_finesByNotices_24 : decode cX6_finesByNotices 24 = .ok (.getfield 163, 3) := by decide +kernel
theorem dX6_finesByNotices_27 : decode cX6_finesByNotices 27 = .ok (.ifCond .eq 28, 3) := by decide +kernel
theorem dX6_finesByNotices_30 : decode cX6_finesByNotices 30 = .ok (.aload_n 0, 1) := by decide +kernel
theorem dX6_finesByNotices_31 : decode cX6_finesByNotices 31 = .ok (.getfield 25, 3) := by decide +kernel
theorem dX6_finesByNotices_34 : decode cX6_finesByNotices 34 = .ok (.iload_n 3, 1) := by decide +kernel
theorem dX6_finesByNotices_35 : decode cX6_finesByNotices 35 = .ok (.aaload, 1) := by decide +kernel
theorem dX6_finesByNotices_36 : decode cX6_finesByNotices 36 = .ok (.getfield 138, 3) := by decide +kernel
theorem dX6_finesByNotices_39 : decode cX6_finesByNotices 39 = .ok (.iload_n 1, 1) := by decide +kernel
theorem dX6_finesByNotices_40 : decode cX6_finesByNotices 40 = .ok (.if_icmp .ne 15, 3) := by decide +kernel
theorem dX6_finesByNotices_43 : decode cX6_finesByNotices 43 = .ok (.iload_n 2, 1) := by decide +kernel
theorem dX6_finesByNotices_44 : decode cX6_finesByNotices 44 = .ok (.aload_n 0, 1) := by decide +kernel
theorem dX6_finesByNotices_45 : decode cX6_finesByNotices 45 = .ok (.getfield 25, 3) := by decide +kernel
theorem dX6_finesByNotices_48 : decode cX6_finesByNotices 48 = .ok (.iload_n 3, 1) := by decide +kernel
theorem dX6_finesByNotices_49 : decode cX6_finesByNotices 49 = .ok (.aaload, 1) := by decide +kernel
theorem dX6_finesByNotices_50 : decode cX6_finesByNotices 50 = .ok (.getfield 144, 3) := by decide +kernel
theorem dX6_finesByNotices_53 : decode cX6_finesByNotices 53 = .ok (.iadd, 1) := by decide +kernel
theorem dX6_finesByNotices_54 : decode cX6_finesByNotices 54 = .ok (.istore_n 2, 1) := by decide +kernel
theorem dX6_finesByNotices_55 : decode cX6_finesByNotices 55 = .ok (.iinc 3 1, 3) := by decide +kernel
theorem dX6_finesByNotices_58 : decode cX6_finesByNotices 58 = .ok (.goto (-54), 3) := by decide +kernel
theorem dX6_finesByNotices_61 : decode cX6_finesByNotices 61 = .ok (.iload_n 2, 1) := by decide +kernel
theorem dX6_finesByNotices_62 : decode cX6_finesByNotices 62 = .ok (.ireturn, 1) := by decide +kernel
theorem dX7_init_0 : decode cX7_init 0 = .ok (.aload_n 0, 1) := by decide +kernel
theorem dX7_init_1 : decode cX7_init 1 = .ok (.invokespecial 1, 3) := by decide +kernel
theorem dX7_init_4 : decode cX7_init 4 = .ok (.aload_n 0, 1) := by decide +kernel
theorem dX7_init_5 : decode cX7_init 5 = .ok (.new 7, 3) := by decide +kernel
theorem dX7_init_8 : decode cX7_init 8 = .ok (.dup, 1) := by decide +kernel
theorem dX7_init_9 : decode cX7_init 9 = .ok (.invokespecial 9, 3) := by decide +kernel
theorem dX7_init_12 : decode cX7_init 12 = .ok (.putfield 10, 3) := by decide +kernel
theorem dX7_init_15 : decode cX7_init 15 = .ok (.aload_n 0, 1) := by decide +kernel
theorem dX7_init_16 : decode cX7_init 16 = .ok (.iconst 0, 1) := by decide +kernel
theorem dX7_init_17 : decode cX7_init 17 = .ok (.putfield 16, 3) := by decide +kernel
theorem dX7_init_20 : decode cX7_init 20 = .ok (.return_, 1) := by decide +kernel
theorem dX8_init_0 : decode cX8_init 0 = .ok (.aload_n 0, 1) := by decide +kernel
theorem dX8_init_1 : decode cX8_init 1 = .ok (.invokespecial 1, 3) := by decide +kernel
theorem dX8_init_4 : decode cX8_init 4 = .ok (.aload_n 0, 1) := by decide +kernel
theorem dX8_init_5 : decode cX8_init 5 = .ok (.new 7, 3) := by decide +kernel
theorem dX8_init_8 : decode cX8_init 8 = .ok (.dup, 1) := by decide +kernel
theorem dX8_init_9 : decode cX8_init 9 = .ok (.invokespecial 9, 3) := by decide +kernel
theorem dX8_init_12 : decode cX8_init 12 = .ok (.putfield 10, 3) := by decide +kernel
theorem dX8_init_15 : decode cX8_init 15 = .ok (.aload_n 0, 1) := by decide +kernel
theorem dX8_init_16 : decode cX8_init 16 = .ok (.new 7, 3) := by decide +kernel
theorem dX8_init_19 : decode cX8_init 19 = .ok (.dup, 1) := by decide +kernel
theorem dX8_init_20 : decode cX8_init 20 = .ok (.invokespecial 9, 3) := by decide +kernel
theorem dX8_init_23 : decode cX8_init 23 = .ok (.putfield 16, 3) := by decide +kernel
theorem dX8_init_26 : decode cX8_init 26 = .ok (.aload_n 0, 1) := by decide +kernel
theorem dX8_init_27 : decode cX8_init 27 = .ok (.new 19, 3) := by decide +kernel
theorem dX8_init_30 : decode cX8_init 30 = .ok (.dup, 1) := by decide +kernel
theorem dX8_init_31 : decode cX8_init 31 = .ok (.invokespecial 21, 3) := by decide +kernel
theorem dX8_init_34 : decode cX8_init 34 = .ok (.putfield 22, 3) := by decide +kernel
theorem dX8_init_37 : decode cX8_init 37 = .ok (.aload_n 0, 1) := by decide +kernel
theorem dX8_init_38 : decode cX8_init 38 = .ok (.iconst 2, 1) := by decide +kernel
theorem dX8_init_39 : decode cX8_init 39 = .ok (.anewarray 26, 3) := by decide +kernel
theorem dX8_init_42 : decode cX8_init 42 = .ok (.putfield 28, 3) := by decide +kernel
theorem dX8_init_45 : decode cX8_init 45 = .ok (.aload_n 0, 1) := by decide +kernel
theorem dX8_init_46 : decode cX8_init 46 = .ok (.new 32, 3) := by decide +kernel
theorem dX8_init_49 : decode cX8_init 49 = .ok (.dup, 1) := by decide +kernel
theorem dX8_init_50 : decode cX8_init 50 = .ok (.invokespecial 34, 3) := by decide +kernel
theorem dX8_init_53 : decode cX8_init 53 = .ok (.putfield 35, 3) := by decide +kernel
theorem dX8_init_56 : decode cX8_init 56 = .ok (.aload_n 0, 1) := by decide +kernel
theorem dX8_init_57 : decode cX8_init 57 = .ok (.bipush 8, 2) := by decide +kernel
theorem dX8_init_59 : decode cX8_init 59 = .ok (.newarray .int, 2) := by decide +kernel
theorem dX8_init_61 : decode cX8_init 61 = .ok (.putfield 39, 3) := by decide +kernel
theorem dX8_init_64 : decode cX8_init 64 = .ok (.iconst 0, 1) := by decide +kernel
theorem dX8_init_65 : decode cX8_init 65 = .ok (.istore_n 1, 1) := by decide +kernel
theorem dX8_init_66 : decode cX8_init 66 = .ok (.iload_n 1, 1) := by decide +kernel
theorem dX8_init_67 : decode cX8_init 67 = .ok (.iconst 2, 1) := by decide +kernel
theorem dX8_init_68 : decode cX8_init 68 = .ok (.if_icmp .ge 22, 3) := by decide +kernel
theorem dX8_init_71 : decode cX8_init 71 = .ok (.aload_n 0, 1) := by decide +kernel
theorem dX8_init_72 : decode cX8_init 72 = .ok (.getfield 28, 3) := by decide +kernel
theorem dX8_init_75 : decode cX8_init 75 = .ok (.iload_n 1, 1) := by decide +kernel
theorem dX8_init_76 : decode cX8_init 76 = .ok (.new 26, 3) := by decide +kernel
theorem dX8_init_79 : decode cX8_init 79 = .ok (.dup, 1) := by decide +kernel
theorem dX8_init_80 : decode cX8_init 80 = .ok (.invokespecial 43, 3) := by decide +kernel
theorem dX8_init_83 : decode cX8_init 83 = .ok (.aastore, 1) := by decide +kernel
theorem dX8_init_84 : decode cX8_init 84 = .ok (.iinc 1 1, 3) := by decide +kernel
theorem dX8_init_87 : decode cX8_init 87 = .ok (.goto (-21), 3) := by decide +kernel
theorem dX8_init_90 : decode cX8_init 90 = .ok (.return_, 1) := by decide +kernel
theorem dX8_setChimney_0 : decode cX8_setChimney 0 = .ok (.aload_n 0, 1) := by decide +kernel
theorem dX8_setChimney_1 : decode cX8_setChimney 1 = .ok (.getfield 10, 3) := by decide +kernel
theorem dX8_setChimney_4 : decode cX8_setChimney 4 = .ok (.iload_n 1, 1) := by decide +kernel
theorem dX8_setChimney_5 : decode cX8_setChimney 5 = .ok (.invokestatic 44, 3) := by decide +kernel
theorem dX8_setChimney_8 : decode cX8_setChimney 8 = .ok (.astore 6, 2) := by decide +kernel
theorem dX8_setChimney_10 : decode cX8_setChimney 10 = .ok (.iload_n 2, 1) := by decide +kernel
theorem dX8_setChimney_11 : decode cX8_setChimney 11 = .ok (.iconst 0, 1) := by decide +kernel
theorem dX8_setChimney_12 : decode cX8_setChimney 12 = .ok (.bipush 9, 2) := by decide +kernel
theorem dX8_setChimney_14 : decode cX8_setChimney 14 = .ok (.invokestatic 48, 3) := by decide +kernel
theorem dX8_setChimney_17 : decode cX8_setChimney 17 = .ok (.ifCond .eq 16, 3) := by decide +kernel
theorem dX8_setChimney_20 : decode cX8_setChimney 20 = .ok (.iload_n 3, 1) := by decide +kernel
theorem dX8_setChimney_21 : decode cX8_setChimney 21 = .ok (.iconst 0, 1) := by decide +kernel
theorem dX8_setChimney_22 : decode cX8_setChimney 22 = .ok (.iconst 2, 1) := by decide +kernel
theorem dX8_setChimney_23 : decode cX8_setChimney 23 = .ok (.invokestatic 48, 3) := by decide +kernel
theorem dX8_setChimney_26 : decode cX8_setChimney 26 = .ok (.ifCond .eq 7, 3) := by decide +kernel
theorem dX8_setChimney_29 : decode cX8_setChimney 29 = .ok (.iconst 1, 1) := by decide +kernel
theorem dX8_setChimney_30 : decode cX8_setChimney 30 = .ok (.goto 4, 3) := by decide +kernel
theorem dX8_setChimney_33 : decode cX8_setChimney 33 = .ok (.iconst 0, 1) := by decide +kernel
theorem dX8_setChimney_34 : decode cX8_setChimney 34 = .ok (.invokestatic 52, 3) := by decide +kernel
theorem dX8_setChimney_37 : decode cX8_setChimney 37 = .ok (.iload 4, 2) := by decide +kernel
theorem dX8_setChimney_39 : decode cX8_setChimney 39 = .ok (.iconst 2, 1) := by decide +kernel
theorem dX8_setChimney_40 : decode cX8_setChimney 40 = .ok (.bipush 12, 2) := by decide +kernel
theorem dX8_setChimney_42 : decode cX8_setChimney 42 = .ok (.invokestatic 48, 3) := by decide +kernel
theorem dX8_setChimney_45 : decode cX8_setChimney 45 = .ok (.ifCond .eq 18, 3) := by decide +kernel
theorem dX8_setChimney_48 : decode cX8_setChimney 48 = .ok (.iload 5, 2) := by decide +kernel
theorem dX8_setChimney_50 : decode cX8_setChimney 50 = .ok (.iconst 0, 1) := by decide +kernel
theorem dX8_setChimney_51 : decode cX8_setChimney 51 = .ok (.bipush 11, 2) := by decide +kernel
theorem dX8_setChimney_53 : decode cX8_setChimney 53 = .ok (.invokestatic 48, 3) := by decide +kernel
theorem dX8_setChimney_56 : decode cX8_setChimney 56 = .ok (.ifCond .eq 7, 3) := by decide +kernel
theorem dX8_setChimney_59 : decode cX8_setChimney 59 = .ok (.iconst 1, 1) := by decide +kernel
theorem dX8_setChimney_60 : decode cX8_setChimney 60 = .ok (.goto 4, 3) := by decide +kernel
theorem dX8_setChimney_63 : decode cX8_setChimney 63 = .ok (.iconst 0, 1) := by decide +kernel
theorem dX8_setChimney_64 : decode cX8_setChimney 64 = .ok (.invokestatic 52, 3) := by decide +kernel
theorem dX8_setChimney_67 : decode cX8_setChimney 67 = .ok (.aload_n 0, 1) := by decide +kernel
theorem dX8_setChimney_68 : decode cX8_setChimney 68 = .ok (.getfield 22, 3) := by decide +kernel
theorem dX8_setChimney_71 : decode cX8_setChimney 71 = .ok (.aload_n 0, 1) := by decide +kernel
theorem dX8_setChimney_72 : decode cX8_setChimney 72 = .ok (.getfield 10, 3) := by decide +kernel
theorem dX8_setChimney_75 : decode cX8_setChimney 75 = .ok (.invokevirtual 56, 3) := by decide +kernel
theorem dX8_setChimney_78 : decode cX8_setChimney 78 = .ok (.aload 6, 2) := by decide +kernel
theorem dX8_setChimney_80 : decode cX8_setChimney 80 = .ok (.iload_n 2, 1) := by decide +kernel
theorem dX8_setChimney_81 : decode cX8_setChimney 81 = .ok (.putfield 60, 3) := by decide +kernel
theorem dX8_setChimney_84 : decode cX8_setChimney 84 = .ok (.aload 6, 2) := by decide +kernel
theorem dX8_setChimney_86 : decode cX8_setChimney 86 = .ok (.iload_n 3, 1) := by decide +kernel
theorem dX8_setChimney_87 : decode cX8_setChimney 87 = .ok (.putfield 66, 3) := by decide +kernel
theorem dX8_setChimney_90 : decode cX8_setChimney 90 = .ok (.aload 6, 2) := by decide +kernel
theorem dX8_setChimney_92 : decode cX8_setChimney 92 = .ok (.iload 4, 2) := by decide +kernel
theorem dX8_setChimney_94 : decode cX8_setChimney 94 = .ok (.putfield 69, 3) := by decide +kernel
theorem dX8_setChimney_97 : decode cX8_setChimney 97 = .ok (.aload 6, 2) := by decide +kernel
theorem dX8_setChimney_99 : decode cX8_setChimney 99 = .ok (.iload 5, 2) := by decide +kernel
theorem dX8_setChimney_101 : decode cX8_setChimney 101 = .ok (.putfield 72, 3) := by decide +kernel
theorem dX8_setChimney_104 : decode cX8_setChimney 104 = .ok (.aload 6, 2) := by decide +kernel
theorem dX8_setChimney_106 : decode cX8_setChimney 106 = .ok (.aload_n 0, 1) := by decide +kernel
theorem dX8_setChimney_107 : decode cX8_setChimney 107 = .ok (.getfield 10, 3) := by decide +kernel
theorem dX8_setChimney_110 : decode cX8_setChimney 110 = .ok (.getfield 75, 3) := by decide +kernel
theorem dX8_setChimney_113 : decode cX8_setChimney 113 = .ok (.invokevirtual 78, 3) := by decide +kernel
theorem dX8_setChimney_116 : decode cX8_setChimney 116 = .ok (.ireturn, 1) := by decide +kernel
theorem dX8_setGrey_0 : decode cX8_setGrey 0 = .ok (.iload_n 1, 1) := by decide +kernel
theorem dX8_setGrey_1 : decode cX8_setGrey 1 = .ok (.iconst 0, 1) := by decide +kernel
theorem dX8_setGrey_2 : decode cX8_setGrey 2 = .ok (.bipush 23, 2) := by decide +kernel
theorem dX8_setGrey_4 : decode cX8_setGrey 4 = .ok (.invokestatic 48, 3) := by decide +kernel
theorem dX8_setGrey_7 : decode cX8_setGrey 7 = .ok (.ifCond .eq 16, 3) := by decide +kernel
theorem dX8_setGrey_10 : decode cX8_setGrey 10 = .ok (.iload_n 2, 1) := by decide +kernel
theorem dX8_setGrey_11 : decode cX8_setGrey 11 = .ok (.iconst 0, 1) := by decide +kernel
theorem dX8_setGrey_12 : decode cX8_setGrey 12 = .ok (.iconst 4, 1) := by decide +kernel
theorem dX8_setGrey_13 : decode cX8_setGrey 13 = .ok (.invokestatic 48, 3) := by decide +kernel
theorem dX8_setGrey_16 : decode cX8_setGrey 16 = .ok (.ifCond .eq 7, 3) := by decide +kernel
theorem dX8_setGrey_19 : decode cX8_setGrey 19 = .ok (.iconst 1, 1) := by decide +kernel
theorem dX8_setGrey_20 : decode cX8_setGrey 20 = .ok (.goto 4, 3) := by decide +kernel
theorem dX8_setGrey_23 : decode cX8_setGrey 23 = .ok (.iconst 0, 1) := by decide +kernel
theorem dX8_setGrey_24 : decode cX8_setGrey 24 = .ok (.invokestatic 52, 3) := by decide +kernel
theorem dX8_setGrey_27 : decode cX8_setGrey 27 = .ok (.aload_n 0, 1) := by decide +kernel
theorem dX8_setGrey_28 : decode cX8_setGrey 28 = .ok (.getfield 22, 3) := by decide +kernel
theorem dX8_setGrey_31 : decode cX8_setGrey 31 = .ok (.aload_n 0, 1) := by decide +kernel
theorem dX8_setGrey_32 : decode cX8_setGrey 32 = .ok (.getfield 10, 3) := by decide +kernel
theorem dX8_setGrey_35 : decode cX8_setGrey 35 = .ok (.invokevirtual 56, 3) := by decide +kernel
theorem dX8_setGrey_38 : decode cX8_setGrey 38 = .ok (.aload_n 0, 1) := by decide +kernel
theorem dX8_setGrey_39 : decode cX8_setGrey 39 = .ok (.getfield 10, 3) := by decide +kernel
theorem dX8_setGrey_42 : decode cX8_setGrey 42 = .ok (.iload_n 1, 1) := by decide +kernel
theorem dX8_setGrey_43 : decode cX8_setGrey 43 = .ok (.invokevirtual 82, 3) := by decide +kernel
theorem dX8_setGrey_46 : decode cX8_setGrey 46 = .ok (.istore_n 3, 1) := by decide +kernel
theorem dX8_setGrey_47 : decode cX8_setGrey 47 = .ok (.aload_n 0, 1) := by decide +kernel
theorem dX8_setGrey_48 : decode cX8_setGrey 48 = .ok (.getfield 10, 3) := by decide +kernel
theorem dX8_setGrey_51 : decode cX8_setGrey 51 = .ok (.iload_n 1, 1) := by decide +kernel
theorem dX8_setGrey_52 : decode cX8_setGrey 52 = .ok (.iload_n 2, 1) := by decide +kernel
theorem dX8_setGrey_53 : decode cX8_setGrey 53 = .ok (.invokevirtual 85, 3) := by decide +kernel
theorem dX8_setGrey_56 : decode cX8_setGrey 56 = .ok (.iload_n 3, 1) := by decide +kernel
theorem dX8_setGrey_57 : decode cX8_setGrey 57 = .ok (.ireturn, 1) := by decide +kernel
theorem dX8_watch_0 : decode cX8_watch 0 = .ok (.aload_n 0, 1) := by decide +kernel
theorem dX8_watch_1 : decode cX8_watch 1 = .ok (.iload_n 1, 1) := by decide +kernel
theorem dX8_watch_2 : decode cX8_watch 2 = .ok (.invokevirtual 89, 3) := by decide +kernel
theorem dX8_watch_5 : decode cX8_watch 5 = .ok (.astore_n 3, 1) := by decide +kernel
theorem dX8_watch_6 : decode cX8_watch 6 = .ok (.iload_n 2, 1) := by decide +kernel
theorem dX8_watch_7 : decode cX8_watch 7 = .ok (.iconst (-1), 1) := by decide +kernel
theorem dX8_watch_8 : decode cX8_watch 8 = .ok (.if_icmp .eq 13, 3) := by decide +kernel
theorem dX8_watch_11 : decode cX8_watch 11 = .ok (.iload_n 2, 1) := by decide +kernel
theorem dX8_watch_12 : decode cX8_watch 12 = .ok (.iconst 0, 1) := by decide +kernel
theorem dX8_watch_13 : decode cX8_watch 13 = .ok (.bipush 7, 2) := by decide +kernel
theorem dX8_watch_15 : decode cX8_watch 15 = .ok (.invokestatic 48, 3) := by decide +kernel
theorem dX8_watch_18 : decode cX8_watch 18 = .ok (.ifCond .eq 7, 3) := by decide +kernel
theorem dX8_watch_21 : decode cX8_watch 21 = .ok (.iconst 1, 1) := by decide +kernel
theorem dX8_watch_22 : decode cX8_watch 22 = .ok (.goto 4, 3) := by decide +kernel
theorem dX8_watch_25 : decode cX8_watch 25 = .ok (.iconst 0, 1) := by decide +kernel
theorem dX8_watch_26 : decode cX8_watch 26 = .ok (.invokestatic 52, 3) := by decide +kernel
theorem dX8_watch_29 : decode cX8_watch 29 = .ok (.aload_n 0, 1) := by decide +kernel
theorem dX8_watch_30 : decode cX8_watch 30 = .ok (.getfield 22, 3) := by decide +kernel
theorem dX8_watch_33 : decode cX8_watch 33 = .ok (.aload_n 0, 1) := by decide +kernel
theorem dX8_watch_34 : decode cX8_watch 34 = .ok (.getfield 10, 3) := by decide +kernel
theorem dX8_watch_37 : decode cX8_watch 37 = .ok (.invokevirtual 56, 3) := by decide +kernel
theorem dX8_watch_40 : decode cX8_watch 40 = .ok (.aload_n 3, 1) := by decide +kernel
theorem dX8_watch_41 : decode cX8_watch 41 = .ok (.getfield 93, 3) := by decide +kernel
theorem dX8_watch_44 : decode cX8_watch 44 = .ok (.istore 4, 2) := by decide +kernel
theorem dX8_watch_46 : decode cX8_watch 46 = .ok (.aload_n 3, 1) := by decide +kernel
theorem dX8_watch_47 : decode cX8_watch 47 = .ok (.iload_n 2, 1) := by decide +kernel
theorem dX8_watch_48 : decode cX8_watch 48 = .ok (.putfield 93, 3) := by decide +kernel
theorem dX8_watch_51 : decode cX8_watch 51 = .ok (.iload 4, 2) := by decide +kernel
theorem dX8_watch_53 : decode cX8_watch 53 = .ok (.ireturn, 1) := by decide +kernel
theorem dX8_setBias_0 : decode cX8_setBias 0 = .ok (.aload_n 0, 1) := by decide +kernel
theorem dX8_setBias_1 : decode cX8_setBias 1 = .ok (.iload_n 1, 1) := by decide +kernel
theorem dX8_setBias_2 : decode cX8_setBias 2 = .ok (.invokevirtual 89, 3) := by decide +kernel
theorem dX8_setBias_5 : decode cX8_setBias 5 = .ok (.astore_n 3, 1) := by decide +kernel
theorem dX8_setBias_6 : decode cX8_setBias 6 = .ok (.iload_n 2, 1) := by decide +kernel
theorem dX8_setBias_7 : decode cX8_setBias 7 = .ok (.iconst (-1), 1) := by decide +kernel
theorem dX8_setBias_8 : decode cX8_setBias 8 = .ok (.iconst 1, 1) := by decide +kernel
theorem dX8_setBias_9 : decode cX8_setBias 9 = .ok (.invokestatic 48, 3) := by decide +kernel
theorem dX8_setBias_12 : decode cX8_setBias 12 = .ok (.invokestatic 52, 3) := by decide +kernel
theorem dX8_setBias_15 : decode cX8_setBias 15 = .ok (.aload_n 0, 1) := by decide +kernel
theorem dX8_setBias_16 : decode cX8_setBias 16 = .ok (.getfield 22, 3) := by decide +kernel
theorem dX8_setBias_19 : decode cX8_setBias 19 = .ok (.aload_n 0, 1) := by decide +kernel
theorem dX8_setBias_20 : decode cX8_setBias 20 = .ok (.getfield 10, 3) := by decide +kernel
theorem dX8_setBias_23 : decode cX8_setBias 23 = .ok (.invokevirtual 56, 3) := by decide +kernel
theorem dX8_setBias_26 : decode cX8_setBias 26 = .ok (.aload_n 3, 1) := by decide +kernel
theorem dX8_setBias_27 : decode cX8_setBias 27 = .ok (.getfield 98, 3) := by decide +kernel
theorem dX8_setBias_30 : decode cX8_setBias 30 = .ok (.istore 4, 2) := by decide +kernel
theorem dX8_setBias_32 : decode cX8_setBias 32 = .ok (.aload_n 3, 1) := by decide +kernel
theorem dX8_setBias_33 : decode cX8_setBias 33 = .ok (.iload_n 2, 1) := by decide +kernel
theorem dX8_setBias_34 : decode cX8_setBias 34 = .ok (.putfield 98, 3) := by decide +kernel
theorem dX8_setBias_37 : decode cX8_setBias 37 = .ok (.iload 4, 2) := by decide +kernel
theorem dX8_setBias_39 : decode cX8_setBias 39 = .ok (.iconst 1, 1) := by decide +kernel
theorem dX8_setBias_40 : decode cX8_setBias 40 = .ok (.iadd, 1) := by decide +kernel
theorem dX8_setBias_41 : decode cX8_setBias 41 = .ok (.ireturn, 1) := by decide +kernel
theorem dX8_setLimit_0 : decode cX8_setLimit 0 = .ok (.iload_n 1, 1) := by decide +kernel
theorem dX8_setLimit_1 : decode cX8_setLimit 1 = .ok (.iconst 1, 1) := by decide +kernel
theorem dX8_setLimit_2 : decode cX8_setLimit 2 = .ok (.iconst 5, 1) := by decide +kernel
theorem dX8_setLimit_3 : decode cX8_setLimit 3 = .ok (.invokestatic 48, 3) := by decide +kernel
theorem dX8_setLimit_6 : decode cX8_setLimit 6 = .ok (.ifCond .eq 17, 3) := by decide +kernel
theorem dX8_setLimit_9 : decode cX8_setLimit 9 = .ok (.iload_n 2, 1) := by decide +kernel
theorem dX8_setLimit_10 : decode cX8_setLimit 10 = .ok (.iconst 1, 1) := by decide +kernel
theorem dX8_setLimit_11 : decode cX8_setLimit 11 = .ok (.bipush 8, 2) := by decide +kernel
theorem dX8_setLimit_13 : decode cX8_setLimit 13 = .ok (.invokestatic 48, 3) := by decide +kernel
theorem dX8_setLimit_16 : decode cX8_setLimit 16 = .ok (.ifCond .eq 7, 3) := by decide +kernel
theorem dX8_setLimit_19 : decode cX8_setLimit 19 = .ok (.iconst 1, 1) := by decide +kernel
theorem dX8_setLimit_20 : decode cX8_setLimit 20 = .ok (.goto 4, 3) := by decide +kernel
theorem dX8_setLimit_23 : decode cX8_setLimit 23 = .ok (.iconst 0, 1) := by decide +kernel
theorem dX8_setLimit_24 : decode cX8_setLimit 24 = .ok (.invokestatic 52, 3) := by decide +kernel
theorem dX8_setLimit_27 : decode cX8_setLimit 27 = .ok (.aload_n 0, 1) := by decide +kernel
theorem dX8_setLimit_28 : decode cX8_setLimit 28 = .ok (.getfield 22, 3) := by decide +kernel
theorem dX8_setLimit_31 : decode cX8_setLimit 31 = .ok (.aload_n 0, 1) := by decide +kernel
theorem dX8_setLimit_32 : decode cX8_setLimit 32 = .ok (.getfield 10, 3) := by decide +kernel
theorem dX8_setLimit_35 : decode cX8_setLimit 35 = .ok (.invokevirtual 56, 3) := by decide +kernel
theorem dX8_setLimit_38 : decode cX8_setLimit 38 = .ok (.aload_n 0, 1) := by decide +kernel
theorem dX8_setLimit_39 : decode cX8_setLimit 39 = .ok (.getfield 10, 3) := by decide +kernel
theorem dX8_setLimit_42 : decode cX8_setLimit 42 = .ok (.getfield 101, 3) := by decide +kernel
theorem dX8_setLimit_45 : decode cX8_setLimit 45 = .ok (.istore_n 3, 1) := by decide +kernel
theorem dX8_setLimit_46 : decode cX8_setLimit 46 = .ok (.aload_n 0, 1) := by decide +kernel
theorem dX8_setLimit_47 : decode cX8_setLimit 47 = .ok (.getfield 10, 3) := by decide +kernel
theorem dX8_setLimit_50 : decode cX8_setLimit 50 = .ok (.iload_n 1, 1) := by decide +kernel
theorem dX8_setLimit_51 : decode cX8_setLimit 51 = .ok (.putfield 101, 3) := by decide +kernel
theorem dX8_setLimit_54 : decode cX8_setLimit 54 = .ok (.aload_n 0, 1) := by decide +kernel
theorem dX8_setLimit_55 : decode cX8_setLimit 55 = .ok (.getfield 10, 3) := by decide +kernel
theorem dX8_setLimit_58 : decode cX8_setLimit 58 = .ok (.iload_n 2, 1) := by decide +kernel
theorem dX8_setLimit_59 : decode cX8_setLimit 59 = .ok (.putfield 104, 3) := by decide +kernel
theorem dX8_setLimit_62 : decode cX8_setLimit 62 = .ok (.iload_n 3, 1) := by decide +kernel
theorem dX8_setLimit_63 : decode cX8_setLimit 63 = .ok (.ireturn, 1) := by decide +kernel
theorem dX8_pass_0 : decode cX8_pass 0 = .ok (.iload_n 1, 1) := by decide +kernel
theorem dX8_pass_1 : decode cX8_pass 1 = .ok (.iconst 1, 1) := by decide +kernel
theorem dX8_pass_2 : decode cX8_pass 2 = .ok (.sipush 200, 3) := by decide +kernel
theorem dX8_pass_5 : decode cX8_pass 5 = .ok (.invokestatic 48, 3) := by decide +kernel
theorem dX8_pass_8 : decode cX8_pass 8 = .ok (.invokestatic 52, 3) := by decide +kernel
theorem dX8_pass_11 : decode cX8_pass 11 = .ok (.aload_n 0, 1) := by decide +kernel
theorem dX8_pass_12 : decode cX8_pass 12 = .ok (.getfield 22, 3) := by decide +kernel
theorem dX8_pass_15 : decode cX8_pass 15 = .ok (.aload_n 0, 1) := by decide +kernel
theorem dX8_pass_16 : decode cX8_pass 16 = .ok (.getfield 10, 3) := by decide +kernel
theorem dX8_pass_19 : decode cX8_pass 19 = .ok (.invokevirtual 56, 3) := by decide +kernel
theorem dX8_pass_22 : decode cX8_pass 22 = .ok (.aload_n 0, 1) := by decide +kernel
theorem dX8_pass_23 : decode cX8_pass 23 = .ok (.getfield 10, 3) := by decide +kernel
theorem dX8_pass_26 : decode cX8_pass 26 = .ok (.iload_n 1, 1) := by decide +kernel
theorem dX8_pass_27 : decode cX8_pass 27 = .ok (.invokevirtual 107, 3) := by decide +kernel
theorem dX8_pass_30 : decode cX8_pass 30 = .ok (.ireturn, 1) := by decide +kernel
theorem dX8_appeal_0 : decode cX8_appeal 0 = .ok (.aload_n 0, 1) := by decide +kernel
theorem dX8_appeal_1 : decode cX8_appeal 1 = .ok (.iload_n 1, 1) := by decide +kernel
theorem dX8_appeal_2 : decode cX8_appeal 2 = .ok (.invokevirtual 110, 3) := by decide +kernel
theorem dX8_appeal_5 : decode cX8_appeal 5 = .ok (.astore_n 2, 1) := by decide +kernel
theorem dX8_appeal_6 : decode cX8_appeal 6 = .ok (.aload_n 2, 1) := by decide +kernel
theorem dX8_appeal_7 : decode cX8_appeal 7 = .ok (.getfield 114, 3) := by decide +kernel
theorem dX8_appeal_10 : decode cX8_appeal 10 = .ok (.ifCond .eq 13, 3) := by decide +kernel
theorem dX8_appeal_13 : decode cX8_appeal 13 = .ok (.new 120, 3) := by decide +kernel
theorem dX8_appeal_16 : decode cX8_appeal 16 = .ok (.dup, 1) := by decide +kernel
theorem dX8_appeal_17 : decode cX8_appeal 17 = .ok (.ldc 122, 2) := by decide +kernel
theorem dX8_appeal_19 : decode cX8_appeal 19 = .ok (.invokespecial 124, 3) := by decide +kernel
theorem dX8_appeal_22 : decode cX8_appeal 22 = .ok (.athrow, 1) := by decide +kernel
theorem dX8_appeal_23 : decode cX8_appeal 23 = .ok (.aload_n 0, 1) := by decide +kernel
theorem dX8_appeal_24 : decode cX8_appeal 24 = .ok (.getfield 22, 3) := by decide +kernel
theorem dX8_appeal_27 : decode cX8_appeal 27 = .ok (.aload_n 0, 1) := by decide +kernel
theorem dX8_appeal_28 : decode cX8_appeal 28 = .ok (.getfield 10, 3) := by decide +kernel
theorem dX8_appeal_31 : decode cX8_appeal 31 = .ok (.invokevirtual 56, 3) := by decide +kernel
theorem dX8_appeal_34 : decode cX8_appeal 34 = .ok (.aload_n 0, 1) := by decide +kernel
theorem dX8_appeal_35 : decode cX8_appeal 35 = .ok (.getfield 10, 3) := by decide +kernel
theorem dX8_appeal_38 : decode cX8_appeal 38 = .ok (.aload_n 2, 1) := by decide +kernel
theorem dX8_appeal_39 : decode cX8_appeal 39 = .ok (.invokevirtual 127, 3) := by decide +kernel
theorem dX8_appeal_42 : decode cX8_appeal 42 = .ok (.aload_n 2, 1) := by decide +kernel
theorem dX8_appeal_43 : decode cX8_appeal 43 = .ok (.getfield 131, 3) := by decide +kernel
theorem dX8_appeal_46 : decode cX8_appeal 46 = .ok (.ifCond .ne 7, 3) := by decide +kernel
theorem dX8_appeal_49 : decode cX8_appeal 49 = .ok (.iconst 1, 1) := by decide +kernel
theorem dX8_appeal_50 : decode cX8_appeal 50 = .ok (.goto 4, 3) := by decide +kernel
theorem dX8_appeal_53 : decode cX8_appeal 53 = .ok (.iconst 0, 1) := by decide +kernel
theorem dX8_appeal_54 : decode cX8_appeal 54 = .ok (.ireturn, 1) := by decide +kernel
theorem dX8_shadeOf_0 : decode cX8_shadeOf 0 = .ok (.aload_n 0, 1) := by decide +kernel
theorem dX8_shadeOf_1 : decode cX8_shadeOf 1 = .ok (.getfield 10, 3) := by decide +kernel
theorem dX8_shadeOf_4 : decode cX8_shadeOf 4 = .ok (.iload_n 1, 1) := by decide +kernel
theorem dX8_shadeOf_5 : decode cX8_shadeOf 5 = .ok (.invokestatic 44, 3) := by decide +kernel
theorem dX8_shadeOf_8 : decode cX8_shadeOf 8 = .ok (.astore_n 3, 1) := by decide +kernel
theorem dX8_shadeOf_9 : decode cX8_shadeOf 9 = .ok (.iload_n 2, 1) := by decide +kernel
theorem dX8_shadeOf_10 : decode cX8_shadeOf 10 = .ok (.invokestatic 169, 3) := by decide +kernel
theorem dX8_shadeOf_13 : decode cX8_shadeOf 13 = .ok (.invokestatic 52, 3) := by decide +kernel
theorem dX8_shadeOf_16 : decode cX8_shadeOf 16 = .ok (.aload_n 3, 1) := by decide +kernel
theorem dX8_shadeOf_17 : decode cX8_shadeOf 17 = .ok (.iload_n 2, 1) := by decide +kernel
theorem dX8_shadeOf_18 : decode cX8_shadeOf 18 = .ok (.invokevirtual 78, 3) := by decide +kernel
theorem dX8_shadeOf_21 : decode cX8_shadeOf 21 = .ok (.ireturn, 1) := by decide +kernel
theorem dX8_nextStoking_0 : decode cX8_nextStoking 0 = .ok (.aload_n 0, 1) := by decide +kernel
theorem dX8_nextStoking_1 : decode cX8_nextStoking 1 = .ok (.getfield 10, 3) := by decide +kernel
theorem dX8_nextStoking_4 : decode cX8_nextStoking 4 = .ok (.iload_n 1, 1) := by decide +kernel
theorem dX8_nextStoking_5 : decode cX8_nextStoking 5 = .ok (.invokestatic 44, 3) := by decide +kernel
theorem dX8_nextStoking_8 : decode cX8_nextStoking 8 = .ok (.astore_n 3, 1) := by decide +kernel
theorem dX8_nextStoking_9 : decode cX8_nextStoking 9 = .ok (.iload_n 2, 1) := by decide +kernel
theorem dX8_nextStoking_10 : decode cX8_nextStoking 10 = .ok (.invokestatic 169, 3) := by decide +kernel
theorem dX8_nextStoking_13 : decode cX8_nextStoking 13 = .ok (.invokestatic 52, 3) := by decide +kernel
theorem dX8_nextStoking_16 : decode cX8_nextStoking 16 = .ok (.aload_n 3, 1) := by decide +kernel
theorem dX8_nextStoking_17 : decode cX8_nextStoking 17 = .ok (.iload_n 2, 1) := by decide +kernel
theorem dX8_nextStoking_18 : decode cX8_nextStoking 18 = .ok (.invokevirtual 173, 3) := by decide +kernel
theorem dX8_nextStoking_21 : decode cX8_nextStoking 21 = .ok (.ireturn, 1) := by decide +kernel
theorem dX8_smoke_0 : decode cX8_smoke 0 = .ok (.aload_n 0, 1) := by decide +kernel
theorem dX8_smoke_1 : decode cX8_smoke 1 = .ok (.getfield 10, 3) := by decide +kernel
theorem dX8_smoke_4 : decode cX8_smoke 4 = .ok (.iload_n 1, 1) := by decide +kernel
theorem dX8_smoke_5 : decode cX8_smoke 5 = .ok (.invokestatic 44, 3) := by decide +kernel
theorem dX8_smoke_8 : decode cX8_smoke 8 = .ok (.astore 5, 2) := by decide +kernel
theorem dX8_smoke_10 : decode cX8_smoke 10 = .ok (.iload_n 2, 1) := by decide +kernel
theorem dX8_smoke_11 : decode cX8_smoke 11 = .ok (.invokestatic 169, 3) := by decide +kernel
theorem dX8_smoke_14 : decode cX8_smoke 14 = .ok (.ifCond .eq 19, 3) := by decide +kernel
theorem dX8_smoke_17 : decode cX8_smoke 17 = .ok (.iload_n 3, 1) := by decide +kernel
theorem dX8_smoke_18 : decode cX8_smoke 18 = .ok (.invokestatic 169, 3) := by decide +kernel
theorem dX8_smoke_21 : decode cX8_smoke 21 = .ok (.ifCond .eq 12, 3) := by decide +kernel
theorem dX8_smoke_24 : decode cX8_smoke 24 = .ok (.iload_n 2, 1) := by decide +kernel
theorem dX8_smoke_25 : decode cX8_smoke 25 = .ok (.iload_n 3, 1) := by decide +kernel
theorem dX8_smoke_26 : decode cX8_smoke 26 = .ok (.if_icmp .gt 7, 3) := by decide +kernel
theorem dX8_smoke_29 : decode cX8_smoke 29 = .ok (.iconst 1, 1) := by decide +kernel
theorem dX8_smoke_30 : decode cX8_smoke 30 = .ok (.goto 4, 3) := by decide +kernel
theorem dX8_smoke_33 : decode cX8_smoke 33 = .ok (.iconst 0, 1) := by decide +kernel
theorem dX8_smoke_34 : decode cX8_smoke 34 = .ok (.invokestatic 52, 3) := by decide +kernel
theorem dX8_smoke_37 : decode cX8_smoke 37 = .ok (.iload 4, 2) := by decide +kernel
theorem dX8_smoke_39 : decode cX8_smoke 39 = .ok (.ifCond .eq 13, 3) := by decide +kernel
theorem dX8_smoke_42 : decode cX8_smoke 42 = .ok (.aload 5, 2) := by decide +kernel
theorem dX8_smoke_44 : decode cX8_smoke 44 = .ok (.iload_n 2, 1) := by decide +kernel
theorem dX8_smoke_45 : decode cX8_smoke 45 = .ok (.iload_n 3, 1) := by decide +kernel
theorem dX8_smoke_46 : decode cX8_smoke 46 = .ok (.invokevirtual 176, 3) := by decide +kernel
theorem dX8_smoke_49 : decode cX8_smoke 49 = .ok (.goto 10, 3) := by decide +kernel
theorem dX8_smoke_52 : decode cX8_smoke 52 = .ok (.aload 5, 2) := by decide +kernel
theorem dX8_smoke_54 : decode cX8_smoke 54 = .ok (.iload_n 2, 1) := by decide +kernel
theorem dX8_smoke_55 : decode cX8_smoke 55 = .ok (.iload_n 3, 1) := by decide +kernel
theorem dX8_smoke_56 : decode cX8_smoke 56 = .ok (.invokevirtual 180, 3) := by decide +kernel
theorem dX8_smoke_59 : decode cX8_smoke 59 = .ok (.ireturn, 1) := by decide +kernel
theorem dX8_greyOf_0 : decode cX8_greyOf 0 = .ok (.iload_n 1, 1) := by decide +kernel
theorem dX8_greyOf_1 : decode cX8_greyOf 1 = .ok (.iconst 0, 1) := by decide +kernel
theorem dX8_greyOf_2 : decode cX8_greyOf 2 = .ok (.bipush 23, 2) := by decide +kernel
theorem dX8_greyOf_4 : decode cX8_greyOf 4 = .ok (.invokestatic 48, 3) := by decide +kernel
theorem dX8_greyOf_7 : decode cX8_greyOf 7 = .ok (.invokestatic 52, 3) := by decide +kernel
theorem dX8_greyOf_10 : decode cX8_greyOf 10 = .ok (.aload_n 0, 1) := by decide +kernel
theorem dX8_greyOf_11 : decode cX8_greyOf 11 = .ok (.getfield 10, 3) := by decide +kernel
theorem dX8_greyOf_14 : decode cX8_greyOf 14 = .ok (.iload_n 1, 1) := by decide +kernel
theorem dX8_greyOf_15 : decode cX8_greyOf 15 = .ok (.invokevirtual 82, 3) := by decide +kernel
theorem dX8_greyOf_18 : decode cX8_greyOf 18 = .ok (.ireturn, 1) := by decide +kernel
theorem dX8_time_0 : decode cX8_time 0 = .ok (.bipush 96, 2) := by decide +kernel
theorem dX8_time_2 : decode cX8_time 2 = .ok (.aload_n 0, 1) := by decide +kernel
theorem dX8_time_3 : decode cX8_time 3 = .ok (.getfield 10, 3) := by decide +kernel
theorem dX8_time_6 : decode cX8_time 6 = .ok (.getfield 183, 3) := by decide +kernel
theorem dX8_time_9 : decode cX8_time 9 = .ok (.imul, 1) := by decide +kernel
theorem dX8_time_10 : decode cX8_time 10 = .ok (.aload_n 0, 1) := by decide +kernel
theorem dX8_time_11 : decode cX8_time 11 = .ok (.getfield 10, 3) := by decide +kernel
theorem dX8_time_14 : decode cX8_time 14 = .ok (.getfield 75, 3) := by decide +kernel
theorem dX8_time_17 : decode cX8_time 17 = .ok (.iadd, 1) := by decide +kernel
theorem dX8_time_18 : decode cX8_time 18 = .ok (.ireturn, 1) := by decide +kernel
theorem dX8_watchedBy_0 : decode cX8_watchedBy 0 = .ok (.aload_n 0, 1) := by decide +kernel
theorem dX8_watchedBy_1 : decode cX8_watchedBy 1 = .ok (.iload_n 1, 1) := by decide +kernel
theorem dX8_watchedBy_2 : decode cX8_watchedBy 2 = .ok (.invokevirtual 89, 3) := by decide +kernel
theorem dX8_watchedBy_5 : decode cX8_watchedBy 5 = .ok (.getfield 93, 3) := by decide +kernel
theorem dX8_watchedBy_8 : decode cX8_watchedBy 8 = .ok (.ireturn, 1) := by decide +kernel
theorem dX8_tirednessOf_0 : decode cX8_tirednessOf 0 = .ok (.aload_n 0, 1) := by decide +kernel
theorem dX8_tirednessOf_1 : decode cX8_tirednessOf 1 = .ok (.iload_n 1, 1) := by decide +kernel
theorem dX8_tirednessOf_2 : decode cX8_tirednessOf 2 = .ok (.invokevirtual 89, 3) := by decide +kernel
theorem dX8_tirednessOf_5 : decode cX8_tirednessOf 5 = .ok (.getfield 186, 3) := by decide +kernel
theorem dX8_tirednessOf_8 : decode cX8_tirednessOf 8 = .ok (.ireturn, 1) := by decide +kernel
theorem dX8_wouldRead_0 : decode cX8_wouldRead 0 = .ok (.aload_n 0, 1) := by decide +kernel
theorem dX8_wouldRead_1 : decode cX8_wouldRead 1 = .ok (.iload_n 1, 1) := by decide +kernel
theorem dX8_wouldRead_2 : decode cX8_wouldRead 2 = .ok (.invokevirtual 89, 3) := by decide +kernel
theorem dX8_wouldRead_5 : decode cX8_wouldRead 5 = .ok (.astore_n 3, 1) := by decide +kernel
theorem dX8_wouldRead_6 : decode cX8_wouldRead 6 = .ok (.aload_n 0, 1) := by decide +kernel
theorem dX8_wouldRead_7 : decode cX8_wouldRead 7 = .ok (.getfield 10, 3) := by decide +kernel
theorem dX8_wouldRead_10 : decode cX8_wouldRead 10 = .ok (.iload_n 2, 1) := by decide +kernel
theorem dX8_wouldRead_11 : decode cX8_wouldRead 11 = .ok (.invokestatic 44, 3) := by decide +kernel
theorem dX8_wouldRead_14 : decode cX8_wouldRead 14 = .ok (.aload_n 0, 1) := by decide +kernel
theorem dX8_wouldRead_15 : decode cX8_wouldRead 15 = .ok (.getfield 10, 3) := by decide +kernel
theorem dX8_wouldRead_18 : decode cX8_wouldRead 18 = .ok (.getfield 75, 3) := by decide +kernel
theorem dX8_wouldRead_21 : decode cX8_wouldRead 21 = .ok (.invokevirtual 78, 3) := by decide +kernel
theorem dX8_wouldRead_24 : decode cX8_wouldRead 24 = .ok (.istore 4, 2) := by decide +kernel
theorem dX8_wouldRead_26 : decode cX8_wouldRead 26 = .ok (.aload_n 3, 1) := by decide +kernel
theorem dX8_wouldRead_27 : decode cX8_wouldRead 27 = .ok (.iload 4, 2) := by decide +kernel
theorem dX8_wouldRead_29 : decode cX8_wouldRead 29 = .ok (.aload_n 0, 1) := by decide +kernel
theorem dX8_wouldRead_30 : decode cX8_wouldRead 30 = .ok (.getfield 10, 3) := by decide +kernel
theorem dX8_wouldRead_33 : decode cX8_wouldRead 33 = .ok (.aload_n 0, 1) := by decide +kernel
theorem dX8_wouldRead_34 : decode cX8_wouldRead 34 = .ok (.getfield 10, 3) := by decide +kernel
theorem dX8_wouldRead_37 : decode cX8_wouldRead 37 = .ok (.getfield 75, 3) := by decide +kernel
theorem dX8_wouldRead_40 : decode cX8_wouldRead 40 = .ok (.invokevirtual 189, 3) := by decide +kernel
theorem dX8_wouldRead_43 : decode cX8_wouldRead 43 = .ok (.invokevirtual 192, 3) := by decide +kernel
theorem dX8_wouldRead_46 : decode cX8_wouldRead 46 = .ok (.ireturn, 1) := by decide +kernel
theorem dX8_readingOf_0 : decode cX8_readingOf 0 = .ok (.aload_n 0, 1) := by decide +kernel
theorem dX8_readingOf_1 : decode cX8_readingOf 1 = .ok (.getfield 10, 3) := by decide +kernel
theorem dX8_readingOf_4 : decode cX8_readingOf 4 = .ok (.iload_n 1, 1) := by decide +kernel
theorem dX8_readingOf_5 : decode cX8_readingOf 5 = .ok (.invokestatic 44, 3) := by decide +kernel
theorem dX8_readingOf_8 : decode cX8_readingOf 8 = .ok (.astore_n 3, 1) := by decide +kernel
theorem dX8_readingOf_9 : decode cX8_readingOf 9 = .ok (.iload_n 2, 1) := by decide +kernel
theorem dX8_readingOf_10 : decode cX8_readingOf 10 = .ok (.invokestatic 169, 3) := by decide +kernel
theorem dX8_readingOf_13 : decode cX8_readingOf 13 = .ok (.invokestatic 52, 3) := by decide +kernel
theorem dX8_readingOf_16 : decode cX8_readingOf 16 = .ok (.aload_n 3, 1) := by decide +kernel
theorem dX8_readingOf_17 : decode cX8_readingOf 17 = .ok (.getfield 195, 3) := by decide +kernel
theorem dX8_readingOf_20 : decode cX8_readingOf 20 = .ok (.iload_n 2, 1) := by decide +kernel
theorem dX8_readingOf_21 : decode cX8_readingOf 21 = .ok (.invokevirtual 199, 3) := by decide +kernel
theorem dX8_readingOf_24 : decode cX8_readingOf 24 = .ok (.ireturn, 1) := by decide +kernel
theorem dX8_readingsFrom_0 : decode cX8_readingsFrom 0 = .ok (.aload_n 0, 1) := by decide +kernel
theorem dX8_readingsFrom_1 : decode cX8_readingsFrom 1 = .ok (.getfield 10, 3) := by decide +kernel
theorem dX8_readingsFrom_4 : decode cX8_readingsFrom 4 = .ok (.iload_n 1, 1) := by decide +kernel
theorem dX8_readingsFrom_5 : decode cX8_readingsFrom 5 = .ok (.invokestatic 44, 3) := by decide +kernel
theorem dX8_readingsFrom_8 : decode cX8_readingsFrom 8 = .ok (.astore_n 3, 1) := by decide +kernel
theorem dX8_readingsFrom_9 : decode cX8_readingsFrom 9 = .ok (.iload_n 2, 1) := by decide +kernel
theorem dX8_readingsFrom_10 : decode cX8_readingsFrom 10 = .ok (.iconst 0, 1) := by decide +kernel
theorem dX8_readingsFrom_11 : decode cX8_readingsFrom 11 = .ok (.iconst 5, 1) := by decide +kernel
theorem dX8_readingsFrom_12 : decode cX8_readingsFrom 12 = .ok (.invokestatic 48, 3) := by decide +kernel
theorem dX8_readingsFrom_15 : decode cX8_readingsFrom 15 = .ok (.invokestatic 52, 3) := by decide +kernel
theorem dX8_readingsFrom_18 : decode cX8_readingsFrom 18 = .ok (.aload_n 3, 1) := by decide +kernel
theorem dX8_readingsFrom_19 : decode cX8_readingsFrom 19 = .ok (.getfield 195, 3) := by decide +kernel
theorem dX8_readingsFrom_22 : decode cX8_readingsFrom 22 = .ok (.iload_n 2, 1) := by decide +kernel
theorem dX8_readingsFrom_23 : decode cX8_readingsFrom 23 = .ok (.invokevirtual 204, 3) := by decide +kernel
theorem dX8_readingsFrom_26 : decode cX8_readingsFrom 26 = .ok (.ireturn, 1) := by decide +kernel
theorem dX8_longestRow_0 : decode cX8_longestRow 0 = .ok (.aload_n 0, 1) := by decide +kernel
theorem dX8_longestRow_1 : decode cX8_longestRow 1 = .ok (.getfield 10, 3) := by decide +kernel
theorem dX8_longestRow_4 : decode cX8_longestRow 4 = .ok (.iload_n 1, 1) := by decide +kernel
theorem dX8_longestRow_5 : decode cX8_longestRow 5 = .ok (.invokestatic 44, 3) := by decide +kernel
theorem dX8_longestRow_8 : decode cX8_longestRow 8 = .ok (.astore 4, 2) := by decide +kernel
theorem dX8_longestRow_10 : decode cX8_longestRow 10 = .ok (.iload_n 2, 1) := by decide +kernel
theorem dX8_longestRow_11 : decode cX8_longestRow 11 = .ok (.iconst 0, 1) := by decide +kernel
theorem dX8_longestRow_12 : decode cX8_longestRow 12 = .ok (.iconst 5, 1) := by decide +kernel
theorem dX8_longestRow_13 : decode cX8_longestRow 13 = .ok (.invokestatic 48, 3) := by decide +kernel
theorem dX8_longestRow_16 : decode cX8_longestRow 16 = .ok (.invokestatic 52, 3) := by decide +kernel
theorem dX8_longestRow_19 : decode cX8_longestRow 19 = .ok (.iload_n 3, 1) := by decide +kernel
theorem dX8_longestRow_20 : decode cX8_longestRow 20 = .ok (.ifCond .eq 15, 3) := by decide +kernel
theorem dX8_longestRow_23 : decode cX8_longestRow 23 = .ok (.aload 4, 2) := by decide +kernel
theorem dX8_longestRow_25 : decode cX8_longestRow 25 = .ok (.getfield 195, 3) := by decide +kernel
theorem dX8_longestRow_28 : decode cX8_longestRow 28 = .ok (.iload_n 2, 1) := by decide +kernel
theorem dX8_longestRow_29 : decode cX8_longestRow 29 = .ok (.invokevirtual 207, 3) := by decide +kernel
theorem dX8_longestRow_32 : decode cX8_longestRow 32 = .ok (.goto 12, 3) := by decide +kernel
theorem dX8_longestRow_35 : decode cX8_longestRow 35 = .ok (.aload 4, 2) := by decide +kernel
theorem dX8_longestRow_37 : decode cX8_longestRow 37 = .ok (.getfield 195, 3) := by decide +kernel
theorem dX8_longestRow_40 : decode cX8_longestRow 40 = .ok (.iload_n 2, 1) := by decide +kernel
theorem dX8_longestRow_41 : decode cX8_longestRow 41 = .ok (.invokevirtual 210, 3) := by decide +kernel
theorem dX8_longestRow_44 : decode cX8_longestRow 44 = .ok (.ireturn, 1) := by decide +kernel
theorem dX8_errorsOf_0 : decode cX8_errorsOf 0 = .ok (.aload_n 0, 1) := by decide +kernel
theorem dX8_errorsOf_1 : decode cX8_errorsOf 1 = .ok (.iload_n 1, 1) := by decide +kernel
theorem dX8_errorsOf_2 : decode cX8_errorsOf 2 = .ok (.invokevirtual 89, 3) := by decide +kernel
theorem dX8_errorsOf_5 : decode cX8_errorsOf 5 = .ok (.getfield 213, 3) := by decide +kernel
theorem dX8_errorsOf_8 : decode cX8_errorsOf 8 = .ok (.ireturn, 1) := by decide +kernel
theorem dX8_notices_0 : decode cX8_notices 0 = .ok (.aload_n 0, 1) := by decide +kernel
theorem dX8_notices_1 : decode cX8_notices 1 = .ok (.getfield 10, 3) := by decide +kernel
theorem dX8_notices_4 : decode cX8_notices 4 = .ok (.getfield 138, 3) := by decide +kernel
theorem dX8_notices_7 : decode cX8_notices 7 = .ok (.ireturn, 1) := by decide +kernel
theorem dX8_chimneyOf_0 : decode cX8_chimneyOf 0 = .ok (.aload_n 0, 1) := by decide +kernel
theorem dX8_chimneyOf_1 : decode cX8_chimneyOf 1 = .ok (.iload_n 1, 1) := by decide +kernel
theorem dX8_chimneyOf_2 : decode cX8_chimneyOf 2 = .ok (.invokevirtual 110, 3) := by decide +kernel
theorem dX8_chimneyOf_5 : decode cX8_chimneyOf 5 = .ok (.getfield 219, 3) := by decide +kernel
theorem dX8_chimneyOf_8 : decode cX8_chimneyOf 8 = .ok (.ireturn, 1) := by decide +kernel
theorem dX8_fineOf_0 : decode cX8_fineOf 0 = .ok (.aload_n 0, 1) := by decide +kernel
theorem dX8_fineOf_1 : decode cX8_fineOf 1 = .ok (.iload_n 1, 1) := by decide +kernel
theorem dX8_fineOf_2 : decode cX8_fineOf 2 = .ok (.invokevirtual 110, 3) := by decide +kernel
theorem dX8_fineOf_5 : decode cX8_fineOf 5 = .ok (.getfield 222, 3) := by decide +kernel
theorem dX8_fineOf_8 : decode cX8_fineOf 8 = .ok (.ireturn, 1) := by decide +kernel
theorem dX8_stands_0 : decode cX8_stands 0 = .ok (.aload_n 0, 1) := by decide +kernel
theorem dX8_stands_1 : decode cX8_stands 1 = .ok (.iload_n 1, 1) := by decide +kernel
theorem dX8_stands_2 : decode cX8_stands 2 = .ok (.invokevirtual 110, 3) := by decide +kernel
theorem dX8_stands_5 : decode cX8_stands 5 = .ok (.getfield 131, 3) := by decide +kernel
theorem dX8_stands_8 : decode cX8_stands 8 = .ok (.ireturn, 1) := by decide +kernel
theorem dX8_wouldAppeal_0 : decode cX8_wouldAppeal 0 = .ok (.aload_n 0, 1) := by decide +kernel
theorem dX8_wouldAppeal_1 : decode cX8_wouldAppeal 1 = .ok (.iload_n 1, 1) := by decide +kernel
theorem dX8_wouldAppeal_2 : decode cX8_wouldAppeal 2 = .ok (.invokevirtual 110, 3) := by decide +kernel
theorem dX8_wouldAppeal_5 : decode cX8_wouldAppeal 5 = .ok (.invokevirtual 225, 3) := by decide +kernel
theorem dX8_wouldAppeal_8 : decode cX8_wouldAppeal 8 = .ok (.ireturn, 1) := by decide +kernel
theorem dX8_finesOf_0 : decode cX8_finesOf 0 = .ok (.aload_n 0, 1) := by decide +kernel
theorem dX8_finesOf_1 : decode cX8_finesOf 1 = .ok (.getfield 10, 3) := by decide +kernel
theorem dX8_finesOf_4 : decode cX8_finesOf 4 = .ok (.iload_n 1, 1) := by decide +kernel
theorem dX8_finesOf_5 : decode cX8_finesOf 5 = .ok (.invokestatic 44, 3) := by decide +kernel
theorem dX8_finesOf_8 : decode cX8_finesOf 8 = .ok (.astore_n 3, 1) := by decide +kernel
theorem dX8_finesOf_9 : decode cX8_finesOf 9 = .ok (.iload_n 2, 1) := by decide +kernel
theorem dX8_finesOf_10 : decode cX8_finesOf 10 = .ok (.ifCond .eq 10, 3) := by decide +kernel
theorem dX8_finesOf_13 : decode cX8_finesOf 13 = .ok (.aload_n 3, 1) := by decide +kernel
theorem dX8_finesOf_14 : decode cX8_finesOf 14 = .ok (.invokevirtual 228, 3) := by decide +kernel
theorem dX8_finesOf_17 : decode cX8_finesOf 17 = .ok (.goto 11, 3) := by decide +kernel
theorem dX8_finesOf_20 : decode cX8_finesOf 20 = .ok (.aload_n 0, 1) := by decide +kernel
theorem dX8_finesOf_21 : decode cX8_finesOf 21 = .ok (.getfield 10, 3) := by decide +kernel
theorem dX8_finesOf_24 : decode cX8_finesOf 24 = .ok (.iload_n 1, 1) := by decide +kernel
theorem dX8_finesOf_25 : decode cX8_finesOf 25 = .ok (.invokevirtual 231, 3) := by decide +kernel
theorem dX8_finesOf_28 : decode cX8_finesOf 28 = .ok (.ireturn, 1) := by decide +kernel
theorem dX8_undo_0 : decode cX8_undo 0 = .ok (.aload_n 0, 1) := by decide +kernel
theorem dX8_undo_1 : decode cX8_undo 1 = .ok (.getfield 22, 3) := by decide +kernel
theorem dX8_undo_4 : decode cX8_undo 4 = .ok (.getfield 280, 3) := by decide +kernel
theorem dX8_undo_7 : decode cX8_undo 7 = .ok (.ifCond .ne 14, 3) := by decide +kernel
theorem dX8_undo_10 : decode cX8_undo 10 = .ok (.new 120, 3) := by decide +kernel
theorem dX8_undo_13 : decode cX8_undo 13 = .ok (.dup, 1) := by decide +kernel
theorem dX8_undo_14 : decode cX8_undo 14 = .ok (.ldc_w 283, 3) := by decide +kernel
theorem dX8_undo_17 : decode cX8_undo 17 = .ok (.invokespecial 124, 3) := by decide +kernel
theorem dX8_undo_20 : decode cX8_undo 20 = .ok (.athrow, 1) := by decide +kernel
theorem dX8_undo_21 : decode cX8_undo 21 = .ok (.aload_n 0, 1) := by decide +kernel
theorem dX8_undo_22 : decode cX8_undo 22 = .ok (.getfield 22, 3) := by decide +kernel
theorem dX8_undo_25 : decode cX8_undo 25 = .ok (.aload_n 0, 1) := by decide +kernel
theorem dX8_undo_26 : decode cX8_undo 26 = .ok (.getfield 10, 3) := by decide +kernel
theorem dX8_undo_29 : decode cX8_undo 29 = .ok (.invokevirtual 285, 3) := by decide +kernel
theorem dX8_undo_32 : decode cX8_undo 32 = .ok (.aload_n 0, 1) := by decide +kernel
theorem dX8_undo_33 : decode cX8_undo 33 = .ok (.getfield 22, 3) := by decide +kernel
theorem dX8_undo_36 : decode cX8_undo 36 = .ok (.getfield 280, 3) := by decide +kernel
theorem dX8_undo_39 : decode cX8_undo 39 = .ok (.ireturn, 1) := by decide +kernel
theorem dX8_save_0 : decode cX8_save 0 = .ok (.aload_n 0, 1) := by decide +kernel
theorem dX8_save_1 : decode cX8_save 1 = .ok (.iload_n 1, 1) := by decide +kernel
theorem dX8_save_2 : decode cX8_save 2 = .ok (.invokevirtual 288, 3) := by decide +kernel
theorem dX8_save_5 : decode cX8_save 5 = .ok (.astore_n 2, 1) := by decide +kernel
theorem dX8_save_6 : decode cX8_save 6 = .ok (.aload_n 2, 1) := by decide +kernel
theorem dX8_save_7 : decode cX8_save 7 = .ok (.getfield 292, 3) := by decide +kernel
theorem dX8_save_10 : decode cX8_save 10 = .ok (.aload_n 0, 1) := by decide +kernel
theorem dX8_save_11 : decode cX8_save 11 = .ok (.getfield 10, 3) := by decide +kernel
theorem dX8_save_14 : decode cX8_save 14 = .ok (.invokevirtual 252, 3) := by decide +kernel
theorem dX8_save_17 : decode cX8_save 17 = .ok (.aload_n 2, 1) := by decide +kernel
theorem dX8_save_18 : decode cX8_save 18 = .ok (.iconst 1, 1) := by decide +kernel
theorem dX8_save_19 : decode cX8_save 19 = .ok (.putfield 295, 3) := by decide +kernel
theorem dX8_save_22 : decode cX8_save 22 = .ok (.aload_n 0, 1) := by decide +kernel
theorem dX8_save_23 : decode cX8_save 23 = .ok (.getfield 10, 3) := by decide +kernel
theorem dX8_save_26 : decode cX8_save 26 = .ok (.invokevirtual 298, 3) := by decide +kernel
theorem dX8_save_29 : decode cX8_save 29 = .ok (.ireturn, 1) := by decide +kernel
theorem dX8_restore_0 : decode cX8_restore 0 = .ok (.aload_n 0, 1) := by decide +kernel
theorem dX8_restore_1 : decode cX8_restore 1 = .ok (.iload_n 1, 1) := by decide +kernel
theorem dX8_restore_2 : decode cX8_restore 2 = .ok (.invokevirtual 288, 3) := by decide +kernel
theorem dX8_restore_5 : decode cX8_restore 5 = .ok (.astore_n 2, 1) := by decide +kernel
theorem dX8_restore_6 : decode cX8_restore 6 = .ok (.aload_n 2, 1) := by decide +kernel
theorem dX8_restore_7 : decode cX8_restore 7 = .ok (.getfield 295, 3) := by decide +kernel
theorem dX8_restore_10 : decode cX8_restore 10 = .ok (.ifCond .ne 14, 3) := by decide +kernel
theorem dX8_restore_13 : decode cX8_restore 13 = .ok (.new 120, 3) := by decide +kernel
theorem dX8_restore_16 : decode cX8_restore 16 = .ok (.dup, 1) := by decide +kernel
theorem dX8_restore_17 : decode cX8_restore 17 = .ok (.ldc_w 301, 3) := by decide +kernel
theorem dX8_restore_20 : decode cX8_restore 20 = .ok (.invokespecial 124, 3) := by decide +kernel
theorem dX8_restore_23 : decode cX8_restore 23 = .ok (.athrow, 1) := by decide +kernel
theorem dX8_restore_24 : decode cX8_restore 24 = .ok (.aload_n 0, 1) := by decide +kernel
theorem dX8_restore_25 : decode cX8_restore 25 = .ok (.getfield 22, 3) := by decide +kernel
theorem dX8_restore_28 : decode cX8_restore 28 = .ok (.aload_n 0, 1) := by decide +kernel
theorem dX8_restore_29 : decode cX8_restore 29 = .ok (.getfield 10, 3) := by decide +kernel
theorem dX8_restore_32 : decode cX8_restore 32 = .ok (.invokevirtual 56, 3) := by decide +kernel
theorem dX8_restore_35 : decode cX8_restore 35 = .ok (.aload_n 0, 1) := by decide +kernel
theorem dX8_restore_36 : decode cX8_restore 36 = .ok (.getfield 10, 3) := by decide +kernel
theorem dX8_restore_39 : decode cX8_restore 39 = .ok (.aload_n 2, 1) := by decide +kernel
theorem dX8_restore_40 : decode cX8_restore 40 = .ok (.getfield 292, 3) := by decide +kernel
theorem dX8_restore_43 : decode cX8_restore 43 = .ok (.invokevirtual 252, 3) := by decide +kernel
theorem dX8_restore_46 : decode cX8_restore 46 = .ok (.aload_n 0, 1) := by decide +kernel
theorem dX8_restore_47 : decode cX8_restore 47 = .ok (.getfield 10, 3) := by decide +kernel
theorem dX8_restore_50 : decode cX8_restore 50 = .ok (.invokevirtual 298, 3) := by decide +kernel
theorem dX8_restore_53 : decode cX8_restore 53 = .ok (.ireturn, 1) := by decide +kernel
theorem dX8_isWithin_0 : decode cX8_isWithin 0 = .ok (.iload_n 0, 1) := by decide +kernel
theorem dX8_isWithin_1 : decode cX8_isWithin 1 = .ok (.iload_n 1, 1) := by decide +kernel
theorem dX8_isWithin_2 : decode cX8_isWithin 2 = .ok (.if_icmp .lt 12, 3) := by decide +kernel
theorem dX8_isWithin_5 : decode cX8_isWithin 5 = .ok (.iload_n 0, 1) := by decide +kernel
theorem dX8_isWithin_6 : decode cX8_isWithin 6 = .ok (.iload_n 2, 1) := by decide +kernel
theorem dX8_isWithin_7 : decode cX8_isWithin 7 = .ok (.if_icmp .gt 7, 3) := by decide +kernel
theorem dX8_isWithin_10 : decode cX8_isWithin 10 = .ok (.iconst 1, 1) := by decide +kernel
theorem dX8_isWithin_11 : decode cX8_isWithin 11 = .ok (.goto 4, 3) := by decide +kernel
theorem dX8_isWithin_14 : decode cX8_isWithin 14 = .ok (.iconst 0, 1) := by decide +kernel
theorem dX8_isWithin_15 : decode cX8_isWithin 15 = .ok (.ireturn, 1) := by decide +kernel
theorem dX8_isTick_0 : decode cX8_isTick 0 = .ok (.iload_n 0, 1) := by decide +kernel
theorem dX8_isTick_1 : decode cX8_isTick 1 = .ok (.iconst 0, 1) := by decide +kernel
theorem dX8_isTick_2 : decode cX8_isTick 2 = .ok (.bipush 95, 2) := by decide +kernel
theorem dX8_isTick_4 : decode cX8_isTick 4 = .ok (.invokestatic 48, 3) := by decide +kernel
theorem dX8_isTick_7 : decode cX8_isTick 7 = .ok (.ireturn, 1) := by decide +kernel
theorem dX8_hold_0 : decode cX8_hold 0 = .ok (.iload_n 0, 1) := by decide +kernel
theorem dX8_hold_1 : decode cX8_hold 1 = .ok (.ifCond .ge 5, 3) := by decide +kernel
theorem dX8_hold_4 : decode cX8_hold 4 = .ok (.iconst 0, 1) := by decide +kernel
theorem dX8_hold_5 : decode cX8_hold 5 = .ok (.ireturn, 1) := by decide +kernel
theorem dX8_hold_6 : decode cX8_hold 6 = .ok (.iload_n 0, 1) := by decide +kernel
theorem dX8_hold_7 : decode cX8_hold 7 = .ok (.iconst 5, 1) := by decide +kernel
theorem dX8_hold_8 : decode cX8_hold 8 = .ok (.if_icmp .le 7, 3) := by decide +kernel
theorem dX8_hold_11 : decode cX8_hold 11 = .ok (.iconst 5, 1) := by decide +kernel
theorem dX8_hold_12 : decode cX8_hold 12 = .ok (.goto 4, 3) := by decide +kernel
theorem dX8_hold_15 : decode cX8_hold 15 = .ok (.iload_n 0, 1) := by decide +kernel
theorem dX8_hold_16 : decode cX8_hold 16 = .ok (.ireturn, 1) := by decide +kernel
theorem dX8_demand_0 : decode cX8_demand 0 = .ok (.iload_n 0, 1) := by decide +kernel
theorem dX8_demand_1 : decode cX8_demand 1 = .ok (.ifCond .ne 14, 3) := by decide +kernel
theorem dX8_demand_4 : decode cX8_demand 4 = .ok (.new 303, 3) := by decide +kernel
theorem dX8_demand_7 : decode cX8_demand 7 = .ok (.dup, 1) := by decide +kernel
theorem dX8_demand_8 : decode cX8_demand 8 = .ok (.ldc_w 305, 3) := by decide +kernel
theorem dX8_demand_11 : decode cX8_demand 11 = .ok (.invokespecial 307, 3) := by decide +kernel
theorem dX8_demand_14 : decode cX8_demand 14 = .ok (.athrow, 1) := by decide +kernel
theorem dX8_demand_15 : decode cX8_demand 15 = .ok (.return_, 1) := by decide +kernel
theorem dX8_chimneyOn_0 : decode cX8_chimneyOn 0 = .ok (.iload_n 1, 1) := by decide +kernel
theorem dX8_chimneyOn_1 : decode cX8_chimneyOn 1 = .ok (.iconst 0, 1) := by decide +kernel
theorem dX8_chimneyOn_2 : decode cX8_chimneyOn 2 = .ok (.bipush 7, 2) := by decide +kernel
theorem dX8_chimneyOn_4 : decode cX8_chimneyOn 4 = .ok (.invokestatic 48, 3) := by decide +kernel
theorem dX8_chimneyOn_7 : decode cX8_chimneyOn 7 = .ok (.ifCond .ne 14, 3) := by decide +kernel
theorem dX8_chimneyOn_10 : decode cX8_chimneyOn 10 = .ok (.new 308, 3) := by decide +kernel
theorem dX8_chimneyOn_13 : decode cX8_chimneyOn 13 = .ok (.dup, 1) := by decide +kernel
theorem dX8_chimneyOn_14 : decode cX8_chimneyOn 14 = .ok (.ldc_w 310, 3) := by decide +kernel
theorem dX8_chimneyOn_17 : decode cX8_chimneyOn 17 = .ok (.invokespecial 312, 3) := by decide +kernel
theorem dX8_chimneyOn_20 : decode cX8_chimneyOn 20 = .ok (.athrow, 1) := by decide +kernel
theorem dX8_chimneyOn_21 : decode cX8_chimneyOn 21 = .ok (.aload_n 0, 1) := by decide +kernel
theorem dX8_chimneyOn_22 : decode cX8_chimneyOn 22 = .ok (.getfield 242, 3) := by decide +kernel
theorem dX8_chimneyOn_25 : decode cX8_chimneyOn 25 = .ok (.iload_n 1, 1) := by decide +kernel
theorem dX8_chimneyOn_26 : decode cX8_chimneyOn 26 = .ok (.aaload, 1) := by decide +kernel
theorem dX8_chimneyOn_27 : decode cX8_chimneyOn 27 = .ok (.areturn, 1) := by decide +kernel
theorem dX8_observerNow_0 : decode cX8_observerNow 0 = .ok (.iload_n 1, 1) := by decide +kernel
theorem dX8_observerNow_1 : decode cX8_observerNow 1 = .ok (.iconst 0, 1) := by decide +kernel
theorem dX8_observerNow_2 : decode cX8_observerNow 2 = .ok (.iconst 2, 1) := by decide +kernel
theorem dX8_observerNow_3 : decode cX8_observerNow 3 = .ok (.invokestatic 48, 3) := by decide +kernel
theorem dX8_observerNow_6 : decode cX8_observerNow 6 = .ok (.ifCond .ne 14, 3) := by decide +kernel
theorem dX8_observerNow_9 : decode cX8_observerNow 9 = .ok (.new 308, 3) := by decide +kernel
theorem dX8_observerNow_12 : decode cX8_observerNow 12 = .ok (.dup, 1) := by decide +kernel
theorem dX8_observerNow_13 : decode cX8_observerNow 13 = .ok (.ldc_w 313, 3) := by decide +kernel
theorem dX8_observerNow_16 : decode cX8_observerNow 16 = .ok (.invokespecial 312, 3) := by decide +kernel
theorem dX8_observerNow_19 : decode cX8_observerNow 19 = .ok (.athrow, 1) := by decide +kernel
theorem dX8_observerNow_20 : decode cX8_observerNow 20 = .ok (.aload_n 0, 1) := by decide +kernel
theorem dX8_observerNow_21 : decode cX8_observerNow 21 = .ok (.getfield 10, 3) := by decide +kernel
theorem dX8_observerNow_24 : decode cX8_observerNow 24 = .ok (.getfield 315, 3) := by decide +kernel
theorem dX8_observerNow_27 : decode cX8_observerNow 27 = .ok (.iload_n 1, 1) := by decide +kernel
theorem dX8_observerNow_28 : decode cX8_observerNow 28 = .ok (.aaload, 1) := by decide +kernel
theorem dX8_observerNow_29 : decode cX8_observerNow 29 = .ok (.areturn, 1) := by decide +kernel
theorem dX8_noticeNow_0 : decode cX8_noticeNow 0 = .ok (.aload_n 0, 1) := by decide +kernel
theorem dX8_noticeNow_1 : decode cX8_noticeNow 1 = .ok (.getfield 10, 3) := by decide +kernel
theorem dX8_noticeNow_4 : decode cX8_noticeNow 4 = .ok (.iload_n 1, 1) := by decide +kernel
theorem dX8_noticeNow_5 : decode cX8_noticeNow 5 = .ok (.invokevirtual 319, 3) := by decide +kernel
theorem dX8_noticeNow_8 : decode cX8_noticeNow 8 = .ok (.ifCond .ne 14, 3) := by decide +kernel
theorem dX8_noticeNow_11 : decode cX8_noticeNow 11 = .ok (.new 308, 3) := by decide +kernel
theorem dX8_noticeNow_14 : decode cX8_noticeNow 14 = .ok (.dup, 1) := by decide +kernel
theorem dX8_noticeNow_15 : decode cX8_noticeNow 15 = .ok (.ldc_w 322, 3) := by decide +kernel
theorem dX8_noticeNow_18 : decode cX8_noticeNow 18 = .ok (.invokespecial 312, 3) := by decide +kernel
theorem dX8_noticeNow_21 : decode cX8_noticeNow 21 = .ok (.athrow, 1) := by decide +kernel
theorem dX8_noticeNow_22 : decode cX8_noticeNow 22 = .ok (.aload_n 0, 1) := by decide +kernel
theorem dX8_noticeNow_23 : decode cX8_noticeNow 23 = .ok (.getfield 10, 3) := by decide +kernel
theorem dX8_noticeNow_26 : decode cX8_noticeNow 26 = .ok (.getfield 324, 3) := by decide +kernel
theorem dX8_noticeNow_29 : decode cX8_noticeNow 29 = .ok (.iload_n 1, 1) := by decide +kernel
theorem dX8_noticeNow_30 : decode cX8_noticeNow 30 = .ok (.aaload, 1) := by decide +kernel
theorem dX8_noticeNow_31 : decode cX8_noticeNow 31 = .ok (.areturn, 1) := by decide +kernel
theorem dX8_slotNumbered_0 : decode cX8_slotNumbered 0 = .ok (.iload_n 1, 1) := by decide +kernel
theorem dX8_slotNumbered_1 : decode cX8_slotNumbered 1 = .ok (.iconst 0, 1) := by decide +kernel
theorem dX8_slotNumbered_2 : decode cX8_slotNumbered 2 = .ok (.iconst 1, 1) := by decide +kernel
theorem dX8_slotNumbered_3 : decode cX8_slotNumbered 3 = .ok (.invokestatic 48, 3) := by decide +kernel
theorem dX8_slotNumbered_6 : decode cX8_slotNumbered 6 = .ok (.ifCond .ne 14, 3) := by decide +kernel
theorem dX8_slotNumbered_9 : decode cX8_slotNumbered 9 = .ok (.new 308, 3) := by decide +kernel
theorem dX8_slotNumbered_12 : decode cX8_slotNumbered 12 = .ok (.dup, 1) := by decide +kernel
theorem dX8_slotNumbered_13 : decode cX8_slotNumbered 13 = .ok (.ldc_w 328, 3) := by decide +kernel
theorem dX8_slotNumbered_16 : decode cX8_slotNumbered 16 = .ok (.invokespecial 312, 3) := by decide +kernel
theorem dX8_slotNumbered_19 : decode cX8_slotNumbered 19 = .ok (.athrow, 1) := by decide +kernel
theorem dX8_slotNumbered_20 : decode cX8_slotNumbered 20 = .ok (.aload_n 0, 1) := by decide +kernel
theorem dX8_slotNumbered_21 : decode cX8_slotNumbered 21 = .ok (.getfield 28, 3) := by decide +kernel
theorem dX8_slotNumbered_24 : decode cX8_slotNumbered 24 = .ok (.iload_n 1, 1) := by decide +kernel
theorem dX8_slotNumbered_25 : decode cX8_slotNumbered 25 = .ok (.aaload, 1) := by decide +kernel
theorem dX8_slotNumbered_26 : decode cX8_slotNumbered 26 = .ok (.areturn, 1) := by decide +kernel
theorem dJ7_fill_53178_0 : decode cJ7_fill_53178 0 = .ok (.iconst 0, 1) := by decide +kernel
theorem dJ7_fill_53178_1 : decode cJ7_fill_53178 1 = .ok (.istore_n 2, 1) := by decide +kernel
theorem dJ7_fill_53178_2 : decode cJ7_fill_53178 2 = .ok (.aload_n 0, 1) := by decide +kernel
theorem dJ7_fill_53178_3 : decode cJ7_fill_53178 3 = .ok (.arraylength, 1) := by decide +kernel
theorem dJ7_fill_53178_4 : decode cJ7_fill_53178 4 = .ok (.istore_n 3, 1) := by decide +kernel
theorem dJ7_fill_53178_5 : decode cJ7_fill_53178 5 = .ok (.iload_n 2, 1) := by decide +kernel
theorem dJ7_fill_53178_6 : decode cJ7_fill_53178 6 = .ok (.iload_n 3, 1) := by decide +kernel
theorem dJ7_fill_53178_7 : decode cJ7_fill_53178 7 = .ok (.if_icmp .ge 13, 3) := by decide +kernel
theorem dJ7_fill_53178_10 : decode cJ7_fill_53178 10 = .ok (.aload_n 0, 1) := by decide +kernel
theorem dJ7_fill_53178_11 : decode cJ7_fill_53178 11 = .ok (.iload_n 2, 1) := by decide +kernel
theorem dJ7_fill_53178_12 : decode cJ7_fill_53178 12 = .ok (.iload_n 1, 1) := by decide +kernel
theorem dJ7_fill_53178_13 : decode cJ7_fill_53178 13 = .ok (.iastore, 1) := by decide +kernel
theorem dJ7_fill_53178_14 : decode cJ7_fill_53178 14 = .ok (.iinc 2 1, 3) := by decide +kernel
theorem dJ7_fill_53178_17 : decode cJ7_fill_53178 17 = .ok (.goto (-12), 3) := by decide +kernel
theorem dJ7_fill_53178_20 : decode cJ7_fill_53178 20 = .ok (.return_, 1) := by decide +kernel
theorem dJ9_abs_0f7a4_0 : decode cJ9_abs_0f7a4 0 = .ok (.iload_n 0, 1) := by decide +kernel
theorem dJ9_abs_0f7a4_1 : decode cJ9_abs_0f7a4 1 = .ok (.ifCond .ge 8, 3) := by decide +kernel
theorem dJ9_abs_0f7a4_4 : decode cJ9_abs_0f7a4 4 = .ok (.iload_n 0, 1) := by decide +kernel
theorem dJ9_abs_0f7a4_5 : decode cJ9_abs_0f7a4 5 = .ok (.ineg, 1) := by decide +kernel
theorem dJ9_abs_0f7a4_6 : decode cJ9_abs_0f7a4 6 = .ok (.goto 4, 3) := by decide +kernel
theorem dJ9_abs_0f7a4_9 : decode cJ9_abs_0f7a4 9 = .ok (.iload_n 0, 1) := by decide +kernel
theorem dJ9_abs_0f7a4_10 : decode cJ9_abs_0f7a4 10 = .ok (.ireturn, 1) := by decide +kernel
theorem dJ9_max_7cf53_0 : decode cJ9_max_7cf53 0 = .ok (.iload_n 0, 1) := by decide +kernel
theorem dJ9_max_7cf53_1 : decode cJ9_max_7cf53 1 = .ok (.iload_n 1, 1) := by decide +kernel
theorem dJ9_max_7cf53_2 : decode cJ9_max_7cf53 2 = .ok (.if_icmp .lt 7, 3) := by decide +kernel
theorem dJ9_max_7cf53_5 : decode cJ9_max_7cf53 5 = .ok (.iload_n 0, 1) := by decide +kernel
theorem dJ9_max_7cf53_6 : decode cJ9_max_7cf53 6 = .ok (.goto 4, 3) := by decide +kernel
theorem dJ9_max_7cf53_9 : decode cJ9_max_7cf53 9 = .ok (.iload_n 1, 1) := by decide +kernel
theorem dJ9_max_7cf53_10 : decode cJ9_max_7cf53 10 = .ok (.ireturn, 1) := by decide +kernel
