theorem dX9_init_0 : decode cX9_init 0 = .ok (.aload_n 0, 1) := by decide +kernel
theorem dX9_init_1 : decode cX9_init 1 = .ok (.invokespecial 1, 3) := by decide +kernel
theorem dX9_init_4 : decode cX9_init 4 = .ok (.aload_n 0, 1) := by decide +kernel
theorem dX9_init_5 : decode cX9_init 5 = .ok (.sipush 1804, 3) := by decide +kernel
theorem dX9_init_8 : decode cX9_init 8 = .ok (.newarray .int, 2) := by decide +kernel
theorem dX9_init_10 : decode cX9_init 10 = .ok (.putfield 7, 3) := by decide +kernel
theorem dX9_init_13 : decode cX9_init 13 = .ok (.aload_n 0, 1) := by decide +kernel
theorem dX9_init_14 : decode cX9_init 14 = .ok (.sipush 10824, 3) := by decide +kernel
theorem dX9_init_17 : decode cX9_init 17 = .ok (.newarray .int, 2) := by decide +kernel
theorem dX9_init_19 : decode cX9_init 19 = .ok (.putfield 13, 3) := by decide +kernel
theorem dX9_init_22 : decode cX9_init 22 = .ok (.aload_n 0, 1) := by decide +kernel
theorem dX9_init_23 : decode cX9_init 23 = .ok (.sipush 3608, 3) := by decide +kernel
theorem dX9_init_26 : decode cX9_init 26 = .ok (.newarray .int, 2) := by decide +kernel
theorem dX9_init_28 : decode cX9_init 28 = .ok (.putfield 16, 3) := by decide +kernel
theorem dX9_init_31 : decode cX9_init 31 = .ok (.aload_n 0, 1) := by decide +kernel
theorem dX9_init_32 : decode cX9_init 32 = .ok (.iconst 2, 1) := by decide +kernel
theorem dX9_init_33 : decode cX9_init 33 = .ok (.newarray .int, 2) := by decide +kernel
theorem dX9_init_35 : decode cX9_init 35 = .ok (.putfield 19, 3) := by decide +kernel
theorem dX9_init_38 : decode cX9_init 38 = .ok (.aload_n 0, 1) := by decide +kernel
theorem dX9_init_39 : decode cX9_init 39 = .ok (.sipush 1804, 3) := by decide +kernel
theorem dX9_init_42 : decode cX9_init 42 = .ok (.newarray .int, 2) := by decide +kernel
theorem dX9_init_44 : decode cX9_init 44 = .ok (.putfield 22, 3) := by decide +kernel
theorem dX9_init_47 : decode cX9_init 47 = .ok (.aload_n 0, 1) := by decide +kernel
theorem dX9_init_48 : decode cX9_init 48 = .ok (.bipush 60, 2) := by decide +kernel
theorem dX9_init_50 : decode cX9_init 50 = .ok (.newarray .int, 2) := by decide +kernel
theorem dX9_init_52 : decode cX9_init 52 = .ok (.putfield 25, 3) := by decide +kernel
theorem dX9_init_55 : decode cX9_init 55 = .ok (.aload_n 0, 1) := by decide +kernel
theorem dX9_init_56 : decode cX9_init 56 = .ok (.bipush 8, 2) := by decide +kernel
theorem dX9_init_58 : decode cX9_init 58 = .ok (.newarray .int, 2) := by decide +kernel
theorem dX9_init_60 : decode cX9_init 60 = .ok (.putfield 28, 3) := by decide +kernel
theorem dX9_init_63 : decode cX9_init 63 = .ok (.iconst 0, 1) := by decide +kernel
theorem dX9_init_64 : decode cX9_init 64 = .ok (.istore_n 1, 1) := by decide +kernel
theorem dX9_init_65 : decode cX9_init 65 = .ok (.iload_n 1, 1) := by decide +kernel
theorem dX9_init_66 : decode cX9_init 66 = .ok (.bipush 8, 2) := by decide +kernel
theorem dX9_init_68 : decode cX9_init 68 = .ok (.if_icmp .ge 40, 3) := by decide +kernel
theorem dX9_init_71 : decode cX9_init 71 = .ok (.aload_n 0, 1) := by decide +kernel
theorem dX9_init_72 : decode cX9_init 72 = .ok (.getfield 7, 3) := by decide +kernel
theorem dX9_init_75 : decode cX9_init 75 = .ok (.iconst 0, 1) := by decide +kernel
theorem dX9_init_76 : decode cX9_init 76 = .ok (.iload_n 1, 1) := by decide +kernel
theorem dX9_init_77 : decode cX9_init 77 = .ok (.iadd, 1) := by decide +kernel
theorem dX9_init_78 : decode cX9_init 78 = .ok (.iconst 3, 1) := by decide +kernel
theorem dX9_init_79 : decode cX9_init 79 = .ok (.iastore, 1) := by decide +kernel
theorem dX9_init_80 : decode cX9_init 80 = .ok (.aload_n 0, 1) := by decide +kernel
theorem dX9_init_81 : decode cX9_init 81 = .ok (.getfield 7, 3) := by decide +kernel
theorem dX9_init_84 : decode cX9_init 84 = .ok (.bipush 16, 2) := by decide +kernel
theorem dX9_init_86 : decode cX9_init 86 = .ok (.iload_n 1, 1) := by decide +kernel
theorem dX9_init_87 : decode cX9_init 87 = .ok (.iadd, 1) := by decide +kernel
theorem dX9_init_88 : decode cX9_init 88 = .ok (.iconst 4, 1) := by decide +kernel
theorem dX9_init_89 : decode cX9_init 89 = .ok (.iastore, 1) := by decide +kernel
theorem dX9_init_90 : decode cX9_init 90 = .ok (.aload_n 0, 1) := by decide +kernel
theorem dX9_init_91 : decode cX9_init 91 = .ok (.getfield 7, 3) := by decide +kernel
theorem dX9_init_94 : decode cX9_init 94 = .ok (.bipush 24, 2) := by decide +kernel
theorem dX9_init_96 : decode cX9_init 96 = .ok (.iload_n 1, 1) := by decide +kernel
theorem dX9_init_97 : decode cX9_init 97 = .ok (.iadd, 1) := by decide +kernel
theorem dX9_init_98 : decode cX9_init 98 = .ok (.iload_n 1, 1) := by decide +kernel
theorem dX9_init_99 : decode cX9_init 99 = .ok (.iconst 4, 1) := by decide +kernel
theorem dX9_init_100 : decode cX9_init 100 = .ok (.irem, 1) := by decide +kernel
theorem dX9_init_101 : decode cX9_init 101 = .ok (.iastore, 1) := by decide +kernel
theorem dX9_init_102 : decode cX9_init 102 = .ok (.iinc 1 1, 3) := by decide +kernel
theorem dX9_init_105 : decode cX9_init 105 = .ok (.goto (-40), 3) := by decide +kernel
theorem dX9_init_108 : decode cX9_init 108 = .ok (.iconst 0, 1) := by decide +kernel
theorem dX9_init_109 : decode cX9_init 109 = .ok (.istore_n 1, 1) := by decide +kernel
theorem dX9_init_110 : decode cX9_init 110 = .ok (.iload_n 1, 1) := by decide +kernel
theorem dX9_init_111 : decode cX9_init 111 = .ok (.iconst 3, 1) := by decide +kernel
theorem dX9_init_112 : decode cX9_init 112 = .ok (.if_icmp .ge 19, 3) := by decide +kernel
theorem dX9_init_115 : decode cX9_init 115 = .ok (.aload_n 0, 1) := by decide +kernel
theorem dX9_init_116 : decode cX9_init 116 = .ok (.getfield 7, 3) := by decide +kernel
theorem dX9_init_119 : decode cX9_init 119 = .ok (.bipush 62, 2) := by decide +kernel
theorem dX9_init_121 : decode cX9_init 121 = .ok (.iload_n 1, 1) := by decide +kernel
theorem dX9_init_122 : decode cX9_init 122 = .ok (.iadd, 1) := by decide +kernel
theorem dX9_init_123 : decode cX9_init 123 = .ok (.iconst (-1), 1) := by decide +kernel
theorem dX9_init_124 : decode cX9_init 124 = .ok (.iastore, 1) := by decide +kernel
theorem dX9_init_125 : decode cX9_init 125 = .ok (.iinc 1 1, 3) := by decide +kernel
theorem dX9_init_128 : decode cX9_init 128 = .ok (.goto (-18), 3) := by decide +kernel
theorem dX9_init_131 : decode cX9_init 131 = .ok (.aload_n 0, 1) := by decide +kernel
theorem dX9_init_132 : decode cX9_init 132 = .ok (.getfield 7, 3) := by decide +kernel
theorem dX9_init_135 : decode cX9_init 135 = .ok (.bipush 71, 2) := by decide +kernel
theorem dX9_init_137 : decode cX9_init 137 = .ok (.iconst 3, 1) := by decide +kernel
theorem dX9_init_138 : decode cX9_init 138 = .ok (.iastore, 1) := by decide +kernel
theorem dX9_init_139 : decode cX9_init 139 = .ok (.aload_n 0, 1) := by decide +kernel
theorem dX9_init_140 : decode cX9_init 140 = .ok (.getfield 7, 3) := by decide +kernel
theorem dX9_init_143 : decode cX9_init 143 = .ok (.bipush 72, 2) := by decide +kernel
theorem dX9_init_145 : decode cX9_init 145 = .ok (.iconst 3, 1) := by decide +kernel
theorem dX9_init_146 : decode cX9_init 146 = .ok (.iastore, 1) := by decide +kernel
theorem dX9_init_147 : decode cX9_init 147 = .ok (.aload_n 0, 1) := by decide +kernel
theorem dX9_init_148 : decode cX9_init 148 = .ok (.invokevirtual 31, 3) := by decide +kernel
theorem dX9_init_151 : decode cX9_init 151 = .ok (.return_, 1) := by decide +kernel
theorem dX9_thrown_0 : decode cX9_thrown 0 = .ok (.aload_n 0, 1) := by decide +kernel
theorem dX9_thrown_1 : decode cX9_thrown 1 = .ok (.getfield 34, 3) := by decide +kernel
theorem dX9_thrown_4 : decode cX9_thrown 4 = .ok (.ireturn, 1) := by decide +kernel
theorem dX9_fails_0 : decode cX9_fails 0 = .ok (.aload_n 0, 1) := by decide +kernel
theorem dX9_fails_1 : decode cX9_fails 1 = .ok (.iload_n 1, 1) := by decide +kernel
theorem dX9_fails_2 : decode cX9_fails 2 = .ok (.putfield 34, 3) := by decide +kernel
theorem dX9_fails_5 : decode cX9_fails 5 = .ok (.iconst 0, 1) := by decide +kernel
theorem dX9_fails_6 : decode cX9_fails 6 = .ok (.ireturn, 1) := by decide +kernel
theorem dX9_within_0 : decode cX9_within 0 = .ok (.iload_n 0, 1) := by decide +kernel
theorem dX9_within_1 : decode cX9_within 1 = .ok (.iload_n 1, 1) := by decide +kernel
theorem dX9_within_2 : decode cX9_within 2 = .ok (.if_icmp .lt 12, 3) := by decide +kernel
theorem dX9_within_5 : decode cX9_within 5 = .ok (.iload_n 0, 1) := by decide +kernel
theorem dX9_within_6 : decode cX9_within 6 = .ok (.iload_n 2, 1) := by decide +kernel
theorem dX9_within_7 : decode cX9_within 7 = .ok (.if_icmp .gt 7, 3) := by decide +kernel
theorem dX9_within_10 : decode cX9_within 10 = .ok (.iconst 1, 1) := by decide +kernel
theorem dX9_within_11 : decode cX9_within 11 = .ok (.goto 4, 3) := by decide +kernel
theorem dX9_within_14 : decode cX9_within 14 = .ok (.iconst 0, 1) := by decide +kernel
theorem dX9_within_15 : decode cX9_within 15 = .ok (.ireturn, 1) := by decide +kernel
theorem dX9_isChimney_0 : decode cX9_isChimney 0 = .ok (.iload_n 0, 1) := by decide +kernel
theorem dX9_isChimney_1 : decode cX9_isChimney 1 = .ok (.iconst 0, 1) := by decide +kernel
theorem dX9_isChimney_2 : decode cX9_isChimney 2 = .ok (.bipush 7, 2) := by decide +kernel
theorem dX9_isChimney_4 : decode cX9_isChimney 4 = .ok (.invokestatic 38, 3) := by decide +kernel
theorem dX9_isChimney_7 : decode cX9_isChimney 7 = .ok (.ireturn, 1) := by decide +kernel
theorem dX9_isObserver_0 : decode cX9_isObserver 0 = .ok (.iload_n 0, 1) := by decide +kernel
theorem dX9_isObserver_1 : decode cX9_isObserver 1 = .ok (.iconst 0, 1) := by decide +kernel
theorem dX9_isObserver_2 : decode cX9_isObserver 2 = .ok (.iconst 2, 1) := by decide +kernel
theorem dX9_isObserver_3 : decode cX9_isObserver 3 = .ok (.invokestatic 38, 3) := by decide +kernel
theorem dX9_isObserver_6 : decode cX9_isObserver 6 = .ok (.ireturn, 1) := by decide +kernel
theorem dX9_isTick_0 : decode cX9_isTick 0 = .ok (.iload_n 0, 1) := by decide +kernel
theorem dX9_isTick_1 : decode cX9_isTick 1 = .ok (.iconst 0, 1) := by decide +kernel
theorem dX9_isTick_2 : decode cX9_isTick 2 = .ok (.bipush 95, 2) := by decide +kernel
theorem dX9_isTick_4 : decode cX9_isTick 4 = .ok (.invokestatic 38, 3) := by decide +kernel
theorem dX9_isTick_7 : decode cX9_isTick 7 = .ok (.ireturn, 1) := by decide +kernel
theorem dX9_isHour_0 : decode cX9_isHour 0 = .ok (.iload_n 0, 1) := by decide +kernel
theorem dX9_isHour_1 : decode cX9_isHour 1 = .ok (.iconst 0, 1) := by decide +kernel
theorem dX9_isHour_2 : decode cX9_isHour 2 = .ok (.bipush 23, 2) := by decide +kernel
theorem dX9_isHour_4 : decode cX9_isHour 4 = .ok (.invokestatic 38, 3) := by decide +kernel
theorem dX9_isHour_7 : decode cX9_isHour 7 = .ok (.ireturn, 1) := by decide +kernel
theorem dX9_isPass_0 : decode cX9_isPass 0 = .ok (.iload_n 0, 1) := by decide +kernel
theorem dX9_isPass_1 : decode cX9_isPass 1 = .ok (.iconst 1, 1) := by decide +kernel
theorem dX9_isPass_2 : decode cX9_isPass 2 = .ok (.sipush 200, 3) := by decide +kernel
theorem dX9_isPass_5 : decode cX9_isPass 5 = .ok (.invokestatic 38, 3) := by decide +kernel
theorem dX9_isPass_8 : decode cX9_isPass 8 = .ok (.ireturn, 1) := by decide +kernel
theorem dX9_isNotice_0 : decode cX9_isNotice 0 = .ok (.iload_n 1, 1) := by decide +kernel
theorem dX9_isNotice_1 : decode cX9_isNotice 1 = .ok (.iconst 0, 1) := by decide +kernel
theorem dX9_isNotice_2 : decode cX9_isNotice 2 = .ok (.aload_n 0, 1) := by decide +kernel
theorem dX9_isNotice_3 : decode cX9_isNotice 3 = .ok (.getfield 7, 3) := by decide +kernel
theorem dX9_isNotice_6 : decode cX9_isNotice 6 = .ok (.bipush 75, 2) := by decide +kernel
theorem dX9_isNotice_8 : decode cX9_isNotice 8 = .ok (.iaload, 1) := by decide +kernel
theorem dX9_isNotice_9 : decode cX9_isNotice 9 = .ok (.iconst 1, 1) := by decide +kernel
theorem dX9_isNotice_10 : decode cX9_isNotice 10 = .ok (.isub, 1) := by decide +kernel
theorem dX9_isNotice_11 : decode cX9_isNotice 11 = .ok (.invokestatic 38, 3) := by decide +kernel
theorem dX9_isNotice_14 : decode cX9_isNotice 14 = .ok (.ireturn, 1) := by decide +kernel
theorem dX9_forget_0 : decode cX9_forget 0 = .ok (.iconst 0, 1) := by decide +kernel
theorem dX9_forget_1 : decode cX9_forget 1 = .ok (.istore_n 1, 1) := by decide +kernel
theorem dX9_forget_2 : decode cX9_forget 2 = .ok (.iload_n 1, 1) := by decide +kernel
theorem dX9_forget_3 : decode cX9_forget 3 = .ok (.sipush 768, 3) := by decide +kernel
theorem dX9_forget_6 : decode cX9_forget 6 = .ok (.if_icmp .ge 20, 3) := by decide +kernel
theorem dX9_forget_9 : decode cX9_forget 9 = .ok (.aload_n 0, 1) := by decide +kernel
theorem dX9_forget_10 : decode cX9_forget 10 = .ok (.getfield 7, 3) := by decide +kernel
theorem dX9_forget_13 : decode cX9_forget 13 = .ok (.sipush 172, 3) := by decide +kernel
theorem dX9_forget_16 : decode cX9_forget 16 = .ok (.iload_n 1, 1) := by decide +kernel
theorem dX9_forget_17 : decode cX9_forget 17 = .ok (.iadd, 1) := by decide +kernel
theorem dX9_forget_18 : decode cX9_forget 18 = .ok (.iconst (-1), 1) := by decide +kernel
theorem dX9_forget_19 : decode cX9_forget 19 = .ok (.iastore, 1) := by decide +kernel
theorem dX9_forget_20 : decode cX9_forget 20 = .ok (.iinc 1 1, 3) := by decide +kernel
theorem dX9_forget_23 : decode cX9_forget 23 = .ok (.goto (-21), 3) := by decide +kernel
theorem dX9_forget_26 : decode cX9_forget 26 = .ok (.return_, 1) := by decide +kernel
theorem dX9_record_0 : decode cX9_record 0 = .ok (.aload_n 0, 1) := by decide +kernel
theorem dX9_record_1 : decode cX9_record 1 = .ok (.getfield 42, 3) := by decide +kernel
theorem dX9_record_4 : decode cX9_record 4 = .ok (.bipush 6, 2) := by decide +kernel
theorem dX9_record_6 : decode cX9_record 6 = .ok (.if_icmp .ne 44, 3) := by decide +kernel
theorem dX9_record_9 : decode cX9_record 9 = .ok (.iconst 0, 1) := by decide +kernel
theorem dX9_record_10 : decode cX9_record 10 = .ok (.istore_n 1, 1) := by decide +kernel
theorem dX9_record_11 : decode cX9_record 11 = .ok (.iload_n 1, 1) := by decide +kernel
theorem dX9_record_12 : decode cX9_record 12 = .ok (.sipush 9020, 3) := by decide +kernel
theorem dX9_record_15 : decode cX9_record 15 = .ok (.if_icmp .ge 25, 3) := by decide +kernel
theorem dX9_record_18 : decode cX9_record 18 = .ok (.aload_n 0, 1) := by decide +kernel
theorem dX9_record_19 : decode cX9_record 19 = .ok (.getfield 13, 3) := by decide +kernel
theorem dX9_record_22 : decode cX9_record 22 = .ok (.iload_n 1, 1) := by decide +kernel
theorem dX9_record_23 : decode cX9_record 23 = .ok (.aload_n 0, 1) := by decide +kernel
theorem dX9_record_24 : decode cX9_record 24 = .ok (.getfield 13, 3) := by decide +kernel
theorem dX9_record_27 : decode cX9_record 27 = .ok (.iload_n 1, 1) := by decide +kernel
theorem dX9_record_28 : decode cX9_record 28 = .ok (.sipush 1804, 3) := by decide +kernel
theorem dX9_record_31 : decode cX9_record 31 = .ok (.iadd, 1) := by decide +kernel
theorem dX9_record_32 : decode cX9_record 32 = .ok (.iaload, 1) := by decide +kernel
theorem dX9_record_33 : decode cX9_record 33 = .ok (.iastore, 1) := by decide +kernel
theorem dX9_record_34 : decode cX9_record 34 = .ok (.iinc 1 1, 3) := by decide +kernel
theorem dX9_record_37 : decode cX9_record 37 = .ok (.goto (-26), 3) := by decide +kernel
theorem dX9_record_40 : decode cX9_record 40 = .ok (.aload_n 0, 1) := by decide +kernel
theorem dX9_record_41 : decode cX9_record 41 = .ok (.dup, 1) := by decide +kernel
theorem dX9_record_42 : decode cX9_record 42 = .ok (.getfield 42, 3) := by decide +kernel
theorem dX9_record_45 : decode cX9_record 45 = .ok (.iconst 1, 1) := by decide +kernel
theorem dX9_record_46 : decode cX9_record 46 = .ok (.isub, 1) := by decide +kernel
theorem dX9_record_47 : decode cX9_record 47 = .ok (.putfield 42, 3) := by decide +kernel
theorem dX9_record_50 : decode cX9_record 50 = .ok (.iconst 0, 1) := by decide +kernel
theorem dX9_record_51 : decode cX9_record 51 = .ok (.istore_n 1, 1) := by decide +kernel
theorem dX9_record_52 : decode cX9_record 52 = .ok (.iload_n 1, 1) := by decide +kernel
theorem dX9_record_53 : decode cX9_record 53 = .ok (.sipush 1804, 3) := by decide +kernel
theorem dX9_record_56 : decode cX9_record 56 = .ok (.if_icmp .ge 30, 3) := by decide +kernel
theorem dX9_record_59 : decode cX9_record 59 = .ok (.aload_n 0, 1) := by decide +kernel
theorem dX9_record_60 : decode cX9_record 60 = .ok (.getfield 13, 3) := by decide +kernel
theorem dX9_record_63 : decode cX9_record 63 = .ok (.aload_n 0, 1) := by decide +kernel
theorem dX9_record_64 : decode cX9_record 64 = .ok (.getfield 42, 3) := by decide +kernel
theorem dX9_record_67 : decode cX9_record 67 = .ok (.sipush 1804, 3) := by decide +kernel
theorem dX9_record_70 : decode cX9_record 70 = .ok (.imul, 1) := by decide +kernel
theorem dX9_record_71 : decode cX9_record 71 = .ok (.iload_n 1, 1) := by decide +kernel
theorem dX9_record_72 : decode cX9_record 72 = .ok (.iadd, 1) := by decide +kernel
theorem dX9_record_73 : decode cX9_record 73 = .ok (.aload_n 0, 1) := by decide +kernel
theorem dX9_record_74 : decode cX9_record 74 = .ok (.getfield 7, 3) := by decide +kernel
theorem dX9_record_77 : decode cX9_record 77 = .ok (.iload_n 1, 1) := by decide +kernel
theorem dX9_record_78 : decode cX9_record 78 = .ok (.iaload, 1) := by decide +kernel
theorem dX9_record_79 : decode cX9_record 79 = .ok (.iastore, 1) := by decide +kernel
theorem dX9_record_80 : decode cX9_record 80 = .ok (.iinc 1 1, 3) := by decide +kernel
theorem dX9_record_83 : decode cX9_record 83 = .ok (.goto (-31), 3) := by decide +kernel
theorem dX9_record_86 : decode cX9_record 86 = .ok (.aload_n 0, 1) := by decide +kernel
theorem dX9_record_87 : decode cX9_record 87 = .ok (.dup, 1) := by decide +kernel
theorem dX9_record_88 : decode cX9_record 88 = .ok (.getfield 42, 3) := by decide +kernel
theorem dX9_record_91 : decode cX9_record 91 = .ok (.iconst 1, 1) := by decide +kernel
theorem dX9_record_92 : decode cX9_record 92 = .ok (.iadd, 1) := by decide +kernel
theorem dX9_record_93 : decode cX9_record 93 = .ok (.putfield 42, 3) := by decide +kernel
theorem dX9_record_96 : decode cX9_record 96 = .ok (.return_, 1) := by decide +kernel
theorem dX9_putAside_0 : decode cX9_putAside 0 = .ok (.iconst 0, 1) := by decide +kernel
theorem dX9_putAside_1 : decode cX9_putAside 1 = .ok (.istore_n 1, 1) := by decide +kernel
theorem dX9_putAside_2 : decode cX9_putAside 2 = .ok (.iload_n 1, 1) := by decide +kernel
theorem dX9_putAside_3 : decode cX9_putAside 3 = .ok (.sipush 1804, 3) := by decide +kernel
theorem dX9_putAside_6 : decode cX9_putAside 6 = .ok (.if_icmp .ge 21, 3) := by decide +kernel
theorem dX9_putAside_9 : decode cX9_putAside 9 = .ok (.aload_n 0, 1) := by decide +kernel
theorem dX9_putAside_10 : decode cX9_putAside 10 = .ok (.getfield 22, 3) := by decide +kernel
theorem dX9_putAside_13 : decode cX9_putAside 13 = .ok (.iload_n 1, 1) := by decide +kernel
theorem dX9_putAside_14 : decode cX9_putAside 14 = .ok (.aload_n 0, 1) := by decide +kernel
theorem dX9_putAside_15 : decode cX9_putAside 15 = .ok (.getfield 7, 3) := by decide +kernel
theorem dX9_putAside_18 : decode cX9_putAside 18 = .ok (.iload_n 1, 1) := by decide +kernel
theorem dX9_putAside_19 : decode cX9_putAside 19 = .ok (.iaload, 1) := by decide +kernel
theorem dX9_putAside_20 : decode cX9_putAside 20 = .ok (.iastore, 1) := by decide +kernel
theorem dX9_putAside_21 : decode cX9_putAside 21 = .ok (.iinc 1 1, 3) := by decide +kernel
theorem dX9_putAside_24 : decode cX9_putAside 24 = .ok (.goto (-22), 3) := by decide +kernel
theorem dX9_putAside_27 : decode cX9_putAside 27 = .ok (.return_, 1) := by decide +kernel
theorem dX9_putBack_0 : decode cX9_putBack 0 = .ok (.iconst 0, 1) := by decide +kernel
theorem dX9_putBack_1 : decode cX9_putBack 1 = .ok (.istore_n 1, 1) := by decide +kernel
theorem dX9_putBack_2 : decode cX9_putBack 2 = .ok (.iload_n 1, 1) := by decide +kernel
theorem dX9_putBack_3 : decode cX9_putBack 3 = .ok (.sipush 1804, 3) := by decide +kernel
theorem dX9_putBack_6 : decode cX9_putBack 6 = .ok (.if_icmp .ge 21, 3) := by decide +kernel
theorem dX9_putBack_9 : decode cX9_putBack 9 = .ok (.aload_n 0, 1) := by decide +kernel
theorem dX9_putBack_10 : decode cX9_putBack 10 = .ok (.getfield 7, 3) := by decide +kernel
theorem dX9_putBack_13 : decode cX9_putBack 13 = .ok (.iload_n 1, 1) := by decide +kernel
theorem dX9_putBack_14 : decode cX9_putBack 14 = .ok (.aload_n 0, 1) := by decide +kernel
theorem dX9_putBack_15 : decode cX9_putBack 15 = .ok (.getfield 22, 3) := by decide +kernel
theorem dX9_putBack_18 : decode cX9_putBack 18 = .ok (.iload_n 1, 1) := by decide +kernel
theorem dX9_putBack_19 : decode cX9_putBack 19 = .ok (.iaload, 1) := by decide +kernel
theorem dX9_putBack_20 : decode cX9_putBack 20 = .ok (.iastore, 1) := by decide +kernel
theorem dX9_putBack_21 : decode cX9_putBack 21 = .ok (.iinc 1 1, 3) := by decide +kernel
theorem dX9_putBack_24 : decode cX9_putBack 24 = .ok (.goto (-22), 3) := by decide +kernel
theorem dX9_putBack_27 : decode cX9_putBack 27 = .ok (.return_, 1) := by decide +kernel
theorem dX9_undo_0 : decode cX9_undo 0 = .ok (.aload_n 0, 1) := by decide +kernel
theorem dX9_undo_1 : decode cX9_undo 1 = .ok (.iconst 0, 1) := by decide +kernel
theorem dX9_undo_2 : decode cX9_undo 2 = .ok (.putfield 34, 3) := by decide +kernel
theorem dX9_undo_5 : decode cX9_undo 5 = .ok (.aload_n 0, 1) := by decide +kernel
theorem dX9_undo_6 : decode cX9_undo 6 = .ok (.getfield 42, 3) := by decide +kernel
theorem dX9_undo_9 : decode cX9_undo 9 = .ok (.ifCond .ne 9, 3) := by decide +kernel
theorem dX9_undo_12 : decode cX9_undo 12 = .ok (.aload_n 0, 1) := by decide +kernel
theorem dX9_undo_13 : decode cX9_undo 13 = .ok (.iconst 1, 1) := by decide +kernel
theorem dX9_undo_14 : decode cX9_undo 14 = .ok (.invokevirtual 45, 3) := by decide +kernel
theorem dX9_undo_17 : decode cX9_undo 17 = .ok (.ireturn, 1) := by decide +kernel
theorem dX9_undo_18 : decode cX9_undo 18 = .ok (.aload_n 0, 1) := by decide +kernel
theorem dX9_undo_19 : decode cX9_undo 19 = .ok (.dup, 1) := by decide +kernel
theorem dX9_undo_20 : decode cX9_undo 20 = .ok (.getfield 42, 3) := by decide +kernel
theorem dX9_undo_23 : decode cX9_undo 23 = .ok (.iconst 1, 1) := by decide +kernel
theorem dX9_undo_24 : decode cX9_undo 24 = .ok (.isub, 1) := by decide +kernel
theorem dX9_undo_25 : decode cX9_undo 25 = .ok (.putfield 42, 3) := by decide +kernel
theorem dX9_undo_28 : decode cX9_undo 28 = .ok (.iconst 0, 1) := by decide +kernel
theorem dX9_undo_29 : decode cX9_undo 29 = .ok (.istore_n 1, 1) := by decide +kernel
theorem dX9_undo_30 : decode cX9_undo 30 = .ok (.iload_n 1, 1) := by decide +kernel
theorem dX9_undo_31 : decode cX9_undo 31 = .ok (.sipush 1804, 3) := by decide +kernel
theorem dX9_undo_34 : decode cX9_undo 34 = .ok (.if_icmp .ge 30, 3) := by decide +kernel
theorem dX9_undo_37 : decode cX9_undo 37 = .ok (.aload_n 0, 1) := by decide +kernel
theorem dX9_undo_38 : decode cX9_undo 38 = .ok (.getfield 7, 3) := by decide +kernel
theorem dX9_undo_41 : decode cX9_undo 41 = .ok (.iload_n 1, 1) := by decide +kernel
theorem dX9_undo_42 : decode cX9_undo 42 = .ok (.aload_n 0, 1) := by decide +kernel
theorem dX9_undo_43 : decode cX9_undo 43 = .ok (.getfield 13, 3) := by decide +kernel
theorem dX9_undo_46 : decode cX9_undo 46 = .ok (.aload_n 0, 1) := by decide +kernel
theorem dX9_undo_47 : decode cX9_undo 47 = .ok (.getfield 42, 3) := by decide +kernel
theorem dX9_undo_50 : decode cX9_undo 50 = .ok (.sipush 1804, 3) := by decide +kernel
theorem dX9_undo_53 : decode cX9_undo 53 = .ok (.imul, 1) := by decide +kernel
theorem dX9_undo_54 : decode cX9_undo 54 = .ok (.iload_n 1, 1) := by decide +kernel
theorem dX9_undo_55 : decode cX9_undo 55 = .ok (.iadd, 1) := by decide +kernel
theorem dX9_undo_56 : decode cX9_undo 56 = .ok (.iaload, 1) := by decide +kernel
theorem dX9_undo_57 : decode cX9_undo 57 = .ok (.iastore, 1) := by decide +kernel
theorem dX9_undo_58 : decode cX9_undo 58 = .ok (.iinc 1 1, 3) := by decide +kernel
theorem dX9_undo_61 : decode cX9_undo 61 = .ok (.goto (-31), 3) := by decide +kernel
theorem dX9_undo_64 : decode cX9_undo 64 = .ok (.aload_n 0, 1) := by decide +kernel
theorem dX9_undo_65 : decode cX9_undo 65 = .ok (.getfield 42, 3) := by decide +kernel
theorem dX9_undo_68 : decode cX9_undo 68 = .ok (.ireturn, 1) := by decide +kernel
theorem dX9_undoable_0 : decode cX9_undoable 0 = .ok (.aload_n 0, 1) := by decide +kernel
theorem dX9_undoable_1 : decode cX9_undoable 1 = .ok (.iconst 0, 1) := by decide +kernel
theorem dX9_undoable_2 : decode cX9_undoable 2 = .ok (.putfield 34, 3) := by decide +kernel
theorem dX9_undoable_5 : decode cX9_undoable 5 = .ok (.aload_n 0, 1) := by decide +kernel
theorem dX9_undoable_6 : decode cX9_undoable 6 = .ok (.getfield 42, 3) := by decide +kernel
theorem dX9_undoable_9 : decode cX9_undoable 9 = .ok (.ireturn, 1) := by decide +kernel
theorem dX9_standing_0 : decode cX9_standing 0 = .ok (.iconst 0, 1) := by decide +kernel
theorem dX9_standing_1 : decode cX9_standing 1 = .ok (.istore_n 1, 1) := by decide +kernel
theorem dX9_standing_2 : decode cX9_standing 2 = .ok (.iconst 0, 1) := by decide +kernel
theorem dX9_standing_3 : decode cX9_standing 3 = .ok (.istore_n 2, 1) := by decide +kernel
theorem dX9_standing_4 : decode cX9_standing 4 = .ok (.iload_n 2, 1) := by decide +kernel
theorem dX9_standing_5 : decode cX9_standing 5 = .ok (.aload_n 0, 1) := by decide +kernel
theorem dX9_standing_6 : decode cX9_standing 6 = .ok (.getfield 7, 3) := by decide +kernel
theorem dX9_standing_9 : decode cX9_standing 9 = .ok (.bipush 75, 2) := by decide +kernel
theorem dX9_standing_11 : decode cX9_standing 11 = .ok (.iaload, 1) := by decide +kernel
theorem dX9_standing_12 : decode cX9_standing 12 = .ok (.if_icmp .ge 31, 3) := by decide +kernel
theorem dX9_standing_15 : decode cX9_standing 15 = .ok (.iload_n 1, 1) := by decide +kernel
theorem dX9_standing_16 : decode cX9_standing 16 = .ok (.aload_n 0, 1) := by decide +kernel
theorem dX9_standing_17 : decode cX9_standing 17 = .ok (.getfield 7, 3) := by decide +kernel
theorem dX9_standing_20 : decode cX9_standing 20 = .ok (.sipush 132, 3) := by decide +kernel
theorem dX9_standing_23 : decode cX9_standing 23 = .ok (.iload_n 2, 1) := by decide +kernel
theorem dX9_standing_24 : decode cX9_standing 24 = .ok (.iadd, 1) := by decide +kernel
theorem dX9_standing_25 : decode cX9_standing 25 = .ok (.iaload, 1) := by decide +kernel
theorem dX9_standing_26 : decode cX9_standing 26 = .ok (.iconst 2, 1) := by decide +kernel
theorem dX9_standing_27 : decode cX9_standing 27 = .ok (.if_icmp .ge 7, 3) := by decide +kernel
theorem dX9_standing_30 : decode cX9_standing 30 = .ok (.iconst 1, 1) := by decide +kernel
theorem dX9_standing_31 : decode cX9_standing 31 = .ok (.goto 4, 3) := by decide +kernel
theorem dX9_standing_34 : decode cX9_standing 34 = .ok (.iconst 0, 1) := by decide +kernel
theorem dX9_standing_35 : decode cX9_standing 35 = .ok (.iadd, 1) := by decide +kernel
theorem dX9_standing_36 : decode cX9_standing 36 = .ok (.istore_n 1, 1) := by decide +kernel
theorem dX9_standing_37 : decode cX9_standing 37 = .ok (.iinc 2 1, 3) := by decide +kernel
theorem dX9_standing_40 : decode cX9_standing 40 = .ok (.goto (-36), 3) := by decide +kernel
theorem dX9_standing_43 : decode cX9_standing 43 = .ok (.iload_n 1, 1) := by decide +kernel
theorem dX9_standing_44 : decode cX9_standing 44 = .ok (.ireturn, 1) := by decide +kernel
theorem dX9_save_0 : decode cX9_save 0 = .ok (.aload_n 0, 1) := by decide +kernel
theorem dX9_save_1 : decode cX9_save 1 = .ok (.iconst 0, 1) := by decide +kernel
theorem dX9_save_2 : decode cX9_save 2 = .ok (.putfield 34, 3) := by decide +kernel
theorem dX9_save_5 : decode cX9_save 5 = .ok (.iload_n 1, 1) := by decide +kernel
theorem dX9_save_6 : decode cX9_save 6 = .ok (.iconst 0, 1) := by decide +kernel
theorem dX9_save_7 : decode cX9_save 7 = .ok (.iconst 1, 1) := by decide +kernel
theorem dX9_save_8 : decode cX9_save 8 = .ok (.invokestatic 38, 3) := by decide +kernel
theorem dX9_save_11 : decode cX9_save 11 = .ok (.ifCond .ne 9, 3) := by decide +kernel
theorem dX9_save_14 : decode cX9_save 14 = .ok (.aload_n 0, 1) := by decide +kernel
theorem dX9_save_15 : decode cX9_save 15 = .ok (.iconst 1, 1) := by decide +kernel
theorem dX9_save_16 : decode cX9_save 16 = .ok (.invokevirtual 45, 3) := by decide +kernel
theorem dX9_save_19 : decode cX9_save 19 = .ok (.ireturn, 1) := by decide +kernel
theorem dX9_save_20 : decode cX9_save 20 = .ok (.iconst 0, 1) := by decide +kernel
theorem dX9_save_21 : decode cX9_save 21 = .ok (.istore_n 2, 1) := by decide +kernel
theorem dX9_save_22 : decode cX9_save 22 = .ok (.iload_n 2, 1) := by decide +kernel
theorem dX9_save_23 : decode cX9_save 23 = .ok (.sipush 1804, 3) := by decide +kernel
theorem dX9_save_26 : decode cX9_save 26 = .ok (.if_icmp .ge 27, 3) := by decide +kernel
theorem dX9_save_29 : decode cX9_save 29 = .ok (.aload_n 0, 1) := by decide +kernel
theorem dX9_save_30 : decode cX9_save 30 = .ok (.getfield 16, 3) := by decide +kernel
theorem dX9_save_33 : decode cX9_save 33 = .ok (.iload_n 1, 1) := by decide +kernel
theorem dX9_save_34 : decode cX9_save 34 = .ok (.sipush 1804, 3) := by decide +kernel
theorem dX9_save_37 : decode cX9_save 37 = .ok (.imul, 1) := by decide +kernel
theorem dX9_save_38 : decode cX9_save 38 = .ok (.iload_n 2, 1) := by decide +kernel
theorem dX9_save_39 : decode cX9_save 39 = .ok (.iadd, 1) := by decide +kernel
theorem dX9_save_40 : decode cX9_save 40 = .ok (.aload_n 0, 1) := by decide +kernel
theorem dX9_save_41 : decode cX9_save 41 = .ok (.getfield 7, 3) := by decide +kernel
theorem dX9_save_44 : decode cX9_save 44 = .ok (.iload_n 2, 1) := by decide +kernel
theorem dX9_save_45 : decode cX9_save 45 = .ok (.iaload, 1) := by decide +kernel
theorem dX9_save_46 : decode cX9_save 46 = .ok (.iastore, 1) := by decide +kernel
theorem dX9_save_47 : decode cX9_save 47 = .ok (.iinc 2 1, 3) := by decide +kernel
theorem dX9_save_50 : decode cX9_save 50 = .ok (.goto (-28), 3) := by decide +kernel
theorem dX9_save_53 : decode cX9_save 53 = .ok (.aload_n 0, 1) := by decide +kernel
theorem dX9_save_54 : decode cX9_save 54 = .ok (.getfield 19, 3) := by decide +kernel
theorem dX9_save_57 : decode cX9_save 57 = .ok (.iload_n 1, 1) := by decide +kernel
theorem dX9_save_58 : decode cX9_save 58 = .ok (.iconst 1, 1) := by decide +kernel
theorem dX9_save_59 : decode cX9_save 59 = .ok (.iastore, 1) := by decide +kernel
theorem dX9_save_60 : decode cX9_save 60 = .ok (.aload_n 0, 1) := by decide +kernel
theorem dX9_save_61 : decode cX9_save 61 = .ok (.invokevirtual 49, 3) := by decide +kernel
theorem dX9_save_64 : decode cX9_save 64 = .ok (.ireturn, 1) := by decide +kernel
theorem dX9_restore_0 : decode cX9_restore 0 = .ok (.aload_n 0, 1) := by decide +kernel
theorem dX9_restore_1 : decode cX9_restore 1 = .ok (.iconst 0, 1) := by decide +kernel
theorem dX9_restore_2 : decode cX9_restore 2 = .ok (.putfield 34, 3) := by decide +kernel
theorem dX9_restore_5 : decode cX9_restore 5 = .ok (.iload_n 1, 1) := by decide +kernel
theorem dX9_restore_6 : decode cX9_restore 6 = .ok (.iconst 0, 1) := by decide +kernel
theorem dX9_restore_7 : decode cX9_restore 7 = .ok (.iconst 1, 1) := by decide +kernel
theorem dX9_restore_8 : decode cX9_restore 8 = .ok (.invokestatic 38, 3) := by decide +kernel
theorem dX9_restore_11 : decode cX9_restore 11 = .ok (.ifCond .ne 9, 3) := by decide +kernel
theorem dX9_restore_14 : decode cX9_restore 14 = .ok (.aload_n 0, 1) := by decide +kernel
theorem dX9_restore_15 : decode cX9_restore 15 = .ok (.iconst 1, 1) := by decide +kernel
theorem dX9_restore_16 : decode cX9_restore 16 = .ok (.invokevirtual 45, 3) := by decide +kernel
theorem dX9_restore_19 : decode cX9_restore 19 = .ok (.ireturn, 1) := by decide +kernel
theorem dX9_restore_20 : decode cX9_restore 20 = .ok (.aload_n 0, 1) := by decide +kernel
theorem dX9_restore_21 : decode cX9_restore 21 = .ok (.getfield 19, 3) := by decide +kernel
theorem dX9_restore_24 : decode cX9_restore 24 = .ok (.iload_n 1, 1) := by decide +kernel
theorem dX9_restore_25 : decode cX9_restore 25 = .ok (.iaload, 1) := by decide +kernel
theorem dX9_restore_26 : decode cX9_restore 26 = .ok (.ifCond .ne 9, 3) := by decide +kernel
theorem dX9_restore_29 : decode cX9_restore 29 = .ok (.aload_n 0, 1) := by decide +kernel
theorem dX9_restore_30 : decode cX9_restore 30 = .ok (.iconst 2, 1) := by decide +kernel
theorem dX9_restore_31 : decode cX9_restore 31 = .ok (.invokevirtual 45, 3) := by decide +kernel
theorem dX9_restore_34 : decode cX9_restore 34 = .ok (.ireturn, 1) := by decide +kernel
theorem dX9_restore_35 : decode cX9_restore 35 = .ok (.aload_n 0, 1) := by decide +kernel
theorem dX9_restore_36 : decode cX9_restore 36 = .ok (.invokevirtual 53, 3) := by decide +kernel
theorem dX9_restore_39 : decode cX9_restore 39 = .ok (.iconst 0, 1) := by decide +kernel
theorem dX9_restore_40 : decode cX9_restore 40 = .ok (.istore_n 2, 1) := by decide +kernel
theorem dX9_restore_41 : decode cX9_restore 41 = .ok (.iload_n 2, 1) := by decide +kernel
theorem dX9_restore_42 : decode cX9_restore 42 = .ok (.sipush 1804, 3) := by decide +kernel
theorem dX9_restore_45 : decode cX9_restore 45 = .ok (.if_icmp .ge 27, 3) := by decide +kernel
theorem dX9_restore_48 : decode cX9_restore 48 = .ok (.aload_n 0, 1) := by decide +kernel
theorem dX9_restore_49 : decode cX9_restore 49 = .ok (.getfield 7, 3) := by decide +kernel
theorem dX9_restore_52 : decode cX9_restore 52 = .ok (.iload_n 2, 1) := by decide +kernel
theorem dX9_restore_53 : decode cX9_restore 53 = .ok (.aload_n 0, 1) := by decide +kernel
theorem dX9_restore_54 : decode cX9_restore 54 = .ok (.getfield 16, 3) := by decide +kernel
theorem dX9_restore_57 : decode cX9_restore 57 = .ok (.iload_n 1, 1) := by decide +kernel
theorem dX9_restore_58 : decode cX9_restore 58 = .ok (.sipush 1804, 3) := by decide +kernel
theorem dX9_restore_61 : decode cX9_restore 61 = .ok (.imul, 1) := by decide +kernel
theorem dX9_restore_62 : decode cX9_restore 62 = .ok (.iload_n 2, 1) := by decide +kernel
theorem dX9_restore_63 : decode cX9_restore 63 = .ok (.iadd, 1) := by decide +kernel
theorem dX9_restore_64 : decode cX9_restore 64 = .ok (.iaload, 1) := by decide +kernel
theorem dX9_restore_65 : decode cX9_restore 65 = .ok (.iastore, 1) := by decide +kernel
theorem dX9_restore_66 : decode cX9_restore 66 = .ok (.iinc 2 1, 3) := by decide +kernel
theorem dX9_restore_69 : decode cX9_restore 69 = .ok (.goto (-28), 3) := by decide +kernel
theorem dX9_restore_72 : decode cX9_restore 72 = .ok (.aload_n 0, 1) := by decide +kernel
theorem dX9_restore_73 : decode cX9_restore 73 = .ok (.invokevirtual 49, 3) := by decide +kernel
theorem dX9_restore_76 : decode cX9_restore 76 = .ok (.ireturn, 1) := by decide +kernel
theorem dX9_shade_0 : decode cX9_shade 0 = .ok (.iload_n 2, 1) := by decide +kernel
theorem dX9_shade_1 : decode cX9_shade 1 = .ok (.aload_n 0, 1) := by decide +kernel
theorem dX9_shade_2 : decode cX9_shade 2 = .ok (.getfield 7, 3) := by decide +kernel
theorem dX9_shade_5 : decode cX9_shade 5 = .ok (.bipush 24, 2) := by decide +kernel
theorem dX9_shade_7 : decode cX9_shade 7 = .ok (.iload_n 1, 1) := by decide +kernel
theorem dX9_shade_8 : decode cX9_shade 8 = .ok (.iadd, 1) := by decide +kernel
theorem dX9_shade_9 : decode cX9_shade 9 = .ok (.iaload, 1) := by decide +kernel
theorem dX9_shade_10 : decode cX9_shade 10 = .ok (.isub, 1) := by decide +kernel
theorem dX9_shade_11 : decode cX9_shade 11 = .ok (.istore_n 3, 1) := by decide +kernel
theorem dX9_shade_12 : decode cX9_shade 12 = .ok (.aload_n 0, 1) := by decide +kernel
theorem dX9_shade_13 : decode cX9_shade 13 = .ok (.getfield 7, 3) := by decide +kernel
theorem dX9_shade_16 : decode cX9_shade 16 = .ok (.iconst 0, 1) := by decide +kernel
theorem dX9_shade_17 : decode cX9_shade 17 = .ok (.iload_n 1, 1) := by decide +kernel
theorem dX9_shade_18 : decode cX9_shade 18 = .ok (.iadd, 1) := by decide +kernel
theorem dX9_shade_19 : decode cX9_shade 19 = .ok (.iaload, 1) := by decide +kernel
theorem dX9_shade_20 : decode cX9_shade 20 = .ok (.iconst 1, 1) := by decide +kernel
theorem dX9_shade_21 : decode cX9_shade 21 = .ok (.iadd, 1) := by decide +kernel
theorem dX9_shade_22 : decode cX9_shade 22 = .ok (.iconst 2, 1) := by decide +kernel
theorem dX9_shade_23 : decode cX9_shade 23 = .ok (.idiv, 1) := by decide +kernel
theorem dX9_shade_24 : decode cX9_shade 24 = .ok (.aload_n 0, 1) := by decide +kernel
theorem dX9_shade_25 : decode cX9_shade 25 = .ok (.getfield 7, 3) := by decide +kernel
theorem dX9_shade_28 : decode cX9_shade 28 = .ok (.bipush 8, 2) := by decide +kernel
theorem dX9_shade_30 : decode cX9_shade 30 = .ok (.iload_n 1, 1) := by decide +kernel
theorem dX9_shade_31 : decode cX9_shade 31 = .ok (.iadd, 1) := by decide +kernel
theorem dX9_shade_32 : decode cX9_shade 32 = .ok (.iaload, 1) := by decide +kernel
theorem dX9_shade_33 : decode cX9_shade 33 = .ok (.iadd, 1) := by decide +kernel
theorem dX9_shade_34 : decode cX9_shade 34 = .ok (.iload_n 3, 1) := by decide +kernel
theorem dX9_shade_35 : decode cX9_shade 35 = .ok (.aload_n 0, 1) := by decide +kernel
theorem dX9_shade_36 : decode cX9_shade 36 = .ok (.getfield 7, 3) := by decide +kernel
theorem dX9_shade_39 : decode cX9_shade 39 = .ok (.bipush 16, 2) := by decide +kernel
theorem dX9_shade_41 : decode cX9_shade 41 = .ok (.iload_n 1, 1) := by decide +kernel
theorem dX9_shade_42 : decode cX9_shade 42 = .ok (.iadd, 1) := by decide +kernel
theorem dX9_shade_43 : decode cX9_shade 43 = .ok (.iaload, 1) := by decide +kernel
theorem dX9_shade_44 : decode cX9_shade 44 = .ok (.irem, 1) := by decide +kernel
theorem dX9_shade_45 : decode cX9_shade 45 = .ok (.isub, 1) := by decide +kernel
theorem dX9_shade_46 : decode cX9_shade 46 = .ok (.istore 4, 2) := by decide +kernel
theorem dX9_shade_48 : decode cX9_shade 48 = .ok (.iload_n 3, 1) := by decide +kernel
theorem dX9_shade_49 : decode cX9_shade 49 = .ok (.ifCond .lt 8, 3) := by decide +kernel
theorem dX9_shade_52 : decode cX9_shade 52 = .ok (.iload 4, 2) := by decide +kernel
theorem dX9_shade_54 : decode cX9_shade 54 = .ok (.ifCond .ge 7, 3) := by decide +kernel
theorem dX9_shade_57 : decode cX9_shade 57 = .ok (.iconst 0, 1) := by decide +kernel
theorem dX9_shade_58 : decode cX9_shade 58 = .ok (.goto 15, 3) := by decide +kernel
theorem dX9_shade_61 : decode cX9_shade 61 = .ok (.iload 4, 2) := by decide +kernel
theorem dX9_shade_63 : decode cX9_shade 63 = .ok (.iconst 5, 1) := by decide +kernel
theorem dX9_shade_64 : decode cX9_shade 64 = .ok (.if_icmp .le 7, 3) := by decide +kernel
theorem dX9_shade_67 : decode cX9_shade 67 = .ok (.iconst 5, 1) := by decide +kernel
theorem dX9_shade_68 : decode cX9_shade 68 = .ok (.goto 5, 3) := by decide +kernel
theorem dX9_shade_71 : decode cX9_shade 71 = .ok (.iload 4, 2) := by decide +kernel
theorem dX9_shade_73 : decode cX9_shade 73 = .ok (.ireturn, 1) := by decide +kernel
theorem dX9_greyIn_0 : decode cX9_greyIn 0 = .ok (.aload_n 0, 1) := by decide +kernel
theorem dX9_greyIn_1 : decode cX9_greyIn 1 = .ok (.getfield 7, 3) := by decide +kernel
theorem dX9_greyIn_4 : decode cX9_greyIn 4 = .ok (.bipush 32, 2) := by decide +kernel
theorem dX9_greyIn_6 : decode cX9_greyIn 6 = .ok (.iload_n 1, 1) := by decide +kernel
theorem dX9_greyIn_7 : decode cX9_greyIn 7 = .ok (.iconst 4, 1) := by decide +kernel
theorem dX9_greyIn_8 : decode cX9_greyIn 8 = .ok (.idiv, 1) := by decide +kernel
theorem dX9_greyIn_9 : decode cX9_greyIn 9 = .ok (.iadd, 1) := by decide +kernel
theorem dX9_greyIn_10 : decode cX9_greyIn 10 = .ok (.iaload, 1) := by decide +kernel
theorem dX9_greyIn_11 : decode cX9_greyIn 11 = .ok (.ireturn, 1) := by decide +kernel
theorem dX9_reads_0 : decode cX9_reads 0 = .ok (.aload_n 0, 1) := by decide +kernel
theorem dX9_reads_1 : decode cX9_reads 1 = .ok (.iload_n 2, 1) := by decide +kernel
theorem dX9_reads_2 : decode cX9_reads 2 = .ok (.aload_n 0, 1) := by decide +kernel
theorem dX9_reads_3 : decode cX9_reads 3 = .ok (.getfield 7, 3) := by decide +kernel
theorem dX9_reads_6 : decode cX9_reads 6 = .ok (.bipush 74, 2) := by decide +kernel
theorem dX9_reads_8 : decode cX9_reads 8 = .ok (.iaload, 1) := by decide +kernel
theorem dX9_reads_9 : decode cX9_reads 9 = .ok (.invokevirtual 56, 3) := by decide +kernel
theorem dX9_reads_12 : decode cX9_reads 12 = .ok (.istore_n 3, 1) := by decide +kernel
theorem dX9_reads_13 : decode cX9_reads 13 = .ok (.aload_n 0, 1) := by decide +kernel
theorem dX9_reads_14 : decode cX9_reads 14 = .ok (.aload_n 0, 1) := by decide +kernel
theorem dX9_reads_15 : decode cX9_reads 15 = .ok (.getfield 7, 3) := by decide +kernel
theorem dX9_reads_18 : decode cX9_reads 18 = .ok (.bipush 74, 2) := by decide +kernel
theorem dX9_reads_20 : decode cX9_reads 20 = .ok (.iaload, 1) := by decide +kernel
theorem dX9_reads_21 : decode cX9_reads 21 = .ok (.invokevirtual 60, 3) := by decide +kernel
theorem dX9_reads_24 : decode cX9_reads 24 = .ok (.iconst 2, 1) := by decide +kernel
theorem dX9_reads_25 : decode cX9_reads 25 = .ok (.if_icmp .le 10, 3) := by decide +kernel
theorem dX9_reads_28 : decode cX9_reads 28 = .ok (.iload_n 3, 1) := by decide +kernel
theorem dX9_reads_29 : decode cX9_reads 29 = .ok (.iconst 3, 1) := by decide +kernel
theorem dX9_reads_30 : decode cX9_reads 30 = .ok (.if_icmp .ge 5, 3) := by decide +kernel
theorem dX9_reads_33 : decode cX9_reads 33 = .ok (.iconst 0, 1) := by decide +kernel
theorem dX9_reads_34 : decode cX9_reads 34 = .ok (.ireturn, 1) := by decide +kernel
theorem dX9_reads_35 : decode cX9_reads 35 = .ok (.iload_n 3, 1) := by decide +kernel
theorem dX9_reads_36 : decode cX9_reads 36 = .ok (.aload_n 0, 1) := by decide +kernel
theorem dX9_reads_37 : decode cX9_reads 37 = .ok (.getfield 7, 3) := by decide +kernel
theorem dX9_reads_40 : decode cX9_reads 40 = .ok (.bipush 56, 2) := by decide +kernel
theorem dX9_reads_42 : decode cX9_reads 42 = .ok (.iload_n 1, 1) := by decide +kernel
theorem dX9_reads_43 : decode cX9_reads 43 = .ok (.iadd, 1) := by decide +kernel
theorem dX9_reads_44 : decode cX9_reads 44 = .ok (.iaload, 1) := by decide +kernel
theorem dX9_reads_45 : decode cX9_reads 45 = .ok (.iadd, 1) := by decide +kernel
theorem dX9_reads_46 : decode cX9_reads 46 = .ok (.aload_n 0, 1) := by decide +kernel
theorem dX9_reads_47 : decode cX9_reads 47 = .ok (.getfield 7, 3) := by decide +kernel
theorem dX9_reads_50 : decode cX9_reads 50 = .ok (.bipush 59, 2) := by decide +kernel
theorem dX9_reads_52 : decode cX9_reads 52 = .ok (.iload_n 1, 1) := by decide +kernel
theorem dX9_reads_53 : decode cX9_reads 53 = .ok (.iadd, 1) := by decide +kernel
theorem dX9_reads_54 : decode cX9_reads 54 = .ok (.iaload, 1) := by decide +kernel
theorem dX9_reads_55 : decode cX9_reads 55 = .ok (.bipush 12, 2) := by decide +kernel
theorem dX9_reads_57 : decode cX9_reads 57 = .ok (.if_icmp .ge 7, 3) := by decide +kernel
theorem dX9_reads_60 : decode cX9_reads 60 = .ok (.iconst 0, 1) := by decide +kernel
theorem dX9_reads_61 : decode cX9_reads 61 = .ok (.goto 4, 3) := by decide +kernel
theorem dX9_reads_64 : decode cX9_reads 64 = .ok (.iconst 1, 1) := by decide +kernel
theorem dX9_reads_65 : decode cX9_reads 65 = .ok (.isub, 1) := by decide +kernel
theorem dX9_reads_66 : decode cX9_reads 66 = .ok (.istore 4, 2) := by decide +kernel
theorem dX9_reads_68 : decode cX9_reads 68 = .ok (.iload 4, 2) := by decide +kernel
theorem dX9_reads_70 : decode cX9_reads 70 = .ok (.ifCond .ge 7, 3) := by decide +kernel
theorem dX9_reads_73 : decode cX9_reads 73 = .ok (.iconst 0, 1) := by decide +kernel
theorem dX9_reads_74 : decode cX9_reads 74 = .ok (.goto 15, 3) := by decide +kernel
theorem dX9_reads_77 : decode cX9_reads 77 = .ok (.iload 4, 2) := by decide +kernel
theorem dX9_reads_79 : decode cX9_reads 79 = .ok (.iconst 5, 1) := by decide +kernel
theorem dX9_reads_80 : decode cX9_reads 80 = .ok (.if_icmp .le 7, 3) := by decide +kernel
theorem dX9_reads_83 : decode cX9_reads 83 = .ok (.iconst 5, 1) := by decide +kernel
theorem dX9_reads_84 : decode cX9_reads 84 = .ok (.goto 5, 3) := by decide +kernel
theorem dX9_reads_87 : decode cX9_reads 87 = .ok (.iload 4, 2) := by decide +kernel
theorem dX9_reads_89 : decode cX9_reads 89 = .ok (.ireturn, 1) := by decide +kernel
theorem dX9_readingIn_0 : decode cX9_readingIn 0 = .ok (.aload_n 0, 1) := by decide +kernel
theorem dX9_readingIn_1 : decode cX9_readingIn 1 = .ok (.getfield 7, 3) := by decide +kernel
theorem dX9_readingIn_4 : decode cX9_readingIn 4 = .ok (.sipush 172, 3) := by decide +kernel
theorem dX9_readingIn_7 : decode cX9_readingIn 7 = .ok (.bipush 96, 2) := by decide +kernel
theorem dX9_readingIn_9 : decode cX9_readingIn 9 = .ok (.iload_n 1, 1) := by decide +kernel
theorem dX9_readingIn_10 : decode cX9_readingIn 10 = .ok (.imul, 1) := by decide +kernel
theorem dX9_readingIn_11 : decode cX9_readingIn 11 = .ok (.iadd, 1) := by decide +kernel
theorem dX9_readingIn_12 : decode cX9_readingIn 12 = .ok (.iload_n 2, 1) := by decide +kernel
theorem dX9_readingIn_13 : decode cX9_readingIn 13 = .ok (.iadd, 1) := by decide +kernel
theorem dX9_readingIn_14 : decode cX9_readingIn 14 = .ok (.iaload, 1) := by decide +kernel
theorem dX9_readingIn_15 : decode cX9_readingIn 15 = .ok (.ireturn, 1) := by decide +kernel
theorem dX9_rowUpTo_0 : decode cX9_rowUpTo 0 = .ok (.iconst 0, 1) := by decide +kernel
theorem dX9_rowUpTo_1 : decode cX9_rowUpTo 1 = .ok (.istore 4, 2) := by decide +kernel
theorem dX9_rowUpTo_3 : decode cX9_rowUpTo 3 = .ok (.iload 4, 2) := by decide +kernel
theorem dX9_rowUpTo_5 : decode cX9_rowUpTo 5 = .ok (.iload_n 2, 1) := by decide +kernel
theorem dX9_rowUpTo_6 : decode cX9_rowUpTo 6 = .ok (.if_icmp .gt 22, 3) := by decide +kernel
theorem dX9_rowUpTo_9 : decode cX9_rowUpTo 9 = .ok (.aload_n 0, 1) := by decide +kernel
theorem dX9_rowUpTo_10 : decode cX9_rowUpTo 10 = .ok (.iload_n 1, 1) := by decide +kernel
theorem dX9_rowUpTo_11 : decode cX9_rowUpTo 11 = .ok (.iload_n 2, 1) := by decide +kernel
theorem dX9_rowUpTo_12 : decode cX9_rowUpTo 12 = .ok (.iload 4, 2) := by decide +kernel
theorem dX9_rowUpTo_14 : decode cX9_rowUpTo 14 = .ok (.isub, 1) := by decide +kernel
theorem dX9_rowUpTo_15 : decode cX9_rowUpTo 15 = .ok (.invokevirtual 63, 3) := by decide +kernel
theorem dX9_rowUpTo_18 : decode cX9_rowUpTo 18 = .ok (.iload_n 3, 1) := by decide +kernel
theorem dX9_rowUpTo_19 : decode cX9_rowUpTo 19 = .ok (.if_icmp .lt 9, 3) := by decide +kernel
theorem dX9_rowUpTo_22 : decode cX9_rowUpTo 22 = .ok (.iinc 4 1, 3) := by decide +kernel
theorem dX9_rowUpTo_25 : decode cX9_rowUpTo 25 = .ok (.goto (-22), 3) := by decide +kernel
theorem dX9_rowUpTo_28 : decode cX9_rowUpTo 28 = .ok (.iload 4, 2) := by decide +kernel
theorem dX9_rowUpTo_30 : decode cX9_rowUpTo 30 = .ok (.ireturn, 1) := by decide +kernel
theorem dX9_watches_0 : decode cX9_watches 0 = .ok (.aload_n 0, 1) := by decide +kernel
theorem dX9_watches_1 : decode cX9_watches 1 = .ok (.getfield 7, 3) := by decide +kernel
theorem dX9_watches_4 : decode cX9_watches 4 = .ok (.bipush 62, 2) := by decide +kernel
theorem dX9_watches_6 : decode cX9_watches 6 = .ok (.iload_n 1, 1) := by decide +kernel
theorem dX9_watches_7 : decode cX9_watches 7 = .ok (.iadd, 1) := by decide +kernel
theorem dX9_watches_8 : decode cX9_watches 8 = .ok (.iaload, 1) := by decide +kernel
theorem dX9_watches_9 : decode cX9_watches 9 = .ok (.istore_n 2, 1) := by decide +kernel
theorem dX9_watches_10 : decode cX9_watches 10 = .ok (.iload_n 2, 1) := by decide +kernel
theorem dX9_watches_11 : decode cX9_watches 11 = .ok (.iconst (-1), 1) := by decide +kernel
theorem dX9_watches_12 : decode cX9_watches 12 = .ok (.if_icmp .ne 4, 3) := by decide +kernel
theorem dX9_watches_15 : decode cX9_watches 15 = .ok (.return_, 1) := by decide +kernel
theorem dX9_watches_16 : decode cX9_watches 16 = .ok (.aload_n 0, 1) := by decide +kernel
theorem dX9_watches_17 : decode cX9_watches 17 = .ok (.iload_n 1, 1) := by decide +kernel
theorem dX9_watches_18 : decode cX9_watches 18 = .ok (.iload_n 2, 1) := by decide +kernel
theorem dX9_watches_19 : decode cX9_watches 19 = .ok (.invokevirtual 66, 3) := by decide +kernel
theorem dX9_watches_22 : decode cX9_watches 22 = .ok (.istore_n 3, 1) := by decide +kernel
theorem dX9_watches_23 : decode cX9_watches 23 = .ok (.iload_n 3, 1) := by decide +kernel
theorem dX9_watches_24 : decode cX9_watches 24 = .ok (.aload_n 0, 1) := by decide +kernel
theorem dX9_watches_25 : decode cX9_watches 25 = .ok (.iload_n 2, 1) := by decide +kernel
theorem dX9_watches_26 : decode cX9_watches 26 = .ok (.aload_n 0, 1) := by decide +kernel
theorem dX9_watches_27 : decode cX9_watches 27 = .ok (.getfield 7, 3) := by decide +kernel
theorem dX9_watches_30 : decode cX9_watches 30 = .ok (.bipush 74, 2) := by decide +kernel
theorem dX9_watches_32 : decode cX9_watches 32 = .ok (.iaload, 1) := by decide +kernel
theorem dX9_watches_33 : decode cX9_watches 33 = .ok (.invokevirtual 56, 3) := by decide +kernel
theorem dX9_watches_36 : decode cX9_watches 36 = .ok (.isub, 1) := by decide +kernel
theorem dX9_watches_37 : decode cX9_watches 37 = .ok (.istore 4, 2) := by decide +kernel
theorem dX9_watches_39 : decode cX9_watches 39 = .ok (.sipush 172, 3) := by decide +kernel
theorem dX9_watches_42 : decode cX9_watches 42 = .ok (.bipush 96, 2) := by decide +kernel
theorem dX9_watches_44 : decode cX9_watches 44 = .ok (.iload_n 2, 1) := by decide +kernel
theorem dX9_watches_45 : decode cX9_watches 45 = .ok (.imul, 1) := by decide +kernel
theorem dX9_watches_46 : decode cX9_watches 46 = .ok (.iadd, 1) := by decide +kernel
theorem dX9_watches_47 : decode cX9_watches 47 = .ok (.aload_n 0, 1) := by decide +kernel
theorem dX9_watches_48 : decode cX9_watches 48 = .ok (.getfield 7, 3) := by decide +kernel
theorem dX9_watches_51 : decode cX9_watches 51 = .ok (.bipush 74, 2) := by decide +kernel
theorem dX9_watches_53 : decode cX9_watches 53 = .ok (.iaload, 1) := by decide +kernel
theorem dX9_watches_54 : decode cX9_watches 54 = .ok (.iadd, 1) := by decide +kernel
theorem dX9_watches_55 : decode cX9_watches 55 = .ok (.istore 5, 2) := by decide +kernel
theorem dX9_watches_57 : decode cX9_watches 57 = .ok (.aload_n 0, 1) := by decide +kernel
theorem dX9_watches_58 : decode cX9_watches 58 = .ok (.getfield 7, 3) := by decide +kernel
theorem dX9_watches_61 : decode cX9_watches 61 = .ok (.iload 5, 2) := by decide +kernel
theorem dX9_watches_63 : decode cX9_watches 63 = .ok (.iload_n 3, 1) := by decide +kernel
theorem dX9_watches_64 : decode cX9_watches 64 = .ok (.aload_n 0, 1) := by decide +kernel
theorem dX9_watches_65 : decode cX9_watches 65 = .ok (.getfield 7, 3) := by decide +kernel
theorem dX9_watches_68 : decode cX9_watches 68 = .ok (.iload 5, 2) := by decide +kernel
theorem dX9_watches_70 : decode cX9_watches 70 = .ok (.iaload, 1) := by decide +kernel
theorem dX9_watches_71 : decode cX9_watches 71 = .ok (.if_icmp .le 7, 3) := by decide +kernel
theorem dX9_watches_74 : decode cX9_watches 74 = .ok (.iload_n 3, 1) := by decide +kernel
theorem dX9_watches_75 : decode cX9_watches 75 = .ok (.goto 10, 3) := by decide +kernel
theorem dX9_watches_78 : decode cX9_watches 78 = .ok (.aload_n 0, 1) := by decide +kernel
theorem dX9_watches_79 : decode cX9_watches 79 = .ok (.getfield 7, 3) := by decide +kernel
theorem dX9_watches_82 : decode cX9_watches 82 = .ok (.iload 5, 2) := by decide +kernel
theorem dX9_watches_84 : decode cX9_watches 84 = .ok (.iaload, 1) := by decide +kernel
theorem dX9_watches_85 : decode cX9_watches 85 = .ok (.iastore, 1) := by decide +kernel
theorem dX9_watches_86 : decode cX9_watches 86 = .ok (.aload_n 0, 1) := by decide +kernel
theorem dX9_watches_87 : decode cX9_watches 87 = .ok (.getfield 7, 3) := by decide +kernel
theorem dX9_watches_90 : decode cX9_watches 90 = .ok (.bipush 65, 2) := by decide +kernel
theorem dX9_watches_92 : decode cX9_watches 92 = .ok (.iload_n 1, 1) := by decide +kernel
theorem dX9_watches_93 : decode cX9_watches 93 = .ok (.iadd, 1) := by decide +kernel
theorem dX9_watches_94 : decode cX9_watches 94 = .ok (.dup2, 1) := by decide +kernel
theorem dX9_watches_95 : decode cX9_watches 95 = .ok (.iaload, 1) := by decide +kernel
theorem dX9_watches_96 : decode cX9_watches 96 = .ok (.iload 4, 2) := by decide +kernel
theorem dX9_watches_98 : decode cX9_watches 98 = .ok (.ifCond .ge 9, 3) := by decide +kernel
theorem dX9_watches_101 : decode cX9_watches 101 = .ok (.iload 4, 2) := by decide +kernel
theorem dX9_watches_103 : decode cX9_watches 103 = .ok (.ineg, 1) := by decide +kernel
theorem dX9_watches_104 : decode cX9_watches 104 = .ok (.goto 5, 3) := by decide +kernel
theorem dX9_watches_107 : decode cX9_watches 107 = .ok (.iload 4, 2) := by decide +kernel
theorem dX9_watches_109 : decode cX9_watches 109 = .ok (.iadd, 1) := by decide +kernel
theorem dX9_watches_110 : decode cX9_watches 110 = .ok (.iastore, 1) := by decide +kernel
theorem dX9_watches_111 : decode cX9_watches 111 = .ok (.aload_n 0, 1) := by decide +kernel
theorem dX9_watches_112 : decode cX9_watches 112 = .ok (.getfield 7, 3) := by decide +kernel
theorem dX9_watches_115 : decode cX9_watches 115 = .ok (.bipush 68, 2) := by decide +kernel
theorem dX9_watches_117 : decode cX9_watches 117 = .ok (.iload_n 1, 1) := by decide +kernel
theorem dX9_watches_118 : decode cX9_watches 118 = .ok (.iadd, 1) := by decide +kernel
theorem dX9_watches_119 : decode cX9_watches 119 = .ok (.dup2, 1) := by decide +kernel
theorem dX9_watches_120 : decode cX9_watches 120 = .ok (.iaload, 1) := by decide +kernel
theorem dX9_watches_121 : decode cX9_watches 121 = .ok (.iconst 1, 1) := by decide +kernel
theorem dX9_watches_122 : decode cX9_watches 122 = .ok (.iadd, 1) := by decide +kernel
theorem dX9_watches_123 : decode cX9_watches 123 = .ok (.iastore, 1) := by decide +kernel
theorem dX9_watches_124 : decode cX9_watches 124 = .ok (.return_, 1) := by decide +kernel
theorem dX9_noteDown_0 : decode cX9_noteDown 0 = .ok (.aload_n 0, 1) := by decide +kernel
theorem dX9_noteDown_1 : decode cX9_noteDown 1 = .ok (.getfield 7, 3) := by decide +kernel
theorem dX9_noteDown_4 : decode cX9_noteDown 4 = .ok (.sipush 1708, 3) := by decide +kernel
theorem dX9_noteDown_7 : decode cX9_noteDown 7 = .ok (.aload_n 0, 1) := by decide +kernel
theorem dX9_noteDown_8 : decode cX9_noteDown 8 = .ok (.getfield 7, 3) := by decide +kernel
theorem dX9_noteDown_11 : decode cX9_noteDown 11 = .ok (.bipush 74, 2) := by decide +kernel
theorem dX9_noteDown_13 : decode cX9_noteDown 13 = .ok (.iaload, 1) := by decide +kernel
theorem dX9_noteDown_14 : decode cX9_noteDown 14 = .ok (.iadd, 1) := by decide +kernel
theorem dX9_noteDown_15 : decode cX9_noteDown 15 = .ok (.aload_n 0, 1) := by decide +kernel
theorem dX9_noteDown_16 : decode cX9_noteDown 16 = .ok (.aload_n 0, 1) := by decide +kernel
theorem dX9_noteDown_17 : decode cX9_noteDown 17 = .ok (.getfield 7, 3) := by decide +kernel
theorem dX9_noteDown_20 : decode cX9_noteDown 20 = .ok (.bipush 74, 2) := by decide +kernel
theorem dX9_noteDown_22 : decode cX9_noteDown 22 = .ok (.iaload, 1) := by decide +kernel
theorem dX9_noteDown_23 : decode cX9_noteDown 23 = .ok (.invokevirtual 60, 3) := by decide +kernel
theorem dX9_noteDown_26 : decode cX9_noteDown 26 = .ok (.iastore, 1) := by decide +kernel
theorem dX9_noteDown_27 : decode cX9_noteDown 27 = .ok (.iconst 0, 1) := by decide +kernel
theorem dX9_noteDown_28 : decode cX9_noteDown 28 = .ok (.istore_n 1, 1) := by decide +kernel
theorem dX9_noteDown_29 : decode cX9_noteDown 29 = .ok (.iload_n 1, 1) := by decide +kernel
theorem dX9_noteDown_30 : decode cX9_noteDown 30 = .ok (.bipush 8, 2) := by decide +kernel
theorem dX9_noteDown_32 : decode cX9_noteDown 32 = .ok (.if_icmp .ge 42, 3) := by decide +kernel
theorem dX9_noteDown_35 : decode cX9_noteDown 35 = .ok (.aload_n 0, 1) := by decide +kernel
theorem dX9_noteDown_36 : decode cX9_noteDown 36 = .ok (.getfield 7, 3) := by decide +kernel
theorem dX9_noteDown_39 : decode cX9_noteDown 39 = .ok (.sipush 940, 3) := by decide +kernel
theorem dX9_noteDown_42 : decode cX9_noteDown 42 = .ok (.bipush 96, 2) := by decide +kernel
theorem dX9_noteDown_44 : decode cX9_noteDown 44 = .ok (.iload_n 1, 1) := by decide +kernel
theorem dX9_noteDown_45 : decode cX9_noteDown 45 = .ok (.imul, 1) := by decide +kernel
theorem dX9_noteDown_46 : decode cX9_noteDown 46 = .ok (.iadd, 1) := by decide +kernel
theorem dX9_noteDown_47 : decode cX9_noteDown 47 = .ok (.aload_n 0, 1) := by decide +kernel
theorem dX9_noteDown_48 : decode cX9_noteDown 48 = .ok (.getfield 7, 3) := by decide +kernel
theorem dX9_noteDown_51 : decode cX9_noteDown 51 = .ok (.bipush 74, 2) := by decide +kernel
theorem dX9_noteDown_53 : decode cX9_noteDown 53 = .ok (.iaload, 1) := by decide +kernel
theorem dX9_noteDown_54 : decode cX9_noteDown 54 = .ok (.iadd, 1) := by decide +kernel
theorem dX9_noteDown_55 : decode cX9_noteDown 55 = .ok (.aload_n 0, 1) := by decide +kernel
theorem dX9_noteDown_56 : decode cX9_noteDown 56 = .ok (.iload_n 1, 1) := by decide +kernel
theorem dX9_noteDown_57 : decode cX9_noteDown 57 = .ok (.aload_n 0, 1) := by decide +kernel
theorem dX9_noteDown_58 : decode cX9_noteDown 58 = .ok (.getfield 7, 3) := by decide +kernel
theorem dX9_noteDown_61 : decode cX9_noteDown 61 = .ok (.bipush 74, 2) := by decide +kernel
theorem dX9_noteDown_63 : decode cX9_noteDown 63 = .ok (.iaload, 1) := by decide +kernel
theorem dX9_noteDown_64 : decode cX9_noteDown 64 = .ok (.invokevirtual 56, 3) := by decide +kernel
theorem dX9_noteDown_67 : decode cX9_noteDown 67 = .ok (.iastore, 1) := by decide +kernel
theorem dX9_noteDown_68 : decode cX9_noteDown 68 = .ok (.iinc 1 1, 3) := by decide +kernel
theorem dX9_noteDown_71 : decode cX9_noteDown 71 = .ok (.goto (-42), 3) := by decide +kernel
theorem dX9_noteDown_74 : decode cX9_noteDown 74 = .ok (.return_, 1) := by decide +kernel
theorem dX9_whyFor_0 : decode cX9_whyFor 0 = .ok (.iconst 2, 1) := by decide +kernel
theorem dX9_whyFor_1 : decode cX9_whyFor 1 = .ok (.istore_n 2, 1) := by decide +kernel
theorem dX9_whyFor_2 : decode cX9_whyFor 2 = .ok (.aload_n 0, 1) := by decide +kernel
theorem dX9_whyFor_3 : decode cX9_whyFor 3 = .ok (.getfield 7, 3) := by decide +kernel
theorem dX9_whyFor_6 : decode cX9_whyFor 6 = .ok (.bipush 74, 2) := by decide +kernel
theorem dX9_whyFor_8 : decode cX9_whyFor 8 = .ok (.iaload, 1) := by decide +kernel
theorem dX9_whyFor_9 : decode cX9_whyFor 9 = .ok (.aload_n 0, 1) := by decide +kernel
theorem dX9_whyFor_10 : decode cX9_whyFor 10 = .ok (.getfield 7, 3) := by decide +kernel
theorem dX9_whyFor_13 : decode cX9_whyFor 13 = .ok (.bipush 72, 2) := by decide +kernel
theorem dX9_whyFor_15 : decode cX9_whyFor 15 = .ok (.iaload, 1) := by decide +kernel
theorem dX9_whyFor_16 : decode cX9_whyFor 16 = .ok (.isub, 1) := by decide +kernel
theorem dX9_whyFor_17 : decode cX9_whyFor 17 = .ok (.iconst 1, 1) := by decide +kernel
theorem dX9_whyFor_18 : decode cX9_whyFor 18 = .ok (.iadd, 1) := by decide +kernel
theorem dX9_whyFor_19 : decode cX9_whyFor 19 = .ok (.istore_n 3, 1) := by decide +kernel
theorem dX9_whyFor_20 : decode cX9_whyFor 20 = .ok (.iload_n 3, 1) := by decide +kernel
theorem dX9_whyFor_21 : decode cX9_whyFor 21 = .ok (.aload_n 0, 1) := by decide +kernel
theorem dX9_whyFor_22 : decode cX9_whyFor 22 = .ok (.getfield 7, 3) := by decide +kernel
theorem dX9_whyFor_25 : decode cX9_whyFor 25 = .ok (.bipush 74, 2) := by decide +kernel
theorem dX9_whyFor_27 : decode cX9_whyFor 27 = .ok (.iaload, 1) := by decide +kernel
theorem dX9_whyFor_28 : decode cX9_whyFor 28 = .ok (.if_icmp .gt 75, 3) := by decide +kernel
theorem dX9_whyFor_31 : decode cX9_whyFor 31 = .ok (.aload_n 0, 1) := by decide +kernel
theorem dX9_whyFor_32 : decode cX9_whyFor 32 = .ok (.getfield 7, 3) := by decide +kernel
theorem dX9_whyFor_35 : decode cX9_whyFor 35 = .ok (.sipush 940, 3) := by decide +kernel
theorem dX9_whyFor_38 : decode cX9_whyFor 38 = .ok (.bipush 96, 2) := by decide +kernel
theorem dX9_whyFor_40 : decode cX9_whyFor 40 = .ok (.iload_n 1, 1) := by decide +kernel
theorem dX9_whyFor_41 : decode cX9_whyFor 41 = .ok (.imul, 1) := by decide +kernel
theorem dX9_whyFor_42 : decode cX9_whyFor 42 = .ok (.iadd, 1) := by decide +kernel
theorem dX9_whyFor_43 : decode cX9_whyFor 43 = .ok (.iload_n 3, 1) := by decide +kernel
theorem dX9_whyFor_44 : decode cX9_whyFor 44 = .ok (.iadd, 1) := by decide +kernel
theorem dX9_whyFor_45 : decode cX9_whyFor 45 = .ok (.iaload, 1) := by decide +kernel
theorem dX9_whyFor_46 : decode cX9_whyFor 46 = .ok (.aload_n 0, 1) := by decide +kernel
theorem dX9_whyFor_47 : decode cX9_whyFor 47 = .ok (.getfield 7, 3) := by decide +kernel
theorem dX9_whyFor_50 : decode cX9_whyFor 50 = .ok (.bipush 71, 2) := by decide +kernel
theorem dX9_whyFor_52 : decode cX9_whyFor 52 = .ok (.iaload, 1) := by decide +kernel
theorem dX9_whyFor_53 : decode cX9_whyFor 53 = .ok (.if_icmp .ge 7, 3) := by decide +kernel
theorem dX9_whyFor_56 : decode cX9_whyFor 56 = .ok (.iconst 1, 1) := by decide +kernel
theorem dX9_whyFor_57 : decode cX9_whyFor 57 = .ok (.goto 4, 3) := by decide +kernel
theorem dX9_whyFor_60 : decode cX9_whyFor 60 = .ok (.iconst 0, 1) := by decide +kernel
theorem dX9_whyFor_61 : decode cX9_whyFor 61 = .ok (.istore 4, 2) := by decide +kernel
theorem dX9_whyFor_63 : decode cX9_whyFor 63 = .ok (.aload_n 0, 1) := by decide +kernel
theorem dX9_whyFor_64 : decode cX9_whyFor 64 = .ok (.getfield 7, 3) := by decide +kernel
theorem dX9_whyFor_67 : decode cX9_whyFor 67 = .ok (.sipush 1708, 3) := by decide +kernel
theorem dX9_whyFor_70 : decode cX9_whyFor 70 = .ok (.iload_n 3, 1) := by decide +kernel
theorem dX9_whyFor_71 : decode cX9_whyFor 71 = .ok (.iadd, 1) := by decide +kernel
theorem dX9_whyFor_72 : decode cX9_whyFor 72 = .ok (.iaload, 1) := by decide +kernel
theorem dX9_whyFor_73 : decode cX9_whyFor 73 = .ok (.iconst 2, 1) := by decide +kernel
theorem dX9_whyFor_74 : decode cX9_whyFor 74 = .ok (.if_icmp .le 7, 3) := by decide +kernel
theorem dX9_whyFor_77 : decode cX9_whyFor 77 = .ok (.iconst 0, 1) := by decide +kernel
theorem dX9_whyFor_78 : decode cX9_whyFor 78 = .ok (.goto 18, 3) := by decide +kernel
theorem dX9_whyFor_81 : decode cX9_whyFor 81 = .ok (.iload 4, 2) := by decide +kernel
theorem dX9_whyFor_83 : decode cX9_whyFor 83 = .ok (.ifCond .eq 12, 3) := by decide +kernel
theorem dX9_whyFor_86 : decode cX9_whyFor 86 = .ok (.iload_n 2, 1) := by decide +kernel
theorem dX9_whyFor_87 : decode cX9_whyFor 87 = .ok (.iconst 2, 1) := by decide +kernel
theorem dX9_whyFor_88 : decode cX9_whyFor 88 = .ok (.if_icmp .ne 7, 3) := by decide +kernel
theorem dX9_whyFor_91 : decode cX9_whyFor 91 = .ok (.iconst 1, 1) := by decide +kernel
theorem dX9_whyFor_92 : decode cX9_whyFor 92 = .ok (.goto 4, 3) := by decide +kernel
theorem dX9_whyFor_95 : decode cX9_whyFor 95 = .ok (.iload_n 2, 1) := by decide +kernel
theorem dX9_whyFor_96 : decode cX9_whyFor 96 = .ok (.istore_n 2, 1) := by decide +kernel
theorem dX9_whyFor_97 : decode cX9_whyFor 97 = .ok (.iinc 3 1, 3) := by decide +kernel
theorem dX9_whyFor_100 : decode cX9_whyFor 100 = .ok (.goto (-80), 3) := by decide +kernel
theorem dX9_whyFor_103 : decode cX9_whyFor 103 = .ok (.iload_n 2, 1) := by decide +kernel
theorem dX9_whyFor_104 : decode cX9_whyFor 104 = .ok (.ireturn, 1) := by decide +kernel
theorem dX9_gets_0 : decode cX9_gets 0 = .ok (.aload_n 0, 1) := by decide +kernel
theorem dX9_gets_1 : decode cX9_gets 1 = .ok (.getfield 7, 3) := by decide +kernel
theorem dX9_gets_4 : decode cX9_gets 4 = .ok (.bipush 75, 2) := by decide +kernel
theorem dX9_gets_6 : decode cX9_gets 6 = .ok (.iaload, 1) := by decide +kernel
theorem dX9_gets_7 : decode cX9_gets 7 = .ok (.istore_n 2, 1) := by decide +kernel
theorem dX9_gets_8 : decode cX9_gets 8 = .ok (.iconst 1, 1) := by decide +kernel
theorem dX9_gets_9 : decode cX9_gets 9 = .ok (.istore_n 3, 1) := by decide +kernel
theorem dX9_gets_10 : decode cX9_gets 10 = .ok (.iconst 0, 1) := by decide +kernel
theorem dX9_gets_11 : decode cX9_gets 11 = .ok (.istore 4, 2) := by decide +kernel
theorem dX9_gets_13 : decode cX9_gets 13 = .ok (.iload 4, 2) := by decide +kernel
theorem dX9_gets_15 : decode cX9_gets 15 = .ok (.iload_n 2, 1) := by decide +kernel
theorem dX9_gets_16 : decode cX9_gets 16 = .ok (.if_icmp .ge 46, 3) := by decide +kernel
theorem dX9_gets_19 : decode cX9_gets 19 = .ok (.iload_n 3, 1) := by decide +kernel
theorem dX9_gets_20 : decode cX9_gets 20 = .ok (.aload_n 0, 1) := by decide +kernel
theorem dX9_gets_21 : decode cX9_gets 21 = .ok (.getfield 7, 3) := by decide +kernel
theorem dX9_gets_24 : decode cX9_gets 24 = .ok (.bipush 92, 2) := by decide +kernel
theorem dX9_gets_26 : decode cX9_gets 26 = .ok (.iload 4, 2) := by decide +kernel
theorem dX9_gets_28 : decode cX9_gets 28 = .ok (.iadd, 1) := by decide +kernel
theorem dX9_gets_29 : decode cX9_gets 29 = .ok (.iaload, 1) := by decide +kernel
theorem dX9_gets_30 : decode cX9_gets 30 = .ok (.iload_n 1, 1) := by decide +kernel
theorem dX9_gets_31 : decode cX9_gets 31 = .ok (.if_icmp .ne 22, 3) := by decide +kernel
theorem dX9_gets_34 : decode cX9_gets 34 = .ok (.aload_n 0, 1) := by decide +kernel
theorem dX9_gets_35 : decode cX9_gets 35 = .ok (.getfield 7, 3) := by decide +kernel
theorem dX9_gets_38 : decode cX9_gets 38 = .ok (.sipush 132, 3) := by decide +kernel
theorem dX9_gets_41 : decode cX9_gets 41 = .ok (.iload 4, 2) := by decide +kernel
theorem dX9_gets_43 : decode cX9_gets 43 = .ok (.iadd, 1) := by decide +kernel
theorem dX9_gets_44 : decode cX9_gets 44 = .ok (.iaload, 1) := by decide +kernel
theorem dX9_gets_45 : decode cX9_gets 45 = .ok (.iconst 2, 1) := by decide +kernel
theorem dX9_gets_46 : decode cX9_gets 46 = .ok (.if_icmp .ge 7, 3) := by decide +kernel
theorem dX9_gets_49 : decode cX9_gets 49 = .ok (.iconst 1, 1) := by decide +kernel
theorem dX9_gets_50 : decode cX9_gets 50 = .ok (.goto 4, 3) := by decide +kernel
theorem dX9_gets_53 : decode cX9_gets 53 = .ok (.iconst 0, 1) := by decide +kernel
theorem dX9_gets_54 : decode cX9_gets 54 = .ok (.iadd, 1) := by decide +kernel
theorem dX9_gets_55 : decode cX9_gets 55 = .ok (.istore_n 3, 1) := by decide +kernel
theorem dX9_gets_56 : decode cX9_gets 56 = .ok (.iinc 4 1, 3) := by decide +kernel
theorem dX9_gets_59 : decode cX9_gets 59 = .ok (.goto (-46), 3) := by decide +kernel
theorem dX9_gets_62 : decode cX9_gets 62 = .ok (.aload_n 0, 1) := by decide +kernel
theorem dX9_gets_63 : decode cX9_gets 63 = .ok (.getfield 7, 3) := by decide +kernel
theorem dX9_gets_66 : decode cX9_gets 66 = .ok (.bipush 92, 2) := by decide +kernel
theorem dX9_gets_68 : decode cX9_gets 68 = .ok (.iload_n 2, 1) := by decide +kernel
theorem dX9_gets_69 : decode cX9_gets 69 = .ok (.iadd, 1) := by decide +kernel
theorem dX9_gets_70 : decode cX9_gets 70 = .ok (.iload_n 1, 1) := by decide +kernel
theorem dX9_gets_71 : decode cX9_gets 71 = .ok (.iastore, 1) := by decide +kernel
theorem dX9_gets_72 : decode cX9_gets 72 = .ok (.aload_n 0, 1) := by decide +kernel
theorem dX9_gets_73 : decode cX9_gets 73 = .ok (.getfield 7, 3) := by decide +kernel
theorem dX9_gets_76 : decode cX9_gets 76 = .ok (.bipush 112, 2) := by decide +kernel
theorem dX9_gets_78 : decode cX9_gets 78 = .ok (.iload_n 2, 1) := by decide +kernel
theorem dX9_gets_79 : decode cX9_gets 79 = .ok (.iadd, 1) := by decide +kernel
theorem dX9_gets_80 : decode cX9_gets 80 = .ok (.bipush 10, 2) := by decide +kernel
theorem dX9_gets_82 : decode cX9_gets 82 = .ok (.iload_n 3, 1) := by decide +kernel
theorem dX9_gets_83 : decode cX9_gets 83 = .ok (.imul, 1) := by decide +kernel
theorem dX9_gets_84 : decode cX9_gets 84 = .ok (.iastore, 1) := by decide +kernel
theorem dX9_gets_85 : decode cX9_gets 85 = .ok (.aload_n 0, 1) := by decide +kernel
theorem dX9_gets_86 : decode cX9_gets 86 = .ok (.getfield 7, 3) := by decide +kernel
theorem dX9_gets_89 : decode cX9_gets 89 = .ok (.sipush 132, 3) := by decide +kernel
theorem dX9_gets_92 : decode cX9_gets 92 = .ok (.iload_n 2, 1) := by decide +kernel
theorem dX9_gets_93 : decode cX9_gets 93 = .ok (.iadd, 1) := by decide +kernel
theorem dX9_gets_94 : decode cX9_gets 94 = .ok (.iconst 0, 1) := by decide +kernel
theorem dX9_gets_95 : decode cX9_gets 95 = .ok (.iastore, 1) := by decide +kernel
theorem dX9_gets_96 : decode cX9_gets 96 = .ok (.aload_n 0, 1) := by decide +kernel
theorem dX9_gets_97 : decode cX9_gets 97 = .ok (.getfield 7, 3) := by decide +kernel
theorem dX9_gets_100 : decode cX9_gets 100 = .ok (.sipush 152, 3) := by decide +kernel
theorem dX9_gets_103 : decode cX9_gets 103 = .ok (.iload_n 2, 1) := by decide +kernel
theorem dX9_gets_104 : decode cX9_gets 104 = .ok (.iadd, 1) := by decide +kernel
theorem dX9_gets_105 : decode cX9_gets 105 = .ok (.aload_n 0, 1) := by decide +kernel
theorem dX9_gets_106 : decode cX9_gets 106 = .ok (.iload_n 1, 1) := by decide +kernel
theorem dX9_gets_107 : decode cX9_gets 107 = .ok (.invokevirtual 69, 3) := by decide +kernel
theorem dX9_gets_110 : decode cX9_gets 110 = .ok (.iastore, 1) := by decide +kernel
theorem dX9_gets_111 : decode cX9_gets 111 = .ok (.aload_n 0, 1) := by decide +kernel
theorem dX9_gets_112 : decode cX9_gets 112 = .ok (.getfield 7, 3) := by decide +kernel
theorem dX9_gets_115 : decode cX9_gets 115 = .ok (.bipush 76, 2) := by decide +kernel
theorem dX9_gets_117 : decode cX9_gets 117 = .ok (.iload_n 1, 1) := by decide +kernel
theorem dX9_gets_118 : decode cX9_gets 118 = .ok (.iadd, 1) := by decide +kernel
theorem dX9_gets_119 : decode cX9_gets 119 = .ok (.dup2, 1) := by decide +kernel
theorem dX9_gets_120 : decode cX9_gets 120 = .ok (.iaload, 1) := by decide +kernel
theorem dX9_gets_121 : decode cX9_gets 121 = .ok (.bipush 10, 2) := by decide +kernel
theorem dX9_gets_123 : decode cX9_gets 123 = .ok (.iload_n 3, 1) := by decide +kernel
theorem dX9_gets_124 : decode cX9_gets 124 = .ok (.imul, 1) := by decide +kernel
theorem dX9_gets_125 : decode cX9_gets 125 = .ok (.iadd, 1) := by decide +kernel
theorem dX9_gets_126 : decode cX9_gets 126 = .ok (.iastore, 1) := by decide +kernel
theorem dX9_gets_127 : decode cX9_gets 127 = .ok (.aload_n 0, 1) := by decide +kernel
theorem dX9_gets_128 : decode cX9_gets 128 = .ok (.getfield 7, 3) := by decide +kernel
theorem dX9_gets_131 : decode cX9_gets 131 = .ok (.bipush 75, 2) := by decide +kernel
theorem dX9_gets_133 : decode cX9_gets 133 = .ok (.dup2, 1) := by decide +kernel
theorem dX9_gets_134 : decode cX9_gets 134 = .ok (.iaload, 1) := by decide +kernel
theorem dX9_gets_135 : decode cX9_gets 135 = .ok (.iconst 1, 1) := by decide +kernel
theorem dX9_gets_136 : decode cX9_gets 136 = .ok (.iadd, 1) := by decide +kernel
theorem dX9_gets_137 : decode cX9_gets 137 = .ok (.iastore, 1) := by decide +kernel
theorem dX9_gets_138 : decode cX9_gets 138 = .ok (.return_, 1) := by decide +kernel
theorem dX9_tick_0 : decode cX9_tick 0 = .ok (.aload_n 0, 1) := by decide +kernel
theorem dX9_tick_1 : decode cX9_tick 1 = .ok (.invokevirtual 72, 3) := by decide +kernel
theorem dX9_tick_4 : decode cX9_tick 4 = .ok (.iconst 0, 1) := by decide +kernel
theorem dX9_tick_5 : decode cX9_tick 5 = .ok (.istore_n 1, 1) := by decide +kernel
theorem dX9_tick_6 : decode cX9_tick 6 = .ok (.iload_n 1, 1) := by decide +kernel
theorem dX9_tick_7 : decode cX9_tick 7 = .ok (.iconst 3, 1) := by decide +kernel
theorem dX9_tick_8 : decode cX9_tick 8 = .ok (.if_icmp .ge 14, 3) := by decide +kernel
theorem dX9_tick_11 : decode cX9_tick 11 = .ok (.aload_n 0, 1) := by decide +kernel
theorem dX9_tick_12 : decode cX9_tick 12 = .ok (.iload_n 1, 1) := by decide +kernel
theorem dX9_tick_13 : decode cX9_tick 13 = .ok (.invokevirtual 75, 3) := by decide +kernel
theorem dX9_tick_16 : decode cX9_tick 16 = .ok (.iinc 1 1, 3) := by decide +kernel
theorem dX9_tick_19 : decode cX9_tick 19 = .ok (.goto (-13), 3) := by decide +kernel
theorem dX9_tick_22 : decode cX9_tick 22 = .ok (.iconst 0, 1) := by decide +kernel
theorem dX9_tick_23 : decode cX9_tick 23 = .ok (.istore_n 1, 1) := by decide +kernel
theorem dX9_tick_24 : decode cX9_tick 24 = .ok (.iload_n 1, 1) := by decide +kernel
theorem dX9_tick_25 : decode cX9_tick 25 = .ok (.iconst 3, 1) := by decide +kernel
theorem dX9_tick_26 : decode cX9_tick 26 = .ok (.if_icmp .ge 46, 3) := by decide +kernel
theorem dX9_tick_29 : decode cX9_tick 29 = .ok (.aload_n 0, 1) := by decide +kernel
theorem dX9_tick_30 : decode cX9_tick 30 = .ok (.getfield 7, 3) := by decide +kernel
theorem dX9_tick_33 : decode cX9_tick 33 = .ok (.bipush 59, 2) := by decide +kernel
theorem dX9_tick_35 : decode cX9_tick 35 = .ok (.iload_n 1, 1) := by decide +kernel
theorem dX9_tick_36 : decode cX9_tick 36 = .ok (.iadd, 1) := by decide +kernel
theorem dX9_tick_37 : decode cX9_tick 37 = .ok (.aload_n 0, 1) := by decide +kernel
theorem dX9_tick_38 : decode cX9_tick 38 = .ok (.getfield 7, 3) := by decide +kernel
theorem dX9_tick_41 : decode cX9_tick 41 = .ok (.bipush 62, 2) := by decide +kernel
theorem dX9_tick_43 : decode cX9_tick 43 = .ok (.iload_n 1, 1) := by decide +kernel
theorem dX9_tick_44 : decode cX9_tick 44 = .ok (.iadd, 1) := by decide +kernel
theorem dX9_tick_45 : decode cX9_tick 45 = .ok (.iaload, 1) := by decide +kernel
theorem dX9_tick_46 : decode cX9_tick 46 = .ok (.iconst (-1), 1) := by decide +kernel
theorem dX9_tick_47 : decode cX9_tick 47 = .ok (.if_icmp .ne 7, 3) := by decide +kernel
theorem dX9_tick_50 : decode cX9_tick 50 = .ok (.iconst 0, 1) := by decide +kernel
theorem dX9_tick_51 : decode cX9_tick 51 = .ok (.goto 14, 3) := by decide +kernel
theorem dX9_tick_54 : decode cX9_tick 54 = .ok (.aload_n 0, 1) := by decide +kernel
theorem dX9_tick_55 : decode cX9_tick 55 = .ok (.getfield 7, 3) := by decide +kernel
theorem dX9_tick_58 : decode cX9_tick 58 = .ok (.bipush 59, 2) := by decide +kernel
theorem dX9_tick_60 : decode cX9_tick 60 = .ok (.iload_n 1, 1) := by decide +kernel
theorem dX9_tick_61 : decode cX9_tick 61 = .ok (.iadd, 1) := by decide +kernel
theorem dX9_tick_62 : decode cX9_tick 62 = .ok (.iaload, 1) := by decide +kernel
theorem dX9_tick_63 : decode cX9_tick 63 = .ok (.iconst 1, 1) := by decide +kernel
theorem dX9_tick_64 : decode cX9_tick 64 = .ok (.iadd, 1) := by decide +kernel
theorem dX9_tick_65 : decode cX9_tick 65 = .ok (.iastore, 1) := by decide +kernel
theorem dX9_tick_66 : decode cX9_tick 66 = .ok (.iinc 1 1, 3) := by decide +kernel
theorem dX9_tick_69 : decode cX9_tick 69 = .ok (.goto (-45), 3) := by decide +kernel
theorem dX9_tick_72 : decode cX9_tick 72 = .ok (.iconst 0, 1) := by decide +kernel
theorem dX9_tick_73 : decode cX9_tick 73 = .ok (.istore_n 1, 1) := by decide +kernel
theorem dX9_tick_74 : decode cX9_tick 74 = .ok (.iload_n 1, 1) := by decide +kernel
theorem dX9_tick_75 : decode cX9_tick 75 = .ok (.bipush 8, 2) := by decide +kernel
theorem dX9_tick_77 : decode cX9_tick 77 = .ok (.if_icmp .ge 55, 3) := by decide +kernel
theorem dX9_tick_80 : decode cX9_tick 80 = .ok (.aload_n 0, 1) := by decide +kernel
theorem dX9_tick_81 : decode cX9_tick 81 = .ok (.getfield 7, 3) := by decide +kernel
theorem dX9_tick_84 : decode cX9_tick 84 = .ok (.bipush 75, 2) := by decide +kernel
theorem dX9_tick_86 : decode cX9_tick 86 = .ok (.iaload, 1) := by decide +kernel
theorem dX9_tick_87 : decode cX9_tick 87 = .ok (.bipush 20, 2) := by decide +kernel
theorem dX9_tick_89 : decode cX9_tick 89 = .ok (.if_icmp .ge 37, 3) := by decide +kernel
theorem dX9_tick_92 : decode cX9_tick 92 = .ok (.aload_n 0, 1) := by decide +kernel
theorem dX9_tick_93 : decode cX9_tick 93 = .ok (.iload_n 1, 1) := by decide +kernel
theorem dX9_tick_94 : decode cX9_tick 94 = .ok (.aload_n 0, 1) := by decide +kernel
theorem dX9_tick_95 : decode cX9_tick 95 = .ok (.getfield 7, 3) := by decide +kernel
theorem dX9_tick_98 : decode cX9_tick 98 = .ok (.bipush 74, 2) := by decide +kernel
theorem dX9_tick_100 : decode cX9_tick 100 = .ok (.iaload, 1) := by decide +kernel
theorem dX9_tick_101 : decode cX9_tick 101 = .ok (.aload_n 0, 1) := by decide +kernel
theorem dX9_tick_102 : decode cX9_tick 102 = .ok (.getfield 7, 3) := by decide +kernel
theorem dX9_tick_105 : decode cX9_tick 105 = .ok (.bipush 71, 2) := by decide +kernel
theorem dX9_tick_107 : decode cX9_tick 107 = .ok (.iaload, 1) := by decide +kernel
theorem dX9_tick_108 : decode cX9_tick 108 = .ok (.invokevirtual 79, 3) := by decide +kernel
theorem dX9_tick_111 : decode cX9_tick 111 = .ok (.aload_n 0, 1) := by decide +kernel
theorem dX9_tick_112 : decode cX9_tick 112 = .ok (.getfield 7, 3) := by decide +kernel
theorem dX9_tick_115 : decode cX9_tick 115 = .ok (.bipush 72, 2) := by decide +kernel
theorem dX9_tick_117 : decode cX9_tick 117 = .ok (.iaload, 1) := by decide +kernel
theorem dX9_tick_118 : decode cX9_tick 118 = .ok (.if_icmp .ne 8, 3) := by decide +kernel
theorem dX9_tick_121 : decode cX9_tick 121 = .ok (.aload_n 0, 1) := by decide +kernel
theorem dX9_tick_122 : decode cX9_tick 122 = .ok (.iload_n 1, 1) := by decide +kernel
theorem dX9_tick_123 : decode cX9_tick 123 = .ok (.invokevirtual 83, 3) := by decide +kernel
theorem dX9_tick_126 : decode cX9_tick 126 = .ok (.iinc 1 1, 3) := by decide +kernel
theorem dX9_tick_129 : decode cX9_tick 129 = .ok (.goto (-55), 3) := by decide +kernel
theorem dX9_tick_132 : decode cX9_tick 132 = .ok (.aload_n 0, 1) := by decide +kernel
theorem dX9_tick_133 : decode cX9_tick 133 = .ok (.getfield 7, 3) := by decide +kernel
theorem dX9_tick_136 : decode cX9_tick 136 = .ok (.bipush 74, 2) := by decide +kernel
theorem dX9_tick_138 : decode cX9_tick 138 = .ok (.dup2, 1) := by decide +kernel
theorem dX9_tick_139 : decode cX9_tick 139 = .ok (.iaload, 1) := by decide +kernel
theorem dX9_tick_140 : decode cX9_tick 140 = .ok (.iconst 1, 1) := by decide +kernel
theorem dX9_tick_141 : decode cX9_tick 141 = .ok (.iadd, 1) := by decide +kernel
theorem dX9_tick_142 : decode cX9_tick 142 = .ok (.iastore, 1) := by decide +kernel
theorem dX9_tick_143 : decode cX9_tick 143 = .ok (.aload_n 0, 1) := by decide +kernel
theorem dX9_tick_144 : decode cX9_tick 144 = .ok (.getfield 7, 3) := by decide +kernel
theorem dX9_tick_147 : decode cX9_tick 147 = .ok (.bipush 74, 2) := by decide +kernel
theorem dX9_tick_149 : decode cX9_tick 149 = .ok (.iaload, 1) := by decide +kernel
theorem dX9_tick_150 : decode cX9_tick 150 = .ok (.bipush 96, 2) := by decide +kernel
theorem dX9_tick_152 : decode cX9_tick 152 = .ok (.if_icmp .ne 26, 3) := by decide +kernel
theorem dX9_tick_155 : decode cX9_tick 155 = .ok (.aload_n 0, 1) := by decide +kernel
theorem dX9_tick_156 : decode cX9_tick 156 = .ok (.getfield 7, 3) := by decide +kernel
theorem dX9_tick_159 : decode cX9_tick 159 = .ok (.bipush 74, 2) := by decide +kernel
theorem dX9_tick_161 : decode cX9_tick 161 = .ok (.iconst 0, 1) := by decide +kernel
theorem dX9_tick_162 : decode cX9_tick 162 = .ok (.iastore, 1) := by decide +kernel
theorem dX9_tick_163 : decode cX9_tick 163 = .ok (.aload_n 0, 1) := by decide +kernel
theorem dX9_tick_164 : decode cX9_tick 164 = .ok (.getfield 7, 3) := by decide +kernel
theorem dX9_tick_167 : decode cX9_tick 167 = .ok (.bipush 73, 2) := by decide +kernel
theorem dX9_tick_169 : decode cX9_tick 169 = .ok (.dup2, 1) := by decide +kernel
theorem dX9_tick_170 : decode cX9_tick 170 = .ok (.iaload, 1) := by decide +kernel
theorem dX9_tick_171 : decode cX9_tick 171 = .ok (.iconst 1, 1) := by decide +kernel
theorem dX9_tick_172 : decode cX9_tick 172 = .ok (.iadd, 1) := by decide +kernel
theorem dX9_tick_173 : decode cX9_tick 173 = .ok (.iastore, 1) := by decide +kernel
theorem dX9_tick_174 : decode cX9_tick 174 = .ok (.aload_n 0, 1) := by decide +kernel
theorem dX9_tick_175 : decode cX9_tick 175 = .ok (.invokevirtual 31, 3) := by decide +kernel
theorem dX9_tick_178 : decode cX9_tick 178 = .ok (.return_, 1) := by decide +kernel
theorem dX9_passes_0 : decode cX9_passes 0 = .ok (.aload_n 0, 1) := by decide +kernel
theorem dX9_passes_1 : decode cX9_passes 1 = .ok (.getfield 7, 3) := by decide +kernel
theorem dX9_passes_4 : decode cX9_passes 4 = .ok (.bipush 75, 2) := by decide +kernel
theorem dX9_passes_6 : decode cX9_passes 6 = .ok (.iaload, 1) := by decide +kernel
theorem dX9_passes_7 : decode cX9_passes 7 = .ok (.istore_n 2, 1) := by decide +kernel
theorem dX9_passes_8 : decode cX9_passes 8 = .ok (.iconst 0, 1) := by decide +kernel
theorem dX9_passes_9 : decode cX9_passes 9 = .ok (.istore_n 3, 1) := by decide +kernel
theorem dX9_passes_10 : decode cX9_passes 10 = .ok (.iload_n 3, 1) := by decide +kernel
theorem dX9_passes_11 : decode cX9_passes 11 = .ok (.iload_n 1, 1) := by decide +kernel
theorem dX9_passes_12 : decode cX9_passes 12 = .ok (.if_icmp .ge 13, 3) := by decide +kernel
theorem dX9_passes_15 : decode cX9_passes 15 = .ok (.aload_n 0, 1) := by decide +kernel
theorem dX9_passes_16 : decode cX9_passes 16 = .ok (.invokevirtual 86, 3) := by decide +kernel
theorem dX9_passes_19 : decode cX9_passes 19 = .ok (.iinc 3 1, 3) := by decide +kernel
theorem dX9_passes_22 : decode cX9_passes 22 = .ok (.goto (-12), 3) := by decide +kernel
theorem dX9_passes_25 : decode cX9_passes 25 = .ok (.aload_n 0, 1) := by decide +kernel
theorem dX9_passes_26 : decode cX9_passes 26 = .ok (.getfield 7, 3) := by decide +kernel
theorem dX9_passes_29 : decode cX9_passes 29 = .ok (.bipush 75, 2) := by decide +kernel
theorem dX9_passes_31 : decode cX9_passes 31 = .ok (.iaload, 1) := by decide +kernel
theorem dX9_passes_32 : decode cX9_passes 32 = .ok (.iload_n 2, 1) := by decide +kernel
theorem dX9_passes_33 : decode cX9_passes 33 = .ok (.isub, 1) := by decide +kernel
theorem dX9_passes_34 : decode cX9_passes 34 = .ok (.ireturn, 1) := by decide +kernel
theorem dX9_setChimney_0 : decode cX9_setChimney 0 = .ok (.aload_n 0, 1) := by decide +kernel
theorem dX9_setChimney_1 : decode cX9_setChimney 1 = .ok (.iconst 0, 1) := by decide +kernel
theorem dX9_setChimney_2 : decode cX9_setChimney 2 = .ok (.putfield 34, 3) := by decide +kernel
theorem dX9_setChimney_5 : decode cX9_setChimney 5 = .ok (.iload_n 1, 1) := by decide +kernel
theorem dX9_setChimney_6 : decode cX9_setChimney 6 = .ok (.invokestatic 89, 3) := by decide +kernel
theorem dX9_setChimney_9 : decode cX9_setChimney 9 = .ok (.ifCond .ne 9, 3) := by decide +kernel
theorem dX9_setChimney_12 : decode cX9_setChimney 12 = .ok (.aload_n 0, 1) := by decide +kernel
theorem dX9_setChimney_13 : decode cX9_setChimney 13 = .ok (.iconst 1, 1) := by decide +kernel
theorem dX9_setChimney_14 : decode cX9_setChimney 14 = .ok (.invokevirtual 45, 3) := by decide +kernel
theorem dX9_setChimney_17 : decode cX9_setChimney 17 = .ok (.ireturn, 1) := by decide +kernel
theorem dX9_setChimney_18 : decode cX9_setChimney 18 = .ok (.iload_n 2, 1) := by decide +kernel
theorem dX9_setChimney_19 : decode cX9_setChimney 19 = .ok (.iconst 0, 1) := by decide +kernel
theorem dX9_setChimney_20 : decode cX9_setChimney 20 = .ok (.bipush 9, 2) := by decide +kernel
theorem dX9_setChimney_22 : decode cX9_setChimney 22 = .ok (.invokestatic 38, 3) := by decide +kernel
theorem dX9_setChimney_25 : decode cX9_setChimney 25 = .ok (.ifCond .eq 34, 3) := by decide +kernel
theorem dX9_setChimney_28 : decode cX9_setChimney 28 = .ok (.iload_n 3, 1) := by decide +kernel
theorem dX9_setChimney_29 : decode cX9_setChimney 29 = .ok (.iconst 0, 1) := by decide +kernel
theorem dX9_setChimney_30 : decode cX9_setChimney 30 = .ok (.iconst 2, 1) := by decide +kernel
theorem dX9_setChimney_31 : decode cX9_setChimney 31 = .ok (.invokestatic 38, 3) := by decide +kernel
theorem dX9_setChimney_34 : decode cX9_setChimney 34 = .ok (.ifCond .eq 25, 3) := by decide +kernel
theorem dX9_setChimney_37 : decode cX9_setChimney 37 = .ok (.iload 4, 2) := by decide +kernel
theorem dX9_setChimney_39 : decode cX9_setChimney 39 = .ok (.iconst 2, 1) := by decide +kernel
theorem dX9_setChimney_40 : decode cX9_setChimney 40 = .ok (.bipush 12, 2) := by decide +kernel
theorem dX9_setChimney_42 : decode cX9_setChimney 42 = .ok (.invokestatic 38, 3) := by decide +kernel
theorem dX9_setChimney_45 : decode cX9_setChimney 45 = .ok (.ifCond .eq 14, 3) := by decide +kernel
theorem dX9_setChimney_48 : decode cX9_setChimney 48 = .ok (.iload 5, 2) := by decide +kernel
theorem dX9_setChimney_50 : decode cX9_setChimney 50 = .ok (.iconst 0, 1) := by decide +kernel
theorem dX9_setChimney_51 : decode cX9_setChimney 51 = .ok (.bipush 11, 2) := by decide +kernel
theorem dX9_setChimney_53 : decode cX9_setChimney 53 = .ok (.invokestatic 38, 3) := by decide +kernel
theorem dX9_setChimney_56 : decode cX9_setChimney 56 = .ok (.ifCond .ne 9, 3) := by decide +kernel
theorem dX9_setChimney_59 : decode cX9_setChimney 59 = .ok (.aload_n 0, 1) := by decide +kernel
theorem dX9_setChimney_60 : decode cX9_setChimney 60 = .ok (.iconst 2, 1) := by decide +kernel
theorem dX9_setChimney_61 : decode cX9_setChimney 61 = .ok (.invokevirtual 45, 3) := by decide +kernel
theorem dX9_setChimney_64 : decode cX9_setChimney 64 = .ok (.ireturn, 1) := by decide +kernel
theorem dX9_setChimney_65 : decode cX9_setChimney 65 = .ok (.aload_n 0, 1) := by decide +kernel
theorem dX9_setChimney_66 : decode cX9_setChimney 66 = .ok (.invokevirtual 53, 3) := by decide +kernel
theorem dX9_setChimney_69 : decode cX9_setChimney 69 = .ok (.aload_n 0, 1) := by decide +kernel
theorem dX9_setChimney_70 : decode cX9_setChimney 70 = .ok (.getfield 7, 3) := by decide +kernel
theorem dX9_setChimney_73 : decode cX9_setChimney 73 = .ok (.iconst 0, 1) := by decide +kernel
theorem dX9_setChimney_74 : decode cX9_setChimney 74 = .ok (.iload_n 1, 1) := by decide +kernel
theorem dX9_setChimney_75 : decode cX9_setChimney 75 = .ok (.iadd, 1) := by decide +kernel
theorem dX9_setChimney_76 : decode cX9_setChimney 76 = .ok (.iload_n 2, 1) := by decide +kernel
theorem dX9_setChimney_77 : decode cX9_setChimney 77 = .ok (.iastore, 1) := by decide +kernel
theorem dX9_setChimney_78 : decode cX9_setChimney 78 = .ok (.aload_n 0, 1) := by decide +kernel
theorem dX9_setChimney_79 : decode cX9_setChimney 79 = .ok (.getfield 7, 3) := by decide +kernel
theorem dX9_setChimney_82 : decode cX9_setChimney 82 = .ok (.bipush 8, 2) := by decide +kernel
theorem dX9_setChimney_84 : decode cX9_setChimney 84 = .ok (.iload_n 1, 1) := by decide +kernel
theorem dX9_setChimney_85 : decode cX9_setChimney 85 = .ok (.iadd, 1) := by decide +kernel
theorem dX9_setChimney_86 : decode cX9_setChimney 86 = .ok (.iload_n 3, 1) := by decide +kernel
theorem dX9_setChimney_87 : decode cX9_setChimney 87 = .ok (.iastore, 1) := by decide +kernel
theorem dX9_setChimney_88 : decode cX9_setChimney 88 = .ok (.aload_n 0, 1) := by decide +kernel
theorem dX9_setChimney_89 : decode cX9_setChimney 89 = .ok (.getfield 7, 3) := by decide +kernel
theorem dX9_setChimney_92 : decode cX9_setChimney 92 = .ok (.bipush 16, 2) := by decide +kernel
theorem dX9_setChimney_94 : decode cX9_setChimney 94 = .ok (.iload_n 1, 1) := by decide +kernel
theorem dX9_setChimney_95 : decode cX9_setChimney 95 = .ok (.iadd, 1) := by decide +kernel
theorem dX9_setChimney_96 : decode cX9_setChimney 96 = .ok (.iload 4, 2) := by decide +kernel
theorem dX9_setChimney_98 : decode cX9_setChimney 98 = .ok (.iastore, 1) := by decide +kernel
theorem dX9_setChimney_99 : decode cX9_setChimney 99 = .ok (.aload_n 0, 1) := by decide +kernel
theorem dX9_setChimney_100 : decode cX9_setChimney 100 = .ok (.getfield 7, 3) := by decide +kernel
theorem dX9_setChimney_103 : decode cX9_setChimney 103 = .ok (.bipush 24, 2) := by decide +kernel
theorem dX9_setChimney_105 : decode cX9_setChimney 105 = .ok (.iload_n 1, 1) := by decide +kernel
theorem dX9_setChimney_106 : decode cX9_setChimney 106 = .ok (.iadd, 1) := by decide +kernel
theorem dX9_setChimney_107 : decode cX9_setChimney 107 = .ok (.iload 5, 2) := by decide +kernel
theorem dX9_setChimney_109 : decode cX9_setChimney 109 = .ok (.iastore, 1) := by decide +kernel
theorem dX9_setChimney_110 : decode cX9_setChimney 110 = .ok (.aload_n 0, 1) := by decide +kernel
theorem dX9_setChimney_111 : decode cX9_setChimney 111 = .ok (.iload_n 1, 1) := by decide +kernel
theorem dX9_setChimney_112 : decode cX9_setChimney 112 = .ok (.aload_n 0, 1) := by decide +kernel
theorem dX9_setChimney_113 : decode cX9_setChimney 113 = .ok (.getfield 7, 3) := by decide +kernel
theorem dX9_setChimney_116 : decode cX9_setChimney 116 = .ok (.bipush 74, 2) := by decide +kernel
theorem dX9_setChimney_118 : decode cX9_setChimney 118 = .ok (.iaload, 1) := by decide +kernel
theorem dX9_setChimney_119 : decode cX9_setChimney 119 = .ok (.invokevirtual 56, 3) := by decide +kernel
theorem dX9_setChimney_122 : decode cX9_setChimney 122 = .ok (.ireturn, 1) := by decide +kernel
theorem dX9_setGrey_0 : decode cX9_setGrey 0 = .ok (.aload_n 0, 1) := by decide +kernel
theorem dX9_setGrey_1 : decode cX9_setGrey 1 = .ok (.iconst 0, 1) := by decide +kernel
theorem dX9_setGrey_2 : decode cX9_setGrey 2 = .ok (.putfield 34, 3) := by decide +kernel
theorem dX9_setGrey_5 : decode cX9_setGrey 5 = .ok (.iload_n 1, 1) := by decide +kernel
theorem dX9_setGrey_6 : decode cX9_setGrey 6 = .ok (.invokestatic 93, 3) := by decide +kernel
theorem dX9_setGrey_9 : decode cX9_setGrey 9 = .ok (.ifCond .eq 12, 3) := by decide +kernel
theorem dX9_setGrey_12 : decode cX9_setGrey 12 = .ok (.iload_n 2, 1) := by decide +kernel
theorem dX9_setGrey_13 : decode cX9_setGrey 13 = .ok (.iconst 0, 1) := by decide +kernel
theorem dX9_setGrey_14 : decode cX9_setGrey 14 = .ok (.iconst 4, 1) := by decide +kernel
theorem dX9_setGrey_15 : decode cX9_setGrey 15 = .ok (.invokestatic 38, 3) := by decide +kernel
theorem dX9_setGrey_18 : decode cX9_setGrey 18 = .ok (.ifCond .ne 9, 3) := by decide +kernel
theorem dX9_setGrey_21 : decode cX9_setGrey 21 = .ok (.aload_n 0, 1) := by decide +kernel
theorem dX9_setGrey_22 : decode cX9_setGrey 22 = .ok (.iconst 1, 1) := by decide +kernel
theorem dX9_setGrey_23 : decode cX9_setGrey 23 = .ok (.invokevirtual 45, 3) := by decide +kernel
theorem dX9_setGrey_26 : decode cX9_setGrey 26 = .ok (.ireturn, 1) := by decide +kernel
theorem dX9_setGrey_27 : decode cX9_setGrey 27 = .ok (.aload_n 0, 1) := by decide +kernel
theorem dX9_setGrey_28 : decode cX9_setGrey 28 = .ok (.invokevirtual 53, 3) := by decide +kernel
theorem dX9_setGrey_31 : decode cX9_setGrey 31 = .ok (.aload_n 0, 1) := by decide +kernel
theorem dX9_setGrey_32 : decode cX9_setGrey 32 = .ok (.getfield 7, 3) := by decide +kernel
theorem dX9_setGrey_35 : decode cX9_setGrey 35 = .ok (.bipush 32, 2) := by decide +kernel
theorem dX9_setGrey_37 : decode cX9_setGrey 37 = .ok (.iload_n 1, 1) := by decide +kernel
theorem dX9_setGrey_38 : decode cX9_setGrey 38 = .ok (.iadd, 1) := by decide +kernel
theorem dX9_setGrey_39 : decode cX9_setGrey 39 = .ok (.iaload, 1) := by decide +kernel
theorem dX9_setGrey_40 : decode cX9_setGrey 40 = .ok (.istore_n 3, 1) := by decide +kernel
theorem dX9_setGrey_41 : decode cX9_setGrey 41 = .ok (.aload_n 0, 1) := by decide +kernel
theorem dX9_setGrey_42 : decode cX9_setGrey 42 = .ok (.getfield 7, 3) := by decide +kernel
theorem dX9_setGrey_45 : decode cX9_setGrey 45 = .ok (.bipush 32, 2) := by decide +kernel
theorem dX9_setGrey_47 : decode cX9_setGrey 47 = .ok (.iload_n 1, 1) := by decide +kernel
theorem dX9_setGrey_48 : decode cX9_setGrey 48 = .ok (.iadd, 1) := by decide +kernel
theorem dX9_setGrey_49 : decode cX9_setGrey 49 = .ok (.iload_n 2, 1) := by decide +kernel
theorem dX9_setGrey_50 : decode cX9_setGrey 50 = .ok (.iastore, 1) := by decide +kernel
theorem dX9_setGrey_51 : decode cX9_setGrey 51 = .ok (.iload_n 3, 1) := by decide +kernel
theorem dX9_setGrey_52 : decode cX9_setGrey 52 = .ok (.ireturn, 1) := by decide +kernel
theorem dX9_watch_0 : decode cX9_watch 0 = .ok (.aload_n 0, 1) := by decide +kernel
theorem dX9_watch_1 : decode cX9_watch 1 = .ok (.iconst 0, 1) := by decide +kernel
theorem dX9_watch_2 : decode cX9_watch 2 = .ok (.putfield 34, 3) := by decide +kernel
theorem dX9_watch_5 : decode cX9_watch 5 = .ok (.iload_n 1, 1) := by decide +kernel
theorem dX9_watch_6 : decode cX9_watch 6 = .ok (.invokestatic 96, 3) := by decide +kernel
theorem dX9_watch_9 : decode cX9_watch 9 = .ok (.ifCond .ne 9, 3) := by decide +kernel
theorem dX9_watch_12 : decode cX9_watch 12 = .ok (.aload_n 0, 1) := by decide +kernel
theorem dX9_watch_13 : decode cX9_watch 13 = .ok (.iconst 1, 1) := by decide +kernel
theorem dX9_watch_14 : decode cX9_watch 14 = .ok (.invokevirtual 45, 3) := by decide +kernel
theorem dX9_watch_17 : decode cX9_watch 17 = .ok (.ireturn, 1) := by decide +kernel
theorem dX9_watch_18 : decode cX9_watch 18 = .ok (.iload_n 2, 1) := by decide +kernel
theorem dX9_watch_19 : decode cX9_watch 19 = .ok (.iconst (-1), 1) := by decide +kernel
theorem dX9_watch_20 : decode cX9_watch 20 = .ok (.if_icmp .eq 16, 3) := by decide +kernel
theorem dX9_watch_23 : decode cX9_watch 23 = .ok (.iload_n 2, 1) := by decide +kernel
theorem dX9_watch_24 : decode cX9_watch 24 = .ok (.invokestatic 89, 3) := by decide +kernel
theorem dX9_watch_27 : decode cX9_watch 27 = .ok (.ifCond .ne 9, 3) := by decide +kernel
theorem dX9_watch_30 : decode cX9_watch 30 = .ok (.aload_n 0, 1) := by decide +kernel
theorem dX9_watch_31 : decode cX9_watch 31 = .ok (.iconst 2, 1) := by decide +kernel
theorem dX9_watch_32 : decode cX9_watch 32 = .ok (.invokevirtual 45, 3) := by decide +kernel
theorem dX9_watch_35 : decode cX9_watch 35 = .ok (.ireturn, 1) := by decide +kernel
theorem dX9_watch_36 : decode cX9_watch 36 = .ok (.aload_n 0, 1) := by decide +kernel
theorem dX9_watch_37 : decode cX9_watch 37 = .ok (.invokevirtual 53, 3) := by decide +kernel
theorem dX9_watch_40 : decode cX9_watch 40 = .ok (.aload_n 0, 1) := by decide +kernel
theorem dX9_watch_41 : decode cX9_watch 41 = .ok (.getfield 7, 3) := by decide +kernel
theorem dX9_watch_44 : decode cX9_watch 44 = .ok (.bipush 62, 2) := by decide +kernel
theorem dX9_watch_46 : decode cX9_watch 46 = .ok (.iload_n 1, 1) := by decide +kernel
theorem dX9_watch_47 : decode cX9_watch 47 = .ok (.iadd, 1) := by decide +kernel
theorem dX9_watch_48 : decode cX9_watch 48 = .ok (.iaload, 1) := by decide +kernel
theorem dX9_watch_49 : decode cX9_watch 49 = .ok (.istore_n 3, 1) := by decide +kernel
theorem dX9_watch_50 : decode cX9_watch 50 = .ok (.aload_n 0, 1) := by decide +kernel
theorem dX9_watch_51 : decode cX9_watch 51 = .ok (.getfield 7, 3) := by decide +kernel
theorem dX9_watch_54 : decode cX9_watch 54 = .ok (.bipush 62, 2) := by decide +kernel
theorem dX9_watch_56 : decode cX9_watch 56 = .ok (.iload_n 1, 1) := by decide +kernel
theorem dX9_watch_57 : decode cX9_watch 57 = .ok (.iadd, 1) := by decide +kernel
theorem dX9_watch_58 : decode cX9_watch 58 = .ok (.iload_n 2, 1) := by decide +kernel
theorem dX9_watch_59 : decode cX9_watch 59 = .ok (.iastore, 1) := by decide +kernel
theorem dX9_watch_60 : decode cX9_watch 60 = .ok (.iload_n 3, 1) := by decide +kernel
theorem dX9_watch_61 : decode cX9_watch 61 = .ok (.ireturn, 1) := by decide +kernel
theorem dX9_setBias_0 : decode cX9_setBias 0 = .ok (.aload_n 0, 1) := by decide +kernel
theorem dX9_setBias_1 : decode cX9_setBias 1 = .ok (.iconst 0, 1) := by decide +kernel
theorem dX9_setBias_2 : decode cX9_setBias 2 = .ok (.putfield 34, 3) := by decide +kernel
theorem dX9_setBias_5 : decode cX9_setBias 5 = .ok (.iload_n 1, 1) := by decide +kernel
theorem dX9_setBias_6 : decode cX9_setBias 6 = .ok (.invokestatic 96, 3) := by decide +kernel
theorem dX9_setBias_9 : decode cX9_setBias 9 = .ok (.ifCond .ne 9, 3) := by decide +kernel
theorem dX9_setBias_12 : decode cX9_setBias 12 = .ok (.aload_n 0, 1) := by decide +kernel
theorem dX9_setBias_13 : decode cX9_setBias 13 = .ok (.iconst 1, 1) := by decide +kernel
theorem dX9_setBias_14 : decode cX9_setBias 14 = .ok (.invokevirtual 45, 3) := by decide +kernel
theorem dX9_setBias_17 : decode cX9_setBias 17 = .ok (.ireturn, 1) := by decide +kernel
theorem dX9_setBias_18 : decode cX9_setBias 18 = .ok (.iload_n 2, 1) := by decide +kernel
theorem dX9_setBias_19 : decode cX9_setBias 19 = .ok (.iconst (-1), 1) := by decide +kernel
theorem dX9_setBias_20 : decode cX9_setBias 20 = .ok (.iconst 1, 1) := by decide +kernel
theorem dX9_setBias_21 : decode cX9_setBias 21 = .ok (.invokestatic 38, 3) := by decide +kernel
theorem dX9_setBias_24 : decode cX9_setBias 24 = .ok (.ifCond .ne 9, 3) := by decide +kernel
theorem dX9_setBias_27 : decode cX9_setBias 27 = .ok (.aload_n 0, 1) := by decide +kernel
theorem dX9_setBias_28 : decode cX9_setBias 28 = .ok (.iconst 2, 1) := by decide +kernel
theorem dX9_setBias_29 : decode cX9_setBias 29 = .ok (.invokevirtual 45, 3) := by decide +kernel
theorem dX9_setBias_32 : decode cX9_setBias 32 = .ok (.ireturn, 1) := by decide +kernel
theorem dX9_setBias_33 : decode cX9_setBias 33 = .ok (.aload_n 0, 1) := by decide +kernel
theorem dX9_setBias_34 : decode cX9_setBias 34 = .ok (.invokevirtual 53, 3) := by decide +kernel
theorem dX9_setBias_37 : decode cX9_setBias 37 = .ok (.aload_n 0, 1) := by decide +kernel
theorem dX9_setBias_38 : decode cX9_setBias 38 = .ok (.getfield 7, 3) := by decide +kernel
theorem dX9_setBias_41 : decode cX9_setBias 41 = .ok (.bipush 56, 2) := by decide +kernel
theorem dX9_setBias_43 : decode cX9_setBias 43 = .ok (.iload_n 1, 1) := by decide +kernel
theorem dX9_setBias_44 : decode cX9_setBias 44 = .ok (.iadd, 1) := by decide +kernel
theorem dX9_setBias_45 : decode cX9_setBias 45 = .ok (.iaload, 1) := by decide +kernel
theorem dX9_setBias_46 : decode cX9_setBias 46 = .ok (.istore_n 3, 1) := by decide +kernel
theorem dX9_setBias_47 : decode cX9_setBias 47 = .ok (.aload_n 0, 1) := by decide +kernel
theorem dX9_setBias_48 : decode cX9_setBias 48 = .ok (.getfield 7, 3) := by decide +kernel
theorem dX9_setBias_51 : decode cX9_setBias 51 = .ok (.bipush 56, 2) := by decide +kernel
theorem dX9_setBias_53 : decode cX9_setBias 53 = .ok (.iload_n 1, 1) := by decide +kernel
theorem dX9_setBias_54 : decode cX9_setBias 54 = .ok (.iadd, 1) := by decide +kernel
theorem dX9_setBias_55 : decode cX9_setBias 55 = .ok (.iload_n 2, 1) := by decide +kernel
theorem dX9_setBias_56 : decode cX9_setBias 56 = .ok (.iastore, 1) := by decide +kernel
theorem dX9_setBias_57 : decode cX9_setBias 57 = .ok (.iload_n 3, 1) := by decide +kernel
theorem dX9_setBias_58 : decode cX9_setBias 58 = .ok (.iconst 1, 1) := by decide +kernel
theorem dX9_setBias_59 : decode cX9_setBias 59 = .ok (.iadd, 1) := by decide +kernel
theorem dX9_setBias_60 : decode cX9_setBias 60 = .ok (.ireturn, 1) := by decide +kernel
theorem dX9_setLimit_0 : decode cX9_setLimit 0 = .ok (.aload_n 0, 1) := by decide +kernel
theorem dX9_setLimit_1 : decode cX9_setLimit 1 = .ok (.iconst 0, 1) := by decide +kernel
theorem dX9_setLimit_2 : decode cX9_setLimit 2 = .ok (.putfield 34, 3) := by decide +kernel
theorem dX9_setLimit_5 : decode cX9_setLimit 5 = .ok (.iload_n 1, 1) := by decide +kernel
theorem dX9_setLimit_6 : decode cX9_setLimit 6 = .ok (.iconst 1, 1) := by decide +kernel
theorem dX9_setLimit_7 : decode cX9_setLimit 7 = .ok (.iconst 5, 1) := by decide +kernel
theorem dX9_setLimit_8 : decode cX9_setLimit 8 = .ok (.invokestatic 38, 3) := by decide +kernel
theorem dX9_setLimit_11 : decode cX9_setLimit 11 = .ok (.ifCond .eq 13, 3) := by decide +kernel
theorem dX9_setLimit_14 : decode cX9_setLimit 14 = .ok (.iload_n 2, 1) := by decide +kernel
theorem dX9_setLimit_15 : decode cX9_setLimit 15 = .ok (.iconst 1, 1) := by decide +kernel
theorem dX9_setLimit_16 : decode cX9_setLimit 16 = .ok (.bipush 8, 2) := by decide +kernel
theorem dX9_setLimit_18 : decode cX9_setLimit 18 = .ok (.invokestatic 38, 3) := by decide +kernel
theorem dX9_setLimit_21 : decode cX9_setLimit 21 = .ok (.ifCond .ne 9, 3) := by decide +kernel
theorem dX9_setLimit_24 : decode cX9_setLimit 24 = .ok (.aload_n 0, 1) := by decide +kernel
theorem dX9_setLimit_25 : decode cX9_setLimit 25 = .ok (.iconst 1, 1) := by decide +kernel
theorem dX9_setLimit_26 : decode cX9_setLimit 26 = .ok (.invokevirtual 45, 3) := by decide +kernel
theorem dX9_setLimit_29 : decode cX9_setLimit 29 = .ok (.ireturn, 1) := by decide +kernel
theorem dX9_setLimit_30 : decode cX9_setLimit 30 = .ok (.aload_n 0, 1) := by decide +kernel
theorem dX9_setLimit_31 : decode cX9_setLimit 31 = .ok (.invokevirtual 53, 3) := by decide +kernel
theorem dX9_setLimit_34 : decode cX9_setLimit 34 = .ok (.aload_n 0, 1) := by decide +kernel
theorem dX9_setLimit_35 : decode cX9_setLimit 35 = .ok (.getfield 7, 3) := by decide +kernel
theorem dX9_setLimit_38 : decode cX9_setLimit 38 = .ok (.bipush 71, 2) := by decide +kernel
theorem dX9_setLimit_40 : decode cX9_setLimit 40 = .ok (.iaload, 1) := by decide +kernel
theorem dX9_setLimit_41 : decode cX9_setLimit 41 = .ok (.istore_n 3, 1) := by decide +kernel
theorem dX9_setLimit_42 : decode cX9_setLimit 42 = .ok (.aload_n 0, 1) := by decide +kernel
theorem dX9_setLimit_43 : decode cX9_setLimit 43 = .ok (.getfield 7, 3) := by decide +kernel
theorem dX9_setLimit_46 : decode cX9_setLimit 46 = .ok (.bipush 71, 2) := by decide +kernel
theorem dX9_setLimit_48 : decode cX9_setLimit 48 = .ok (.iload_n 1, 1) := by decide +kernel
theorem dX9_setLimit_49 : decode cX9_setLimit 49 = .ok (.iastore, 1) := by decide +kernel
theorem dX9_setLimit_50 : decode cX9_setLimit 50 = .ok (.aload_n 0, 1) := by decide +kernel
theorem dX9_setLimit_51 : decode cX9_setLimit 51 = .ok (.getfield 7, 3) := by decide +kernel
theorem dX9_setLimit_54 : decode cX9_setLimit 54 = .ok (.bipush 72, 2) := by decide +kernel
theorem dX9_setLimit_56 : decode cX9_setLimit 56 = .ok (.iload_n 2, 1) := by decide +kernel
theorem dX9_setLimit_57 : decode cX9_setLimit 57 = .ok (.iastore, 1) := by decide +kernel
theorem dX9_setLimit_58 : decode cX9_setLimit 58 = .ok (.iload_n 3, 1) := by decide +kernel
theorem dX9_setLimit_59 : decode cX9_setLimit 59 = .ok (.ireturn, 1) := by decide +kernel
theorem dX9_pass_0 : decode cX9_pass 0 = .ok (.aload_n 0, 1) := by decide +kernel
theorem dX9_pass_1 : decode cX9_pass 1 = .ok (.iconst 0, 1) := by decide +kernel
theorem dX9_pass_2 : decode cX9_pass 2 = .ok (.putfield 34, 3) := by decide +kernel
theorem dX9_pass_5 : decode cX9_pass 5 = .ok (.iload_n 1, 1) := by decide +kernel
theorem dX9_pass_6 : decode cX9_pass 6 = .ok (.invokestatic 99, 3) := by decide +kernel
theorem dX9_pass_9 : decode cX9_pass 9 = .ok (.ifCond .ne 9, 3) := by decide +kernel
theorem dX9_pass_12 : decode cX9_pass 12 = .ok (.aload_n 0, 1) := by decide +kernel
theorem dX9_pass_13 : decode cX9_pass 13 = .ok (.iconst 1, 1) := by decide +kernel
theorem dX9_pass_14 : decode cX9_pass 14 = .ok (.invokevirtual 45, 3) := by decide +kernel
theorem dX9_pass_17 : decode cX9_pass 17 = .ok (.ireturn, 1) := by decide +kernel
theorem dX9_pass_18 : decode cX9_pass 18 = .ok (.aload_n 0, 1) := by decide +kernel
theorem dX9_pass_19 : decode cX9_pass 19 = .ok (.invokevirtual 53, 3) := by decide +kernel
theorem dX9_pass_22 : decode cX9_pass 22 = .ok (.aload_n 0, 1) := by decide +kernel
theorem dX9_pass_23 : decode cX9_pass 23 = .ok (.iload_n 1, 1) := by decide +kernel
theorem dX9_pass_24 : decode cX9_pass 24 = .ok (.invokevirtual 102, 3) := by decide +kernel
theorem dX9_pass_27 : decode cX9_pass 27 = .ok (.ireturn, 1) := by decide +kernel
theorem dX9_doAppeal_0 : decode cX9_doAppeal 0 = .ok (.aload_n 0, 1) := by decide +kernel
theorem dX9_doAppeal_1 : decode cX9_doAppeal 1 = .ok (.getfield 7, 3) := by decide +kernel
theorem dX9_doAppeal_4 : decode cX9_doAppeal 4 = .ok (.sipush 152, 3) := by decide +kernel
theorem dX9_doAppeal_7 : decode cX9_doAppeal 7 = .ok (.iload_n 1, 1) := by decide +kernel
theorem dX9_doAppeal_8 : decode cX9_doAppeal 8 = .ok (.iadd, 1) := by decide +kernel
theorem dX9_doAppeal_9 : decode cX9_doAppeal 9 = .ok (.iaload, 1) := by decide +kernel
theorem dX9_doAppeal_10 : decode cX9_doAppeal 10 = .ok (.iconst 2, 1) := by decide +kernel
theorem dX9_doAppeal_11 : decode cX9_doAppeal 11 = .ok (.if_icmp .ge 7, 3) := by decide +kernel
theorem dX9_doAppeal_14 : decode cX9_doAppeal 14 = .ok (.iconst 1, 1) := by decide +kernel
theorem dX9_doAppeal_15 : decode cX9_doAppeal 15 = .ok (.goto 4, 3) := by decide +kernel
theorem dX9_doAppeal_18 : decode cX9_doAppeal 18 = .ok (.iconst 0, 1) := by decide +kernel
theorem dX9_doAppeal_19 : decode cX9_doAppeal 19 = .ok (.istore_n 2, 1) := by decide +kernel
theorem dX9_doAppeal_20 : decode cX9_doAppeal 20 = .ok (.aload_n 0, 1) := by decide +kernel
theorem dX9_doAppeal_21 : decode cX9_doAppeal 21 = .ok (.getfield 7, 3) := by decide +kernel
theorem dX9_doAppeal_24 : decode cX9_doAppeal 24 = .ok (.sipush 132, 3) := by decide +kernel
theorem dX9_doAppeal_27 : decode cX9_doAppeal 27 = .ok (.iload_n 1, 1) := by decide +kernel
theorem dX9_doAppeal_28 : decode cX9_doAppeal 28 = .ok (.iadd, 1) := by decide +kernel
theorem dX9_doAppeal_29 : decode cX9_doAppeal 29 = .ok (.iload_n 2, 1) := by decide +kernel
theorem dX9_doAppeal_30 : decode cX9_doAppeal 30 = .ok (.ifCond .eq 7, 3) := by decide +kernel
theorem dX9_doAppeal_33 : decode cX9_doAppeal 33 = .ok (.iconst 2, 1) := by decide +kernel
theorem dX9_doAppeal_34 : decode cX9_doAppeal 34 = .ok (.goto 4, 3) := by decide +kernel
theorem dX9_doAppeal_37 : decode cX9_doAppeal 37 = .ok (.iconst 1, 1) := by decide +kernel
theorem dX9_doAppeal_38 : decode cX9_doAppeal 38 = .ok (.iastore, 1) := by decide +kernel
theorem dX9_doAppeal_39 : decode cX9_doAppeal 39 = .ok (.aload_n 0, 1) := by decide +kernel
theorem dX9_doAppeal_40 : decode cX9_doAppeal 40 = .ok (.getfield 7, 3) := by decide +kernel
theorem dX9_doAppeal_43 : decode cX9_doAppeal 43 = .ok (.bipush 84, 2) := by decide +kernel
theorem dX9_doAppeal_45 : decode cX9_doAppeal 45 = .ok (.aload_n 0, 1) := by decide +kernel
theorem dX9_doAppeal_46 : decode cX9_doAppeal 46 = .ok (.getfield 7, 3) := by decide +kernel
theorem dX9_doAppeal_49 : decode cX9_doAppeal 49 = .ok (.bipush 92, 2) := by decide +kernel
theorem dX9_doAppeal_51 : decode cX9_doAppeal 51 = .ok (.iload_n 1, 1) := by decide +kernel
theorem dX9_doAppeal_52 : decode cX9_doAppeal 52 = .ok (.iadd, 1) := by decide +kernel
theorem dX9_doAppeal_53 : decode cX9_doAppeal 53 = .ok (.iaload, 1) := by decide +kernel
theorem dX9_doAppeal_54 : decode cX9_doAppeal 54 = .ok (.iadd, 1) := by decide +kernel
theorem dX9_doAppeal_55 : decode cX9_doAppeal 55 = .ok (.dup2, 1) := by decide +kernel
theorem dX9_doAppeal_56 : decode cX9_doAppeal 56 = .ok (.iaload, 1) := by decide +kernel
theorem dX9_doAppeal_57 : decode cX9_doAppeal 57 = .ok (.iload_n 2, 1) := by decide +kernel
theorem dX9_doAppeal_58 : decode cX9_doAppeal 58 = .ok (.ifCond .eq 15, 3) := by decide +kernel
theorem dX9_doAppeal_61 : decode cX9_doAppeal 61 = .ok (.aload_n 0, 1) := by decide +kernel
theorem dX9_doAppeal_62 : decode cX9_doAppeal 62 = .ok (.getfield 7, 3) := by decide +kernel
theorem dX9_doAppeal_65 : decode cX9_doAppeal 65 = .ok (.bipush 112, 2) := by decide +kernel
theorem dX9_doAppeal_67 : decode cX9_doAppeal 67 = .ok (.iload_n 1, 1) := by decide +kernel
theorem dX9_doAppeal_68 : decode cX9_doAppeal 68 = .ok (.iadd, 1) := by decide +kernel
theorem dX9_doAppeal_69 : decode cX9_doAppeal 69 = .ok (.iaload, 1) := by decide +kernel
theorem dX9_doAppeal_70 : decode cX9_doAppeal 70 = .ok (.goto 4, 3) := by decide +kernel
theorem dX9_doAppeal_73 : decode cX9_doAppeal 73 = .ok (.iconst 0, 1) := by decide +kernel
theorem dX9_doAppeal_74 : decode cX9_doAppeal 74 = .ok (.iadd, 1) := by decide +kernel
theorem dX9_doAppeal_75 : decode cX9_doAppeal 75 = .ok (.iastore, 1) := by decide +kernel
theorem dX9_doAppeal_76 : decode cX9_doAppeal 76 = .ok (.iload_n 2, 1) := by decide +kernel
theorem dX9_doAppeal_77 : decode cX9_doAppeal 77 = .ok (.ireturn, 1) := by decide +kernel
theorem dX9_appeal_0 : decode cX9_appeal 0 = .ok (.aload_n 0, 1) := by decide +kernel
theorem dX9_appeal_1 : decode cX9_appeal 1 = .ok (.aload_n 0, 1) := by decide +kernel
theorem dX9_appeal_2 : decode cX9_appeal 2 = .ok (.iload_n 1, 1) := by decide +kernel
theorem dX9_appeal_3 : decode cX9_appeal 3 = .ok (.invokevirtual 105, 3) := by decide +kernel
theorem dX9_appeal_6 : decode cX9_appeal 6 = .ok (.ifCond .ne 7, 3) := by decide +kernel
theorem dX9_appeal_9 : decode cX9_appeal 9 = .ok (.iconst 1, 1) := by decide +kernel
theorem dX9_appeal_10 : decode cX9_appeal 10 = .ok (.goto 21, 3) := by decide +kernel
theorem dX9_appeal_13 : decode cX9_appeal 13 = .ok (.aload_n 0, 1) := by decide +kernel
theorem dX9_appeal_14 : decode cX9_appeal 14 = .ok (.getfield 7, 3) := by decide +kernel
theorem dX9_appeal_17 : decode cX9_appeal 17 = .ok (.sipush 132, 3) := by decide +kernel
theorem dX9_appeal_20 : decode cX9_appeal 20 = .ok (.iload_n 1, 1) := by decide +kernel
theorem dX9_appeal_21 : decode cX9_appeal 21 = .ok (.iadd, 1) := by decide +kernel
theorem dX9_appeal_22 : decode cX9_appeal 22 = .ok (.iaload, 1) := by decide +kernel
theorem dX9_appeal_23 : decode cX9_appeal 23 = .ok (.ifCond .le 7, 3) := by decide +kernel
theorem dX9_appeal_26 : decode cX9_appeal 26 = .ok (.iconst 2, 1) := by decide +kernel
theorem dX9_appeal_27 : decode cX9_appeal 27 = .ok (.goto 4, 3) := by decide +kernel
theorem dX9_appeal_30 : decode cX9_appeal 30 = .ok (.iconst 0, 1) := by decide +kernel
theorem dX9_appeal_31 : decode cX9_appeal 31 = .ok (.putfield 34, 3) := by decide +kernel
theorem dX9_appeal_34 : decode cX9_appeal 34 = .ok (.aload_n 0, 1) := by decide +kernel
theorem dX9_appeal_35 : decode cX9_appeal 35 = .ok (.getfield 34, 3) := by decide +kernel
theorem dX9_appeal_38 : decode cX9_appeal 38 = .ok (.ifCond .le 5, 3) := by decide +kernel
theorem dX9_appeal_41 : decode cX9_appeal 41 = .ok (.iconst 0, 1) := by decide +kernel
theorem dX9_appeal_42 : decode cX9_appeal 42 = .ok (.ireturn, 1) := by decide +kernel
theorem dX9_appeal_43 : decode cX9_appeal 43 = .ok (.aload_n 0, 1) := by decide +kernel
theorem dX9_appeal_44 : decode cX9_appeal 44 = .ok (.invokevirtual 53, 3) := by decide +kernel
theorem dX9_appeal_47 : decode cX9_appeal 47 = .ok (.aload_n 0, 1) := by decide +kernel
theorem dX9_appeal_48 : decode cX9_appeal 48 = .ok (.iload_n 1, 1) := by decide +kernel
theorem dX9_appeal_49 : decode cX9_appeal 49 = .ok (.invokevirtual 108, 3) := by decide +kernel
theorem dX9_appeal_52 : decode cX9_appeal 52 = .ok (.ireturn, 1) := by decide +kernel
theorem dX9_shadeOf_0 : decode cX9_shadeOf 0 = .ok (.aload_n 0, 1) := by decide +kernel
theorem dX9_shadeOf_1 : decode cX9_shadeOf 1 = .ok (.iconst 0, 1) := by decide +kernel
theorem dX9_shadeOf_2 : decode cX9_shadeOf 2 = .ok (.putfield 34, 3) := by decide +kernel
theorem dX9_shadeOf_5 : decode cX9_shadeOf 5 = .ok (.iload_n 1, 1) := by decide +kernel
theorem dX9_shadeOf_6 : decode cX9_shadeOf 6 = .ok (.invokestatic 89, 3) := by decide +kernel
theorem dX9_shadeOf_9 : decode cX9_shadeOf 9 = .ok (.ifCond .ne 9, 3) := by decide +kernel
theorem dX9_shadeOf_12 : decode cX9_shadeOf 12 = .ok (.aload_n 0, 1) := by decide +kernel
theorem dX9_shadeOf_13 : decode cX9_shadeOf 13 = .ok (.iconst 1, 1) := by decide +kernel
theorem dX9_shadeOf_14 : decode cX9_shadeOf 14 = .ok (.invokevirtual 45, 3) := by decide +kernel
theorem dX9_shadeOf_17 : decode cX9_shadeOf 17 = .ok (.ireturn, 1) := by decide +kernel
theorem dX9_shadeOf_18 : decode cX9_shadeOf 18 = .ok (.iload_n 2, 1) := by decide +kernel
theorem dX9_shadeOf_19 : decode cX9_shadeOf 19 = .ok (.invokestatic 111, 3) := by decide +kernel
theorem dX9_shadeOf_22 : decode cX9_shadeOf 22 = .ok (.ifCond .eq 12, 3) := by decide +kernel
theorem dX9_shadeOf_25 : decode cX9_shadeOf 25 = .ok (.aload_n 0, 1) := by decide +kernel
theorem dX9_shadeOf_26 : decode cX9_shadeOf 26 = .ok (.iload_n 1, 1) := by decide +kernel
theorem dX9_shadeOf_27 : decode cX9_shadeOf 27 = .ok (.iload_n 2, 1) := by decide +kernel
theorem dX9_shadeOf_28 : decode cX9_shadeOf 28 = .ok (.invokevirtual 56, 3) := by decide +kernel
theorem dX9_shadeOf_31 : decode cX9_shadeOf 31 = .ok (.goto 8, 3) := by decide +kernel
theorem dX9_shadeOf_34 : decode cX9_shadeOf 34 = .ok (.aload_n 0, 1) := by decide +kernel
theorem dX9_shadeOf_35 : decode cX9_shadeOf 35 = .ok (.iconst 2, 1) := by decide +kernel
theorem dX9_shadeOf_36 : decode cX9_shadeOf 36 = .ok (.invokevirtual 45, 3) := by decide +kernel
theorem dX9_shadeOf_39 : decode cX9_shadeOf 39 = .ok (.ireturn, 1) := by decide +kernel
theorem dX9_nextStoking_0 : decode cX9_nextStoking 0 = .ok (.aload_n 0, 1) := by decide +kernel
theorem dX9_nextStoking_1 : decode cX9_nextStoking 1 = .ok (.iconst 0, 1) := by decide +kernel
theorem dX9_nextStoking_2 : decode cX9_nextStoking 2 = .ok (.putfield 34, 3) := by decide +kernel
theorem dX9_nextStoking_5 : decode cX9_nextStoking 5 = .ok (.iload_n 1, 1) := by decide +kernel
theorem dX9_nextStoking_6 : decode cX9_nextStoking 6 = .ok (.invokestatic 89, 3) := by decide +kernel
theorem dX9_nextStoking_9 : decode cX9_nextStoking 9 = .ok (.ifCond .ne 9, 3) := by decide +kernel
theorem dX9_nextStoking_12 : decode cX9_nextStoking 12 = .ok (.aload_n 0, 1) := by decide +kernel
theorem dX9_nextStoking_13 : decode cX9_nextStoking 13 = .ok (.iconst 1, 1) := by decide +kernel
theorem dX9_nextStoking_14 : decode cX9_nextStoking 14 = .ok (.invokevirtual 45, 3) := by decide +kernel
theorem dX9_nextStoking_17 : decode cX9_nextStoking 17 = .ok (.ireturn, 1) := by decide +kernel
theorem dX9_nextStoking_18 : decode cX9_nextStoking 18 = .ok (.iload_n 2, 1) := by decide +kernel
theorem dX9_nextStoking_19 : decode cX9_nextStoking 19 = .ok (.invokestatic 111, 3) := by decide +kernel
theorem dX9_nextStoking_22 : decode cX9_nextStoking 22 = .ok (.ifCond .ne 9, 3) := by decide +kernel
theorem dX9_nextStoking_25 : decode cX9_nextStoking 25 = .ok (.aload_n 0, 1) := by decide +kernel
theorem dX9_nextStoking_26 : decode cX9_nextStoking 26 = .ok (.iconst 2, 1) := by decide +kernel
theorem dX9_nextStoking_27 : decode cX9_nextStoking 27 = .ok (.invokevirtual 45, 3) := by decide +kernel
theorem dX9_nextStoking_30 : decode cX9_nextStoking 30 = .ok (.ireturn, 1) := by decide +kernel
theorem dX9_nextStoking_31 : decode cX9_nextStoking 31 = .ok (.aload_n 0, 1) := by decide +kernel
theorem dX9_nextStoking_32 : decode cX9_nextStoking 32 = .ok (.getfield 7, 3) := by decide +kernel
theorem dX9_nextStoking_35 : decode cX9_nextStoking 35 = .ok (.bipush 24, 2) := by decide +kernel
theorem dX9_nextStoking_37 : decode cX9_nextStoking 37 = .ok (.iload_n 1, 1) := by decide +kernel
theorem dX9_nextStoking_38 : decode cX9_nextStoking 38 = .ok (.iadd, 1) := by decide +kernel
theorem dX9_nextStoking_39 : decode cX9_nextStoking 39 = .ok (.iaload, 1) := by decide +kernel
theorem dX9_nextStoking_40 : decode cX9_nextStoking 40 = .ok (.istore_n 3, 1) := by decide +kernel
theorem dX9_nextStoking_41 : decode cX9_nextStoking 41 = .ok (.iload_n 3, 1) := by decide +kernel
theorem dX9_nextStoking_42 : decode cX9_nextStoking 42 = .ok (.iload_n 2, 1) := by decide +kernel
theorem dX9_nextStoking_43 : decode cX9_nextStoking 43 = .ok (.if_icmp .ge 18, 3) := by decide +kernel
theorem dX9_nextStoking_46 : decode cX9_nextStoking 46 = .ok (.iload_n 3, 1) := by decide +kernel
theorem dX9_nextStoking_47 : decode cX9_nextStoking 47 = .ok (.aload_n 0, 1) := by decide +kernel
theorem dX9_nextStoking_48 : decode cX9_nextStoking 48 = .ok (.getfield 7, 3) := by decide +kernel
theorem dX9_nextStoking_51 : decode cX9_nextStoking 51 = .ok (.bipush 16, 2) := by decide +kernel
theorem dX9_nextStoking_53 : decode cX9_nextStoking 53 = .ok (.iload_n 1, 1) := by decide +kernel
theorem dX9_nextStoking_54 : decode cX9_nextStoking 54 = .ok (.iadd, 1) := by decide +kernel
theorem dX9_nextStoking_55 : decode cX9_nextStoking 55 = .ok (.iaload, 1) := by decide +kernel
theorem dX9_nextStoking_56 : decode cX9_nextStoking 56 = .ok (.iadd, 1) := by decide +kernel
theorem dX9_nextStoking_57 : decode cX9_nextStoking 57 = .ok (.istore_n 3, 1) := by decide +kernel
theorem dX9_nextStoking_58 : decode cX9_nextStoking 58 = .ok (.goto (-17), 3) := by decide +kernel
theorem dX9_nextStoking_61 : decode cX9_nextStoking 61 = .ok (.iload_n 3, 1) := by decide +kernel
theorem dX9_nextStoking_62 : decode cX9_nextStoking 62 = .ok (.bipush 96, 2) := by decide +kernel
theorem dX9_nextStoking_64 : decode cX9_nextStoking 64 = .ok (.if_icmp .ge 7, 3) := by decide +kernel
theorem dX9_nextStoking_67 : decode cX9_nextStoking 67 = .ok (.iload_n 3, 1) := by decide +kernel
theorem dX9_nextStoking_68 : decode cX9_nextStoking 68 = .ok (.goto 4, 3) := by decide +kernel
theorem dX9_nextStoking_71 : decode cX9_nextStoking 71 = .ok (.iconst (-1), 1) := by decide +kernel
theorem dX9_nextStoking_72 : decode cX9_nextStoking 72 = .ok (.ireturn, 1) := by decide +kernel
theorem dX9_smokes_0 : decode cX9_smokes 0 = .ok (.iconst 0, 1) := by decide +kernel
theorem dX9_smokes_1 : decode cX9_smokes 1 = .ok (.istore 4, 2) := by decide +kernel
theorem dX9_smokes_3 : decode cX9_smokes 3 = .ok (.iload_n 2, 1) := by decide +kernel
theorem dX9_smokes_4 : decode cX9_smokes 4 = .ok (.istore 5, 2) := by decide +kernel
theorem dX9_smokes_6 : decode cX9_smokes 6 = .ok (.iload 5, 2) := by decide +kernel
theorem dX9_smokes_8 : decode cX9_smokes 8 = .ok (.iload_n 3, 1) := by decide +kernel
theorem dX9_smokes_9 : decode cX9_smokes 9 = .ok (.if_icmp .gt 21, 3) := by decide +kernel
theorem dX9_smokes_12 : decode cX9_smokes 12 = .ok (.iload 4, 2) := by decide +kernel
theorem dX9_smokes_14 : decode cX9_smokes 14 = .ok (.aload_n 0, 1) := by decide +kernel
theorem dX9_smokes_15 : decode cX9_smokes 15 = .ok (.iload_n 1, 1) := by decide +kernel
theorem dX9_smokes_16 : decode cX9_smokes 16 = .ok (.iload 5, 2) := by decide +kernel
theorem dX9_smokes_18 : decode cX9_smokes 18 = .ok (.invokevirtual 56, 3) := by decide +kernel
theorem dX9_smokes_21 : decode cX9_smokes 21 = .ok (.iadd, 1) := by decide +kernel
theorem dX9_smokes_22 : decode cX9_smokes 22 = .ok (.istore 4, 2) := by decide +kernel
theorem dX9_smokes_24 : decode cX9_smokes 24 = .ok (.iinc 5 1, 3) := by decide +kernel
theorem dX9_smokes_27 : decode cX9_smokes 27 = .ok (.goto (-21), 3) := by decide +kernel
theorem dX9_smokes_30 : decode cX9_smokes 30 = .ok (.iload 4, 2) := by decide +kernel
theorem dX9_smokes_32 : decode cX9_smokes 32 = .ok (.ireturn, 1) := by decide +kernel
theorem dX9_smoke_0 : decode cX9_smoke 0 = .ok (.aload_n 0, 1) := by decide +kernel
theorem dX9_smoke_1 : decode cX9_smoke 1 = .ok (.iconst 0, 1) := by decide +kernel
theorem dX9_smoke_2 : decode cX9_smoke 2 = .ok (.putfield 34, 3) := by decide +kernel
theorem dX9_smoke_5 : decode cX9_smoke 5 = .ok (.iload_n 1, 1) := by decide +kernel
theorem dX9_smoke_6 : decode cX9_smoke 6 = .ok (.invokestatic 89, 3) := by decide +kernel
theorem dX9_smoke_9 : decode cX9_smoke 9 = .ok (.ifCond .ne 9, 3) := by decide +kernel
theorem dX9_smoke_12 : decode cX9_smoke 12 = .ok (.aload_n 0, 1) := by decide +kernel
theorem dX9_smoke_13 : decode cX9_smoke 13 = .ok (.iconst 1, 1) := by decide +kernel
theorem dX9_smoke_14 : decode cX9_smoke 14 = .ok (.invokevirtual 45, 3) := by decide +kernel
theorem dX9_smoke_17 : decode cX9_smoke 17 = .ok (.ireturn, 1) := by decide +kernel
theorem dX9_smoke_18 : decode cX9_smoke 18 = .ok (.iload_n 2, 1) := by decide +kernel
theorem dX9_smoke_19 : decode cX9_smoke 19 = .ok (.invokestatic 111, 3) := by decide +kernel
theorem dX9_smoke_22 : decode cX9_smoke 22 = .ok (.ifCond .eq 23, 3) := by decide +kernel
theorem dX9_smoke_25 : decode cX9_smoke 25 = .ok (.iload_n 3, 1) := by decide +kernel
theorem dX9_smoke_26 : decode cX9_smoke 26 = .ok (.iload_n 2, 1) := by decide +kernel
theorem dX9_smoke_27 : decode cX9_smoke 27 = .ok (.bipush 95, 2) := by decide +kernel
theorem dX9_smoke_29 : decode cX9_smoke 29 = .ok (.invokestatic 38, 3) := by decide +kernel
theorem dX9_smoke_32 : decode cX9_smoke 32 = .ok (.ifCond .eq 13, 3) := by decide +kernel
theorem dX9_smoke_35 : decode cX9_smoke 35 = .ok (.aload_n 0, 1) := by decide +kernel
theorem dX9_smoke_36 : decode cX9_smoke 36 = .ok (.iload_n 1, 1) := by decide +kernel
theorem dX9_smoke_37 : decode cX9_smoke 37 = .ok (.iload_n 2, 1) := by decide +kernel
theorem dX9_smoke_38 : decode cX9_smoke 38 = .ok (.iload_n 3, 1) := by decide +kernel
theorem dX9_smoke_39 : decode cX9_smoke 39 = .ok (.invokevirtual 114, 3) := by decide +kernel
theorem dX9_smoke_42 : decode cX9_smoke 42 = .ok (.goto 8, 3) := by decide +kernel
theorem dX9_smoke_45 : decode cX9_smoke 45 = .ok (.aload_n 0, 1) := by decide +kernel
theorem dX9_smoke_46 : decode cX9_smoke 46 = .ok (.iconst 2, 1) := by decide +kernel
theorem dX9_smoke_47 : decode cX9_smoke 47 = .ok (.invokevirtual 45, 3) := by decide +kernel
theorem dX9_smoke_50 : decode cX9_smoke 50 = .ok (.ireturn, 1) := by decide +kernel
theorem dX9_greyOf_0 : decode cX9_greyOf 0 = .ok (.aload_n 0, 1) := by decide +kernel
theorem dX9_greyOf_1 : decode cX9_greyOf 1 = .ok (.iconst 0, 1) := by decide +kernel
theorem dX9_greyOf_2 : decode cX9_greyOf 2 = .ok (.putfield 34, 3) := by decide +kernel
theorem dX9_greyOf_5 : decode cX9_greyOf 5 = .ok (.iload_n 1, 1) := by decide +kernel
theorem dX9_greyOf_6 : decode cX9_greyOf 6 = .ok (.invokestatic 93, 3) := by decide +kernel
theorem dX9_greyOf_9 : decode cX9_greyOf 9 = .ok (.ifCond .eq 15, 3) := by decide +kernel
theorem dX9_greyOf_12 : decode cX9_greyOf 12 = .ok (.aload_n 0, 1) := by decide +kernel
theorem dX9_greyOf_13 : decode cX9_greyOf 13 = .ok (.getfield 7, 3) := by decide +kernel
theorem dX9_greyOf_16 : decode cX9_greyOf 16 = .ok (.bipush 32, 2) := by decide +kernel
theorem dX9_greyOf_18 : decode cX9_greyOf 18 = .ok (.iload_n 1, 1) := by decide +kernel
theorem dX9_greyOf_19 : decode cX9_greyOf 19 = .ok (.iadd, 1) := by decide +kernel
theorem dX9_greyOf_20 : decode cX9_greyOf 20 = .ok (.iaload, 1) := by decide +kernel
theorem dX9_greyOf_21 : decode cX9_greyOf 21 = .ok (.goto 8, 3) := by decide +kernel
theorem dX9_greyOf_24 : decode cX9_greyOf 24 = .ok (.aload_n 0, 1) := by decide +kernel
theorem dX9_greyOf_25 : decode cX9_greyOf 25 = .ok (.iconst 1, 1) := by decide +kernel
theorem dX9_greyOf_26 : decode cX9_greyOf 26 = .ok (.invokevirtual 45, 3) := by decide +kernel
theorem dX9_greyOf_29 : decode cX9_greyOf 29 = .ok (.ireturn, 1) := by decide +kernel
theorem dX9_time_0 : decode cX9_time 0 = .ok (.aload_n 0, 1) := by decide +kernel
theorem dX9_time_1 : decode cX9_time 1 = .ok (.iconst 0, 1) := by decide +kernel
theorem dX9_time_2 : decode cX9_time 2 = .ok (.putfield 34, 3) := by decide +kernel
theorem dX9_time_5 : decode cX9_time 5 = .ok (.bipush 96, 2) := by decide +kernel
theorem dX9_time_7 : decode cX9_time 7 = .ok (.aload_n 0, 1) := by decide +kernel
theorem dX9_time_8 : decode cX9_time 8 = .ok (.getfield 7, 3) := by decide +kernel
theorem dX9_time_11 : decode cX9_time 11 = .ok (.bipush 73, 2) := by decide +kernel
theorem dX9_time_13 : decode cX9_time 13 = .ok (.iaload, 1) := by decide +kernel
theorem dX9_time_14 : decode cX9_time 14 = .ok (.imul, 1) := by decide +kernel
theorem dX9_time_15 : decode cX9_time 15 = .ok (.aload_n 0, 1) := by decide +kernel
theorem dX9_time_16 : decode cX9_time 16 = .ok (.getfield 7, 3) := by decide +kernel
theorem dX9_time_19 : decode cX9_time 19 = .ok (.bipush 74, 2) := by decide +kernel
theorem dX9_time_21 : decode cX9_time 21 = .ok (.iaload, 1) := by decide +kernel
theorem dX9_time_22 : decode cX9_time 22 = .ok (.iadd, 1) := by decide +kernel
theorem dX9_time_23 : decode cX9_time 23 = .ok (.ireturn, 1) := by decide +kernel
theorem dX9_tellObserver_0 : decode cX9_tellObserver 0 = .ok (.aload_n 0, 1) := by decide +kernel
theorem dX9_tellObserver_1 : decode cX9_tellObserver 1 = .ok (.iconst 0, 1) := by decide +kernel
theorem dX9_tellObserver_2 : decode cX9_tellObserver 2 = .ok (.putfield 34, 3) := by decide +kernel
theorem dX9_tellObserver_5 : decode cX9_tellObserver 5 = .ok (.iload_n 2, 1) := by decide +kernel
theorem dX9_tellObserver_6 : decode cX9_tellObserver 6 = .ok (.invokestatic 96, 3) := by decide +kernel
theorem dX9_tellObserver_9 : decode cX9_tellObserver 9 = .ok (.ifCond .eq 14, 3) := by decide +kernel
theorem dX9_tellObserver_12 : decode cX9_tellObserver 12 = .ok (.aload_n 0, 1) := by decide +kernel
theorem dX9_tellObserver_13 : decode cX9_tellObserver 13 = .ok (.getfield 7, 3) := by decide +kernel
theorem dX9_tellObserver_16 : decode cX9_tellObserver 16 = .ok (.iload_n 1, 1) := by decide +kernel
theorem dX9_tellObserver_17 : decode cX9_tellObserver 17 = .ok (.iload_n 2, 1) := by decide +kernel
theorem dX9_tellObserver_18 : decode cX9_tellObserver 18 = .ok (.iadd, 1) := by decide +kernel
theorem dX9_tellObserver_19 : decode cX9_tellObserver 19 = .ok (.iaload, 1) := by decide +kernel
theorem dX9_tellObserver_20 : decode cX9_tellObserver 20 = .ok (.goto 8, 3) := by decide +kernel
theorem dX9_tellObserver_23 : decode cX9_tellObserver 23 = .ok (.aload_n 0, 1) := by decide +kernel
theorem dX9_tellObserver_24 : decode cX9_tellObserver 24 = .ok (.iconst 1, 1) := by decide +kernel
theorem dX9_tellObserver_25 : decode cX9_tellObserver 25 = .ok (.invokevirtual 45, 3) := by decide +kernel
theorem dX9_tellObserver_28 : decode cX9_tellObserver 28 = .ok (.ireturn, 1) := by decide +kernel
theorem dX9_watchedBy_0 : decode cX9_watchedBy 0 = .ok (.aload_n 0, 1) := by decide +kernel
theorem dX9_watchedBy_1 : decode cX9_watchedBy 1 = .ok (.bipush 62, 2) := by decide +kernel
theorem dX9_watchedBy_3 : decode cX9_watchedBy 3 = .ok (.iload_n 1, 1) := by decide +kernel
theorem dX9_watchedBy_4 : decode cX9_watchedBy 4 = .ok (.invokevirtual 117, 3) := by decide +kernel
theorem dX9_watchedBy_7 : decode cX9_watchedBy 7 = .ok (.ireturn, 1) := by decide +kernel
theorem dX9_tirednessOf_0 : decode cX9_tirednessOf 0 = .ok (.aload_n 0, 1) := by decide +kernel
theorem dX9_tirednessOf_1 : decode cX9_tirednessOf 1 = .ok (.bipush 59, 2) := by decide +kernel
theorem dX9_tirednessOf_3 : decode cX9_tirednessOf 3 = .ok (.iload_n 1, 1) := by decide +kernel
theorem dX9_tirednessOf_4 : decode cX9_tirednessOf 4 = .ok (.invokevirtual 117, 3) := by decide +kernel
theorem dX9_tirednessOf_7 : decode cX9_tirednessOf 7 = .ok (.ireturn, 1) := by decide +kernel
theorem dX9_errorsOf_0 : decode cX9_errorsOf 0 = .ok (.aload_n 0, 1) := by decide +kernel
theorem dX9_errorsOf_1 : decode cX9_errorsOf 1 = .ok (.bipush 65, 2) := by decide +kernel
theorem dX9_errorsOf_3 : decode cX9_errorsOf 3 = .ok (.iload_n 1, 1) := by decide +kernel
theorem dX9_errorsOf_4 : decode cX9_errorsOf 4 = .ok (.invokevirtual 117, 3) := by decide +kernel
theorem dX9_errorsOf_7 : decode cX9_errorsOf 7 = .ok (.ireturn, 1) := by decide +kernel
theorem dX9_wouldRead_0 : decode cX9_wouldRead 0 = .ok (.aload_n 0, 1) := by decide +kernel
theorem dX9_wouldRead_1 : decode cX9_wouldRead 1 = .ok (.iconst 0, 1) := by decide +kernel
theorem dX9_wouldRead_2 : decode cX9_wouldRead 2 = .ok (.putfield 34, 3) := by decide +kernel
theorem dX9_wouldRead_5 : decode cX9_wouldRead 5 = .ok (.iload_n 1, 1) := by decide +kernel
theorem dX9_wouldRead_6 : decode cX9_wouldRead 6 = .ok (.invokestatic 96, 3) := by decide +kernel
theorem dX9_wouldRead_9 : decode cX9_wouldRead 9 = .ok (.ifCond .eq 19, 3) := by decide +kernel
theorem dX9_wouldRead_12 : decode cX9_wouldRead 12 = .ok (.iload_n 2, 1) := by decide +kernel
theorem dX9_wouldRead_13 : decode cX9_wouldRead 13 = .ok (.invokestatic 89, 3) := by decide +kernel
theorem dX9_wouldRead_16 : decode cX9_wouldRead 16 = .ok (.ifCond .eq 12, 3) := by decide +kernel
theorem dX9_wouldRead_19 : decode cX9_wouldRead 19 = .ok (.aload_n 0, 1) := by decide +kernel
theorem dX9_wouldRead_20 : decode cX9_wouldRead 20 = .ok (.iload_n 1, 1) := by decide +kernel
theorem dX9_wouldRead_21 : decode cX9_wouldRead 21 = .ok (.iload_n 2, 1) := by decide +kernel
theorem dX9_wouldRead_22 : decode cX9_wouldRead 22 = .ok (.invokevirtual 66, 3) := by decide +kernel
theorem dX9_wouldRead_25 : decode cX9_wouldRead 25 = .ok (.goto 8, 3) := by decide +kernel
theorem dX9_wouldRead_28 : decode cX9_wouldRead 28 = .ok (.aload_n 0, 1) := by decide +kernel
theorem dX9_wouldRead_29 : decode cX9_wouldRead 29 = .ok (.iconst 1, 1) := by decide +kernel
theorem dX9_wouldRead_30 : decode cX9_wouldRead 30 = .ok (.invokevirtual 45, 3) := by decide +kernel
theorem dX9_wouldRead_33 : decode cX9_wouldRead 33 = .ok (.ireturn, 1) := by decide +kernel
theorem dX9_readingOf_0 : decode cX9_readingOf 0 = .ok (.aload_n 0, 1) := by decide +kernel
theorem dX9_readingOf_1 : decode cX9_readingOf 1 = .ok (.iconst 0, 1) := by decide +kernel
theorem dX9_readingOf_2 : decode cX9_readingOf 2 = .ok (.putfield 34, 3) := by decide +kernel
theorem dX9_readingOf_5 : decode cX9_readingOf 5 = .ok (.iload_n 1, 1) := by decide +kernel
theorem dX9_readingOf_6 : decode cX9_readingOf 6 = .ok (.invokestatic 89, 3) := by decide +kernel
theorem dX9_readingOf_9 : decode cX9_readingOf 9 = .ok (.ifCond .ne 9, 3) := by decide +kernel
theorem dX9_readingOf_12 : decode cX9_readingOf 12 = .ok (.aload_n 0, 1) := by decide +kernel
theorem dX9_readingOf_13 : decode cX9_readingOf 13 = .ok (.iconst 1, 1) := by decide +kernel
theorem dX9_readingOf_14 : decode cX9_readingOf 14 = .ok (.invokevirtual 45, 3) := by decide +kernel
theorem dX9_readingOf_17 : decode cX9_readingOf 17 = .ok (.ireturn, 1) := by decide +kernel
theorem dX9_readingOf_18 : decode cX9_readingOf 18 = .ok (.iload_n 2, 1) := by decide +kernel
theorem dX9_readingOf_19 : decode cX9_readingOf 19 = .ok (.invokestatic 111, 3) := by decide +kernel
theorem dX9_readingOf_22 : decode cX9_readingOf 22 = .ok (.ifCond .eq 12, 3) := by decide +kernel
theorem dX9_readingOf_25 : decode cX9_readingOf 25 = .ok (.aload_n 0, 1) := by decide +kernel
theorem dX9_readingOf_26 : decode cX9_readingOf 26 = .ok (.iload_n 1, 1) := by decide +kernel
theorem dX9_readingOf_27 : decode cX9_readingOf 27 = .ok (.iload_n 2, 1) := by decide +kernel
theorem dX9_readingOf_28 : decode cX9_readingOf 28 = .ok (.invokevirtual 63, 3) := by decide +kernel
theorem dX9_readingOf_31 : decode cX9_readingOf 31 = .ok (.goto 8, 3) := by decide +kernel
theorem dX9_readingOf_34 : decode cX9_readingOf 34 = .ok (.aload_n 0, 1) := by decide +kernel
theorem dX9_readingOf_35 : decode cX9_readingOf 35 = .ok (.iconst 2, 1) := by decide +kernel
theorem dX9_readingOf_36 : decode cX9_readingOf 36 = .ok (.invokevirtual 45, 3) := by decide +kernel
theorem dX9_readingOf_39 : decode cX9_readingOf 39 = .ok (.ireturn, 1) := by decide +kernel
theorem dX9_readingsFrom_0 : decode cX9_readingsFrom 0 = .ok (.aload_n 0, 1) := by decide +kernel
theorem dX9_readingsFrom_1 : decode cX9_readingsFrom 1 = .ok (.iconst 0, 1) := by decide +kernel
theorem dX9_readingsFrom_2 : decode cX9_readingsFrom 2 = .ok (.putfield 34, 3) := by decide +kernel
theorem dX9_readingsFrom_5 : decode cX9_readingsFrom 5 = .ok (.iload_n 1, 1) := by decide +kernel
theorem dX9_readingsFrom_6 : decode cX9_readingsFrom 6 = .ok (.invokestatic 89, 3) := by decide +kernel
theorem dX9_readingsFrom_9 : decode cX9_readingsFrom 9 = .ok (.ifCond .ne 9, 3) := by decide +kernel
theorem dX9_readingsFrom_12 : decode cX9_readingsFrom 12 = .ok (.aload_n 0, 1) := by decide +kernel
theorem dX9_readingsFrom_13 : decode cX9_readingsFrom 13 = .ok (.iconst 1, 1) := by decide +kernel
theorem dX9_readingsFrom_14 : decode cX9_readingsFrom 14 = .ok (.invokevirtual 45, 3) := by decide +kernel
theorem dX9_readingsFrom_17 : decode cX9_readingsFrom 17 = .ok (.ireturn, 1) := by decide +kernel
theorem dX9_readingsFrom_18 : decode cX9_readingsFrom 18 = .ok (.iload_n 2, 1) := by decide +kernel
theorem dX9_readingsFrom_19 : decode cX9_readingsFrom 19 = .ok (.iconst 0, 1) := by decide +kernel
theorem dX9_readingsFrom_20 : decode cX9_readingsFrom 20 = .ok (.iconst 5, 1) := by decide +kernel
theorem dX9_readingsFrom_21 : decode cX9_readingsFrom 21 = .ok (.invokestatic 38, 3) := by decide +kernel
theorem dX9_readingsFrom_24 : decode cX9_readingsFrom 24 = .ok (.ifCond .ne 9, 3) := by decide +kernel
theorem dX9_readingsFrom_27 : decode cX9_readingsFrom 27 = .ok (.aload_n 0, 1) := by decide +kernel
theorem dX9_readingsFrom_28 : decode cX9_readingsFrom 28 = .ok (.iconst 2, 1) := by decide +kernel
theorem dX9_readingsFrom_29 : decode cX9_readingsFrom 29 = .ok (.invokevirtual 45, 3) := by decide +kernel
theorem dX9_readingsFrom_32 : decode cX9_readingsFrom 32 = .ok (.ireturn, 1) := by decide +kernel
theorem dX9_readingsFrom_33 : decode cX9_readingsFrom 33 = .ok (.iconst 0, 1) := by decide +kernel
theorem dX9_readingsFrom_34 : decode cX9_readingsFrom 34 = .ok (.istore_n 3, 1) := by decide +kernel
theorem dX9_readingsFrom_35 : decode cX9_readingsFrom 35 = .ok (.iconst 0, 1) := by decide +kernel
theorem dX9_readingsFrom_36 : decode cX9_readingsFrom 36 = .ok (.istore 4, 2) := by decide +kernel
theorem dX9_readingsFrom_38 : decode cX9_readingsFrom 38 = .ok (.iload 4, 2) := by decide +kernel
theorem dX9_readingsFrom_40 : decode cX9_readingsFrom 40 = .ok (.bipush 96, 2) := by decide +kernel
theorem dX9_readingsFrom_42 : decode cX9_readingsFrom 42 = .ok (.if_icmp .ge 28, 3) := by decide +kernel
theorem dX9_readingsFrom_45 : decode cX9_readingsFrom 45 = .ok (.iload_n 3, 1) := by decide +kernel
theorem dX9_readingsFrom_46 : decode cX9_readingsFrom 46 = .ok (.aload_n 0, 1) := by decide +kernel
theorem dX9_readingsFrom_47 : decode cX9_readingsFrom 47 = .ok (.iload_n 1, 1) := by decide +kernel
theorem dX9_readingsFrom_48 : decode cX9_readingsFrom 48 = .ok (.iload 4, 2) := by decide +kernel
theorem dX9_readingsFrom_50 : decode cX9_readingsFrom 50 = .ok (.invokevirtual 63, 3) := by decide +kernel
theorem dX9_readingsFrom_53 : decode cX9_readingsFrom 53 = .ok (.iload_n 2, 1) := by decide +kernel
theorem dX9_readingsFrom_54 : decode cX9_readingsFrom 54 = .ok (.if_icmp .lt 7, 3) := by decide +kernel
theorem dX9_readingsFrom_57 : decode cX9_readingsFrom 57 = .ok (.iconst 1, 1) := by decide +kernel
theorem dX9_readingsFrom_58 : decode cX9_readingsFrom 58 = .ok (.goto 4, 3) := by decide +kernel
theorem dX9_readingsFrom_61 : decode cX9_readingsFrom 61 = .ok (.iconst 0, 1) := by decide +kernel
theorem dX9_readingsFrom_62 : decode cX9_readingsFrom 62 = .ok (.iadd, 1) := by decide +kernel
theorem dX9_readingsFrom_63 : decode cX9_readingsFrom 63 = .ok (.istore_n 3, 1) := by decide +kernel
theorem dX9_readingsFrom_64 : decode cX9_readingsFrom 64 = .ok (.iinc 4 1, 3) := by decide +kernel
theorem dX9_readingsFrom_67 : decode cX9_readingsFrom 67 = .ok (.goto (-29), 3) := by decide +kernel
theorem dX9_readingsFrom_70 : decode cX9_readingsFrom 70 = .ok (.iload_n 3, 1) := by decide +kernel
theorem dX9_readingsFrom_71 : decode cX9_readingsFrom 71 = .ok (.ireturn, 1) := by decide +kernel
theorem dX9_longestRow_0 : decode cX9_longestRow 0 = .ok (.aload_n 0, 1) := by decide +kernel
theorem dX9_longestRow_1 : decode cX9_longestRow 1 = .ok (.iconst 0, 1) := by decide +kernel
theorem dX9_longestRow_2 : decode cX9_longestRow 2 = .ok (.putfield 34, 3) := by decide +kernel
theorem dX9_longestRow_5 : decode cX9_longestRow 5 = .ok (.iload_n 1, 1) := by decide +kernel
theorem dX9_longestRow_6 : decode cX9_longestRow 6 = .ok (.invokestatic 89, 3) := by decide +kernel
theorem dX9_longestRow_9 : decode cX9_longestRow 9 = .ok (.ifCond .ne 9, 3) := by decide +kernel
theorem dX9_longestRow_12 : decode cX9_longestRow 12 = .ok (.aload_n 0, 1) := by decide +kernel
theorem dX9_longestRow_13 : decode cX9_longestRow 13 = .ok (.iconst 1, 1) := by decide +kernel
theorem dX9_longestRow_14 : decode cX9_longestRow 14 = .ok (.invokevirtual 45, 3) := by decide +kernel
theorem dX9_longestRow_17 : decode cX9_longestRow 17 = .ok (.ireturn, 1) := by decide +kernel
theorem dX9_longestRow_18 : decode cX9_longestRow 18 = .ok (.iload_n 2, 1) := by decide +kernel
theorem dX9_longestRow_19 : decode cX9_longestRow 19 = .ok (.iconst 0, 1) := by decide +kernel
theorem dX9_longestRow_20 : decode cX9_longestRow 20 = .ok (.iconst 5, 1) := by decide +kernel
theorem dX9_longestRow_21 : decode cX9_longestRow 21 = .ok (.invokestatic 38, 3) := by decide +kernel
theorem dX9_longestRow_24 : decode cX9_longestRow 24 = .ok (.ifCond .ne 9, 3) := by decide +kernel
theorem dX9_longestRow_27 : decode cX9_longestRow 27 = .ok (.aload_n 0, 1) := by decide +kernel
theorem dX9_longestRow_28 : decode cX9_longestRow 28 = .ok (.iconst 2, 1) := by decide +kernel
theorem dX9_longestRow_29 : decode cX9_longestRow 29 = .ok (.invokevirtual 45, 3) := by decide +kernel
theorem dX9_longestRow_32 : decode cX9_longestRow 32 = .ok (.ireturn, 1) := by decide +kernel
theorem dX9_longestRow_33 : decode cX9_longestRow 33 = .ok (.iconst 0, 1) := by decide +kernel
theorem dX9_longestRow_34 : decode cX9_longestRow 34 = .ok (.istore 4, 2) := by decide +kernel
theorem dX9_longestRow_36 : decode cX9_longestRow 36 = .ok (.iconst 0, 1) := by decide +kernel
theorem dX9_longestRow_37 : decode cX9_longestRow 37 = .ok (.istore 5, 2) := by decide +kernel
theorem dX9_longestRow_39 : decode cX9_longestRow 39 = .ok (.iload 5, 2) := by decide +kernel
theorem dX9_longestRow_41 : decode cX9_longestRow 41 = .ok (.bipush 96, 2) := by decide +kernel
theorem dX9_longestRow_43 : decode cX9_longestRow 43 = .ok (.if_icmp .ge 35, 3) := by decide +kernel
theorem dX9_longestRow_46 : decode cX9_longestRow 46 = .ok (.aload_n 0, 1) := by decide +kernel
theorem dX9_longestRow_47 : decode cX9_longestRow 47 = .ok (.iload_n 1, 1) := by decide +kernel
theorem dX9_longestRow_48 : decode cX9_longestRow 48 = .ok (.iload 5, 2) := by decide +kernel
theorem dX9_longestRow_50 : decode cX9_longestRow 50 = .ok (.iload_n 2, 1) := by decide +kernel
theorem dX9_longestRow_51 : decode cX9_longestRow 51 = .ok (.invokevirtual 79, 3) := by decide +kernel
theorem dX9_longestRow_54 : decode cX9_longestRow 54 = .ok (.istore 6, 2) := by decide +kernel
theorem dX9_longestRow_56 : decode cX9_longestRow 56 = .ok (.iload 6, 2) := by decide +kernel
theorem dX9_longestRow_58 : decode cX9_longestRow 58 = .ok (.iload 4, 2) := by decide +kernel
theorem dX9_longestRow_60 : decode cX9_longestRow 60 = .ok (.if_icmp .le 8, 3) := by decide +kernel
theorem dX9_longestRow_63 : decode cX9_longestRow 63 = .ok (.iload 6, 2) := by decide +kernel
theorem dX9_longestRow_65 : decode cX9_longestRow 65 = .ok (.goto 5, 3) := by decide +kernel
theorem dX9_longestRow_68 : decode cX9_longestRow 68 = .ok (.iload 4, 2) := by decide +kernel
theorem dX9_longestRow_70 : decode cX9_longestRow 70 = .ok (.istore 4, 2) := by decide +kernel
theorem dX9_longestRow_72 : decode cX9_longestRow 72 = .ok (.iinc 5 1, 3) := by decide +kernel
theorem dX9_longestRow_75 : decode cX9_longestRow 75 = .ok (.goto (-36), 3) := by decide +kernel
theorem dX9_longestRow_78 : decode cX9_longestRow 78 = .ok (.iload 4, 2) := by decide +kernel
theorem dX9_longestRow_80 : decode cX9_longestRow 80 = .ok (.ireturn, 1) := by decide +kernel
theorem dX9_bestObserver_0 : decode cX9_bestObserver 0 = .ok (.aload_n 0, 1) := by decide +kernel
theorem dX9_bestObserver_1 : decode cX9_bestObserver 1 = .ok (.iconst 0, 1) := by decide +kernel
theorem dX9_bestObserver_2 : decode cX9_bestObserver 2 = .ok (.putfield 34, 3) := by decide +kernel
theorem dX9_bestObserver_5 : decode cX9_bestObserver 5 = .ok (.iconst (-1), 1) := by decide +kernel
theorem dX9_bestObserver_6 : decode cX9_bestObserver 6 = .ok (.istore_n 1, 1) := by decide +kernel
theorem dX9_bestObserver_7 : decode cX9_bestObserver 7 = .ok (.iconst 0, 1) := by decide +kernel
theorem dX9_bestObserver_8 : decode cX9_bestObserver 8 = .ok (.istore_n 2, 1) := by decide +kernel
theorem dX9_bestObserver_9 : decode cX9_bestObserver 9 = .ok (.iload_n 2, 1) := by decide +kernel
theorem dX9_bestObserver_10 : decode cX9_bestObserver 10 = .ok (.iconst 3, 1) := by decide +kernel
theorem dX9_bestObserver_11 : decode cX9_bestObserver 11 = .ok (.if_icmp .ge 109, 3) := by decide +kernel
theorem dX9_bestObserver_14 : decode cX9_bestObserver 14 = .ok (.aload_n 0, 1) := by decide +kernel
theorem dX9_bestObserver_15 : decode cX9_bestObserver 15 = .ok (.getfield 7, 3) := by decide +kernel
theorem dX9_bestObserver_18 : decode cX9_bestObserver 18 = .ok (.bipush 68, 2) := by decide +kernel
theorem dX9_bestObserver_20 : decode cX9_bestObserver 20 = .ok (.iload_n 2, 1) := by decide +kernel
theorem dX9_bestObserver_21 : decode cX9_bestObserver 21 = .ok (.iadd, 1) := by decide +kernel
theorem dX9_bestObserver_22 : decode cX9_bestObserver 22 = .ok (.iaload, 1) := by decide +kernel
theorem dX9_bestObserver_23 : decode cX9_bestObserver 23 = .ok (.ifCond .le 7, 3) := by decide +kernel
theorem dX9_bestObserver_26 : decode cX9_bestObserver 26 = .ok (.iconst 1, 1) := by decide +kernel
theorem dX9_bestObserver_27 : decode cX9_bestObserver 27 = .ok (.goto 4, 3) := by decide +kernel
theorem dX9_bestObserver_30 : decode cX9_bestObserver 30 = .ok (.iconst 0, 1) := by decide +kernel
theorem dX9_bestObserver_31 : decode cX9_bestObserver 31 = .ok (.istore_n 3, 1) := by decide +kernel
theorem dX9_bestObserver_32 : decode cX9_bestObserver 32 = .ok (.iload_n 3, 1) := by decide +kernel
theorem dX9_bestObserver_33 : decode cX9_bestObserver 33 = .ok (.ifCond .eq 58, 3) := by decide +kernel
theorem dX9_bestObserver_36 : decode cX9_bestObserver 36 = .ok (.iload_n 1, 1) := by decide +kernel
theorem dX9_bestObserver_37 : decode cX9_bestObserver 37 = .ok (.iconst (-1), 1) := by decide +kernel
theorem dX9_bestObserver_38 : decode cX9_bestObserver 38 = .ok (.if_icmp .eq 53, 3) := by decide +kernel
theorem dX9_bestObserver_41 : decode cX9_bestObserver 41 = .ok (.aload_n 0, 1) := by decide +kernel
theorem dX9_bestObserver_42 : decode cX9_bestObserver 42 = .ok (.getfield 7, 3) := by decide +kernel
theorem dX9_bestObserver_45 : decode cX9_bestObserver 45 = .ok (.bipush 65, 2) := by decide +kernel
theorem dX9_bestObserver_47 : decode cX9_bestObserver 47 = .ok (.iload_n 2, 1) := by decide +kernel
theorem dX9_bestObserver_48 : decode cX9_bestObserver 48 = .ok (.iadd, 1) := by decide +kernel
theorem dX9_bestObserver_49 : decode cX9_bestObserver 49 = .ok (.iaload, 1) := by decide +kernel
theorem dX9_bestObserver_50 : decode cX9_bestObserver 50 = .ok (.i2l, 1) := by decide +kernel
theorem dX9_bestObserver_51 : decode cX9_bestObserver 51 = .ok (.aload_n 0, 1) := by decide +kernel
theorem dX9_bestObserver_52 : decode cX9_bestObserver 52 = .ok (.getfield 7, 3) := by decide +kernel
theorem dX9_bestObserver_55 : decode cX9_bestObserver 55 = .ok (.bipush 68, 2) := by decide +kernel
theorem dX9_bestObserver_57 : decode cX9_bestObserver 57 = .ok (.iload_n 1, 1) := by decide +kernel
theorem dX9_bestObserver_58 : decode cX9_bestObserver 58 = .ok (.iadd, 1) := by decide +kernel
theorem dX9_bestObserver_59 : decode cX9_bestObserver 59 = .ok (.iaload, 1) := by decide +kernel
theorem dX9_bestObserver_60 : decode cX9_bestObserver 60 = .ok (.i2l, 1) := by decide +kernel
theorem dX9_bestObserver_61 : decode cX9_bestObserver 61 = .ok (.lmul, 1) := by decide +kernel
theorem dX9_bestObserver_62 : decode cX9_bestObserver 62 = .ok (.aload_n 0, 1) := by decide +kernel
theorem dX9_bestObserver_63 : decode cX9_bestObserver 63 = .ok (.getfield 7, 3) := by decide +kernel
theorem dX9_bestObserver_66 : decode cX9_bestObserver 66 = .ok (.bipush 65, 2) := by decide +kernel
theorem dX9_bestObserver_68 : decode cX9_bestObserver 68 = .ok (.iload_n 1, 1) := by decide +kernel
theorem dX9_bestObserver_69 : decode cX9_bestObserver 69 = .ok (.iadd, 1) := by decide +kernel
theorem dX9_bestObserver_70 : decode cX9_bestObserver 70 = .ok (.iaload, 1) := by decide +kernel
theorem dX9_bestObserver_71 : decode cX9_bestObserver 71 = .ok (.i2l, 1) := by decide +kernel
theorem dX9_bestObserver_72 : decode cX9_bestObserver 72 = .ok (.aload_n 0, 1) := by decide +kernel
theorem dX9_bestObserver_73 : decode cX9_bestObserver 73 = .ok (.getfield 7, 3) := by decide +kernel
theorem dX9_bestObserver_76 : decode cX9_bestObserver 76 = .ok (.bipush 68, 2) := by decide +kernel
theorem dX9_bestObserver_78 : decode cX9_bestObserver 78 = .ok (.iload_n 2, 1) := by decide +kernel
theorem dX9_bestObserver_79 : decode cX9_bestObserver 79 = .ok (.iadd, 1) := by decide +kernel
theorem dX9_bestObserver_80 : decode cX9_bestObserver 80 = .ok (.iaload, 1) := by decide +kernel
theorem dX9_bestObserver_81 : decode cX9_bestObserver 81 = .ok (.i2l, 1) := by decide +kernel
theorem dX9_bestObserver_82 : decode cX9_bestObserver 82 = .ok (.lmul, 1) := by decide +kernel
theorem dX9_bestObserver_83 : decode cX9_bestObserver 83 = .ok (.lcmp, 1) := by decide +kernel
theorem dX9_bestObserver_84 : decode cX9_bestObserver 84 = .ok (.ifCond .ge 7, 3) := by decide +kernel
theorem dX9_bestObserver_87 : decode cX9_bestObserver 87 = .ok (.iconst 1, 1) := by decide +kernel
theorem dX9_bestObserver_88 : decode cX9_bestObserver 88 = .ok (.goto 4, 3) := by decide +kernel
theorem dX9_bestObserver_91 : decode cX9_bestObserver 91 = .ok (.iconst 0, 1) := by decide +kernel
theorem dX9_bestObserver_92 : decode cX9_bestObserver 92 = .ok (.istore 4, 2) := by decide +kernel
theorem dX9_bestObserver_94 : decode cX9_bestObserver 94 = .ok (.iload_n 3, 1) := by decide +kernel
theorem dX9_bestObserver_95 : decode cX9_bestObserver 95 = .ok (.ifCond .eq 8, 3) := by decide +kernel
theorem dX9_bestObserver_98 : decode cX9_bestObserver 98 = .ok (.iload_n 1, 1) := by decide +kernel
theorem dX9_bestObserver_99 : decode cX9_bestObserver 99 = .ok (.iconst (-1), 1) := by decide +kernel
theorem dX9_bestObserver_100 : decode cX9_bestObserver 100 = .ok (.if_icmp .eq 8, 3) := by decide +kernel
theorem dX9_bestObserver_103 : decode cX9_bestObserver 103 = .ok (.iload 4, 2) := by decide +kernel
theorem dX9_bestObserver_105 : decode cX9_bestObserver 105 = .ok (.ifCond .eq 7, 3) := by decide +kernel
theorem dX9_bestObserver_108 : decode cX9_bestObserver 108 = .ok (.iload_n 2, 1) := by decide +kernel
theorem dX9_bestObserver_109 : decode cX9_bestObserver 109 = .ok (.goto 4, 3) := by decide +kernel
theorem dX9_bestObserver_112 : decode cX9_bestObserver 112 = .ok (.iload_n 1, 1) := by decide +kernel
theorem dX9_bestObserver_113 : decode cX9_bestObserver 113 = .ok (.istore_n 1, 1) := by decide +kernel
theorem dX9_bestObserver_114 : decode cX9_bestObserver 114 = .ok (.iinc 2 1, 3) := by decide +kernel
theorem dX9_bestObserver_117 : decode cX9_bestObserver 117 = .ok (.goto (-108), 3) := by decide +kernel
theorem dX9_bestObserver_120 : decode cX9_bestObserver 120 = .ok (.iload_n 1, 1) := by decide +kernel
theorem dX9_bestObserver_121 : decode cX9_bestObserver 121 = .ok (.ireturn, 1) := by decide +kernel
theorem dX9_notices_0 : decode cX9_notices 0 = .ok (.aload_n 0, 1) := by decide +kernel
theorem dX9_notices_1 : decode cX9_notices 1 = .ok (.iconst 0, 1) := by decide +kernel
theorem dX9_notices_2 : decode cX9_notices 2 = .ok (.putfield 34, 3) := by decide +kernel
theorem dX9_notices_5 : decode cX9_notices 5 = .ok (.aload_n 0, 1) := by decide +kernel
theorem dX9_notices_6 : decode cX9_notices 6 = .ok (.getfield 7, 3) := by decide +kernel
theorem dX9_notices_9 : decode cX9_notices 9 = .ok (.bipush 75, 2) := by decide +kernel
theorem dX9_notices_11 : decode cX9_notices 11 = .ok (.iaload, 1) := by decide +kernel
theorem dX9_notices_12 : decode cX9_notices 12 = .ok (.ireturn, 1) := by decide +kernel
theorem dX9_tellNotice_0 : decode cX9_tellNotice 0 = .ok (.aload_n 0, 1) := by decide +kernel
theorem dX9_tellNotice_1 : decode cX9_tellNotice 1 = .ok (.iconst 0, 1) := by decide +kernel
theorem dX9_tellNotice_2 : decode cX9_tellNotice 2 = .ok (.putfield 34, 3) := by decide +kernel
theorem dX9_tellNotice_5 : decode cX9_tellNotice 5 = .ok (.aload_n 0, 1) := by decide +kernel
theorem dX9_tellNotice_6 : decode cX9_tellNotice 6 = .ok (.iload_n 2, 1) := by decide +kernel
theorem dX9_tellNotice_7 : decode cX9_tellNotice 7 = .ok (.invokevirtual 105, 3) := by decide +kernel
theorem dX9_tellNotice_10 : decode cX9_tellNotice 10 = .ok (.ifCond .eq 14, 3) := by decide +kernel
theorem dX9_tellNotice_13 : decode cX9_tellNotice 13 = .ok (.aload_n 0, 1) := by decide +kernel
theorem dX9_tellNotice_14 : decode cX9_tellNotice 14 = .ok (.getfield 7, 3) := by decide +kernel
theorem dX9_tellNotice_17 : decode cX9_tellNotice 17 = .ok (.iload_n 1, 1) := by decide +kernel
theorem dX9_tellNotice_18 : decode cX9_tellNotice 18 = .ok (.iload_n 2, 1) := by decide +kernel
theorem dX9_tellNotice_19 : decode cX9_tellNotice 19 = .ok (.iadd, 1) := by decide +kernel
theorem dX9_tellNotice_20 : decode cX9_tellNotice 20 = .ok (.iaload, 1) := by decide +kernel
theorem dX9_tellNotice_21 : decode cX9_tellNotice 21 = .ok (.goto 8, 3) := by decide +kernel
theorem dX9_tellNotice_24 : decode cX9_tellNotice 24 = .ok (.aload_n 0, 1) := by decide +kernel
theorem dX9_tellNotice_25 : decode cX9_tellNotice 25 = .ok (.iconst 1, 1) := by decide +kernel
theorem dX9_tellNotice_26 : decode cX9_tellNotice 26 = .ok (.invokevirtual 45, 3) := by decide +kernel
theorem dX9_tellNotice_29 : decode cX9_tellNotice 29 = .ok (.ireturn, 1) := by decide +kernel
theorem dX9_chimneyOf_0 : decode cX9_chimneyOf 0 = .ok (.aload_n 0, 1) := by decide +kernel
theorem dX9_chimneyOf_1 : decode cX9_chimneyOf 1 = .ok (.bipush 92, 2) := by decide +kernel
theorem dX9_chimneyOf_3 : decode cX9_chimneyOf 3 = .ok (.iload_n 1, 1) := by decide +kernel
theorem dX9_chimneyOf_4 : decode cX9_chimneyOf 4 = .ok (.invokevirtual 120, 3) := by decide +kernel
theorem dX9_chimneyOf_7 : decode cX9_chimneyOf 7 = .ok (.ireturn, 1) := by decide +kernel
theorem dX9_fineOf_0 : decode cX9_fineOf 0 = .ok (.aload_n 0, 1) := by decide +kernel
theorem dX9_fineOf_1 : decode cX9_fineOf 1 = .ok (.bipush 112, 2) := by decide +kernel
theorem dX9_fineOf_3 : decode cX9_fineOf 3 = .ok (.iload_n 1, 1) := by decide +kernel
theorem dX9_fineOf_4 : decode cX9_fineOf 4 = .ok (.invokevirtual 120, 3) := by decide +kernel
theorem dX9_fineOf_7 : decode cX9_fineOf 7 = .ok (.ireturn, 1) := by decide +kernel
theorem dX9_stands_0 : decode cX9_stands 0 = .ok (.aload_n 0, 1) := by decide +kernel
theorem dX9_stands_1 : decode cX9_stands 1 = .ok (.aload_n 0, 1) := by decide +kernel
theorem dX9_stands_2 : decode cX9_stands 2 = .ok (.iload_n 1, 1) := by decide +kernel
theorem dX9_stands_3 : decode cX9_stands 3 = .ok (.invokevirtual 105, 3) := by decide +kernel
theorem dX9_stands_6 : decode cX9_stands 6 = .ok (.ifCond .eq 7, 3) := by decide +kernel
theorem dX9_stands_9 : decode cX9_stands 9 = .ok (.iconst 0, 1) := by decide +kernel
theorem dX9_stands_10 : decode cX9_stands 10 = .ok (.goto 4, 3) := by decide +kernel
theorem dX9_stands_13 : decode cX9_stands 13 = .ok (.iconst 1, 1) := by decide +kernel
theorem dX9_stands_14 : decode cX9_stands 14 = .ok (.putfield 34, 3) := by decide +kernel
theorem dX9_stands_17 : decode cX9_stands 17 = .ok (.aload_n 0, 1) := by decide +kernel
theorem dX9_stands_18 : decode cX9_stands 18 = .ok (.getfield 34, 3) := by decide +kernel
theorem dX9_stands_21 : decode cX9_stands 21 = .ok (.ifCond .ne 21, 3) := by decide +kernel
theorem dX9_stands_24 : decode cX9_stands 24 = .ok (.aload_n 0, 1) := by decide +kernel
theorem dX9_stands_25 : decode cX9_stands 25 = .ok (.getfield 7, 3) := by decide +kernel
theorem dX9_stands_28 : decode cX9_stands 28 = .ok (.sipush 132, 3) := by decide +kernel
theorem dX9_stands_31 : decode cX9_stands 31 = .ok (.iload_n 1, 1) := by decide +kernel
theorem dX9_stands_32 : decode cX9_stands 32 = .ok (.iadd, 1) := by decide +kernel
theorem dX9_stands_33 : decode cX9_stands 33 = .ok (.iaload, 1) := by decide +kernel
theorem dX9_stands_34 : decode cX9_stands 34 = .ok (.iconst 2, 1) := by decide +kernel
theorem dX9_stands_35 : decode cX9_stands 35 = .ok (.if_icmp .ge 7, 3) := by decide +kernel
theorem dX9_stands_38 : decode cX9_stands 38 = .ok (.iconst 1, 1) := by decide +kernel
theorem dX9_stands_39 : decode cX9_stands 39 = .ok (.goto 4, 3) := by decide +kernel
theorem dX9_stands_42 : decode cX9_stands 42 = .ok (.iconst 0, 1) := by decide +kernel
theorem dX9_stands_43 : decode cX9_stands 43 = .ok (.ireturn, 1) := by decide +kernel
theorem dX9_wouldAppeal_0 : decode cX9_wouldAppeal 0 = .ok (.aload_n 0, 1) := by decide +kernel
theorem dX9_wouldAppeal_1 : decode cX9_wouldAppeal 1 = .ok (.iconst 0, 1) := by decide +kernel
theorem dX9_wouldAppeal_2 : decode cX9_wouldAppeal 2 = .ok (.putfield 34, 3) := by decide +kernel
theorem dX9_wouldAppeal_5 : decode cX9_wouldAppeal 5 = .ok (.aload_n 0, 1) := by decide +kernel
theorem dX9_wouldAppeal_6 : decode cX9_wouldAppeal 6 = .ok (.iload_n 1, 1) := by decide +kernel
theorem dX9_wouldAppeal_7 : decode cX9_wouldAppeal 7 = .ok (.invokevirtual 105, 3) := by decide +kernel
theorem dX9_wouldAppeal_10 : decode cX9_wouldAppeal 10 = .ok (.ifCond .ne 9, 3) := by decide +kernel
theorem dX9_wouldAppeal_13 : decode cX9_wouldAppeal 13 = .ok (.aload_n 0, 1) := by decide +kernel
theorem dX9_wouldAppeal_14 : decode cX9_wouldAppeal 14 = .ok (.iconst 1, 1) := by decide +kernel
theorem dX9_wouldAppeal_15 : decode cX9_wouldAppeal 15 = .ok (.invokevirtual 45, 3) := by decide +kernel
theorem dX9_wouldAppeal_18 : decode cX9_wouldAppeal 18 = .ok (.ireturn, 1) := by decide +kernel
theorem dX9_wouldAppeal_19 : decode cX9_wouldAppeal 19 = .ok (.aload_n 0, 1) := by decide +kernel
theorem dX9_wouldAppeal_20 : decode cX9_wouldAppeal 20 = .ok (.getfield 7, 3) := by decide +kernel
theorem dX9_wouldAppeal_23 : decode cX9_wouldAppeal 23 = .ok (.sipush 132, 3) := by decide +kernel
theorem dX9_wouldAppeal_26 : decode cX9_wouldAppeal 26 = .ok (.iload_n 1, 1) := by decide +kernel
theorem dX9_wouldAppeal_27 : decode cX9_wouldAppeal 27 = .ok (.iadd, 1) := by decide +kernel
theorem dX9_wouldAppeal_28 : decode cX9_wouldAppeal 28 = .ok (.iaload, 1) := by decide +kernel
theorem dX9_wouldAppeal_29 : decode cX9_wouldAppeal 29 = .ok (.ifCond .le 7, 3) := by decide +kernel
theorem dX9_wouldAppeal_32 : decode cX9_wouldAppeal 32 = .ok (.iconst 3, 1) := by decide +kernel
theorem dX9_wouldAppeal_33 : decode cX9_wouldAppeal 33 = .ok (.goto 13, 3) := by decide +kernel
theorem dX9_wouldAppeal_36 : decode cX9_wouldAppeal 36 = .ok (.aload_n 0, 1) := by decide +kernel
theorem dX9_wouldAppeal_37 : decode cX9_wouldAppeal 37 = .ok (.getfield 7, 3) := by decide +kernel
theorem dX9_wouldAppeal_40 : decode cX9_wouldAppeal 40 = .ok (.sipush 152, 3) := by decide +kernel
theorem dX9_wouldAppeal_43 : decode cX9_wouldAppeal 43 = .ok (.iload_n 1, 1) := by decide +kernel
theorem dX9_wouldAppeal_44 : decode cX9_wouldAppeal 44 = .ok (.iadd, 1) := by decide +kernel
theorem dX9_wouldAppeal_45 : decode cX9_wouldAppeal 45 = .ok (.iaload, 1) := by decide +kernel
theorem dX9_wouldAppeal_46 : decode cX9_wouldAppeal 46 = .ok (.ireturn, 1) := by decide +kernel
theorem dX9_fines_0 : decode cX9_fines 0 = .ok (.iconst 0, 1) := by decide +kernel
theorem dX9_fines_1 : decode cX9_fines 1 = .ok (.istore_n 2, 1) := by decide +kernel
theorem dX9_fines_2 : decode cX9_fines 2 = .ok (.iconst 0, 1) := by decide +kernel
theorem dX9_fines_3 : decode cX9_fines 3 = .ok (.istore_n 3, 1) := by decide +kernel
theorem dX9_fines_4 : decode cX9_fines 4 = .ok (.iload_n 3, 1) := by decide +kernel
theorem dX9_fines_5 : decode cX9_fines 5 = .ok (.aload_n 0, 1) := by decide +kernel
theorem dX9_fines_6 : decode cX9_fines 6 = .ok (.getfield 7, 3) := by decide +kernel
theorem dX9_fines_9 : decode cX9_fines 9 = .ok (.bipush 75, 2) := by decide +kernel
theorem dX9_fines_11 : decode cX9_fines 11 = .ok (.iaload, 1) := by decide +kernel
theorem dX9_fines_12 : decode cX9_fines 12 = .ok (.if_icmp .ge 52, 3) := by decide +kernel
theorem dX9_fines_15 : decode cX9_fines 15 = .ok (.iload_n 2, 1) := by decide +kernel
theorem dX9_fines_16 : decode cX9_fines 16 = .ok (.aload_n 0, 1) := by decide +kernel
theorem dX9_fines_17 : decode cX9_fines 17 = .ok (.getfield 7, 3) := by decide +kernel
theorem dX9_fines_20 : decode cX9_fines 20 = .ok (.bipush 92, 2) := by decide +kernel
theorem dX9_fines_22 : decode cX9_fines 22 = .ok (.iload_n 3, 1) := by decide +kernel
theorem dX9_fines_23 : decode cX9_fines 23 = .ok (.iadd, 1) := by decide +kernel
theorem dX9_fines_24 : decode cX9_fines 24 = .ok (.iaload, 1) := by decide +kernel
theorem dX9_fines_25 : decode cX9_fines 25 = .ok (.iload_n 1, 1) := by decide +kernel
theorem dX9_fines_26 : decode cX9_fines 26 = .ok (.if_icmp .ne 29, 3) := by decide +kernel
theorem dX9_fines_29 : decode cX9_fines 29 = .ok (.aload_n 0, 1) := by decide +kernel
theorem dX9_fines_30 : decode cX9_fines 30 = .ok (.getfield 7, 3) := by decide +kernel
theorem dX9_fines_33 : decode cX9_fines 33 = .ok (.sipush 132, 3) := by decide +kernel
theorem dX9_fines_36 : decode cX9_fines 36 = .ok (.iload_n 3, 1) := by decide +kernel
theorem dX9_fines_37 : decode cX9_fines 37 = .ok (.iadd, 1) := by decide +kernel
theorem dX9_fines_38 : decode cX9_fines 38 = .ok (.iaload, 1) := by decide +kernel
theorem dX9_fines_39 : decode cX9_fines 39 = .ok (.iconst 2, 1) := by decide +kernel
theorem dX9_fines_40 : decode cX9_fines 40 = .ok (.if_icmp .ge 15, 3) := by decide +kernel
theorem dX9_fines_43 : decode cX9_fines 43 = .ok (.aload_n 0, 1) := by decide +kernel
theorem dX9_fines_44 : decode cX9_fines 44 = .ok (.getfield 7, 3) := by decide +kernel
theorem dX9_fines_47 : decode cX9_fines 47 = .ok (.bipush 112, 2) := by decide +kernel
theorem dX9_fines_49 : decode cX9_fines 49 = .ok (.iload_n 3, 1) := by decide +kernel
theorem dX9_fines_50 : decode cX9_fines 50 = .ok (.iadd, 1) := by decide +kernel
theorem dX9_fines_51 : decode cX9_fines 51 = .ok (.iaload, 1) := by decide +kernel
theorem dX9_fines_52 : decode cX9_fines 52 = .ok (.goto 4, 3) := by decide +kernel
theorem dX9_fines_55 : decode cX9_fines 55 = .ok (.iconst 0, 1) := by decide +kernel
theorem dX9_fines_56 : decode cX9_fines 56 = .ok (.iadd, 1) := by decide +kernel
theorem dX9_fines_57 : decode cX9_fines 57 = .ok (.istore_n 2, 1) := by decide +kernel
theorem dX9_fines_58 : decode cX9_fines 58 = .ok (.iinc 3 1, 3) := by decide +kernel
theorem dX9_fines_61 : decode cX9_fines 61 = .ok (.goto (-57), 3) := by decide +kernel
theorem dX9_fines_64 : decode cX9_fines 64 = .ok (.iload_n 2, 1) := by decide +kernel
theorem dX9_fines_65 : decode cX9_fines 65 = .ok (.ireturn, 1) := by decide +kernel
theorem dX9_finesOf_0 : decode cX9_finesOf 0 = .ok (.aload_n 0, 1) := by decide +kernel
theorem dX9_finesOf_1 : decode cX9_finesOf 1 = .ok (.iconst 0, 1) := by decide +kernel
theorem dX9_finesOf_2 : decode cX9_finesOf 2 = .ok (.putfield 34, 3) := by decide +kernel
theorem dX9_finesOf_5 : decode cX9_finesOf 5 = .ok (.iload_n 1, 1) := by decide +kernel
theorem dX9_finesOf_6 : decode cX9_finesOf 6 = .ok (.invokestatic 89, 3) := by decide +kernel
theorem dX9_finesOf_9 : decode cX9_finesOf 9 = .ok (.ifCond .ne 9, 3) := by decide +kernel
theorem dX9_finesOf_12 : decode cX9_finesOf 12 = .ok (.aload_n 0, 1) := by decide +kernel
theorem dX9_finesOf_13 : decode cX9_finesOf 13 = .ok (.iconst 1, 1) := by decide +kernel
theorem dX9_finesOf_14 : decode cX9_finesOf 14 = .ok (.invokevirtual 45, 3) := by decide +kernel
theorem dX9_finesOf_17 : decode cX9_finesOf 17 = .ok (.ireturn, 1) := by decide +kernel
theorem dX9_finesOf_18 : decode cX9_finesOf 18 = .ok (.iload_n 2, 1) := by decide +kernel
theorem dX9_finesOf_19 : decode cX9_finesOf 19 = .ok (.ifCond .eq 25, 3) := by decide +kernel
theorem dX9_finesOf_22 : decode cX9_finesOf 22 = .ok (.aload_n 0, 1) := by decide +kernel
theorem dX9_finesOf_23 : decode cX9_finesOf 23 = .ok (.getfield 7, 3) := by decide +kernel
theorem dX9_finesOf_26 : decode cX9_finesOf 26 = .ok (.bipush 76, 2) := by decide +kernel
theorem dX9_finesOf_28 : decode cX9_finesOf 28 = .ok (.iload_n 1, 1) := by decide +kernel
theorem dX9_finesOf_29 : decode cX9_finesOf 29 = .ok (.iadd, 1) := by decide +kernel
theorem dX9_finesOf_30 : decode cX9_finesOf 30 = .ok (.iaload, 1) := by decide +kernel
theorem dX9_finesOf_31 : decode cX9_finesOf 31 = .ok (.aload_n 0, 1) := by decide +kernel
theorem dX9_finesOf_32 : decode cX9_finesOf 32 = .ok (.getfield 7, 3) := by decide +kernel
theorem dX9_finesOf_35 : decode cX9_finesOf 35 = .ok (.bipush 84, 2) := by decide +kernel
theorem dX9_finesOf_37 : decode cX9_finesOf 37 = .ok (.iload_n 1, 1) := by decide +kernel
theorem dX9_finesOf_38 : decode cX9_finesOf 38 = .ok (.iadd, 1) := by decide +kernel
theorem dX9_finesOf_39 : decode cX9_finesOf 39 = .ok (.iaload, 1) := by decide +kernel
theorem dX9_finesOf_40 : decode cX9_finesOf 40 = .ok (.isub, 1) := by decide +kernel
theorem dX9_finesOf_41 : decode cX9_finesOf 41 = .ok (.goto 8, 3) := by decide +kernel
theorem dX9_finesOf_44 : decode cX9_finesOf 44 = .ok (.aload_n 0, 1) := by decide +kernel
theorem dX9_finesOf_45 : decode cX9_finesOf 45 = .ok (.iload_n 1, 1) := by decide +kernel
theorem dX9_finesOf_46 : decode cX9_finesOf 46 = .ok (.invokevirtual 123, 3) := by decide +kernel
theorem dX9_finesOf_49 : decode cX9_finesOf 49 = .ok (.ireturn, 1) := by decide +kernel
theorem dX9_worstChimney_0 : decode cX9_worstChimney 0 = .ok (.aload_n 0, 1) := by decide +kernel
theorem dX9_worstChimney_1 : decode cX9_worstChimney 1 = .ok (.iconst 0, 1) := by decide +kernel
theorem dX9_worstChimney_2 : decode cX9_worstChimney 2 = .ok (.putfield 34, 3) := by decide +kernel
theorem dX9_worstChimney_5 : decode cX9_worstChimney 5 = .ok (.iconst (-1), 1) := by decide +kernel
theorem dX9_worstChimney_6 : decode cX9_worstChimney 6 = .ok (.istore_n 1, 1) := by decide +kernel
theorem dX9_worstChimney_7 : decode cX9_worstChimney 7 = .ok (.iconst 0, 1) := by decide +kernel
theorem dX9_worstChimney_8 : decode cX9_worstChimney 8 = .ok (.istore_n 2, 1) := by decide +kernel
theorem dX9_worstChimney_9 : decode cX9_worstChimney 9 = .ok (.iconst 0, 1) := by decide +kernel
theorem dX9_worstChimney_10 : decode cX9_worstChimney 10 = .ok (.istore_n 3, 1) := by decide +kernel
theorem dX9_worstChimney_11 : decode cX9_worstChimney 11 = .ok (.iload_n 3, 1) := by decide +kernel
theorem dX9_worstChimney_12 : decode cX9_worstChimney 12 = .ok (.bipush 8, 2) := by decide +kernel
theorem dX9_worstChimney_14 : decode cX9_worstChimney 14 = .ok (.if_icmp .ge 41, 3) := by decide +kernel
theorem dX9_worstChimney_17 : decode cX9_worstChimney 17 = .ok (.aload_n 0, 1) := by decide +kernel
theorem dX9_worstChimney_18 : decode cX9_worstChimney 18 = .ok (.iload_n 3, 1) := by decide +kernel
theorem dX9_worstChimney_19 : decode cX9_worstChimney 19 = .ok (.invokevirtual 123, 3) := by decide +kernel
theorem dX9_worstChimney_22 : decode cX9_worstChimney 22 = .ok (.istore 4, 2) := by decide +kernel
theorem dX9_worstChimney_24 : decode cX9_worstChimney 24 = .ok (.iload 4, 2) := by decide +kernel
theorem dX9_worstChimney_26 : decode cX9_worstChimney 26 = .ok (.iload_n 2, 1) := by decide +kernel
theorem dX9_worstChimney_27 : decode cX9_worstChimney 27 = .ok (.if_icmp .le 7, 3) := by decide +kernel
theorem dX9_worstChimney_30 : decode cX9_worstChimney 30 = .ok (.iload_n 3, 1) := by decide +kernel
theorem dX9_worstChimney_31 : decode cX9_worstChimney 31 = .ok (.goto 4, 3) := by decide +kernel
theorem dX9_worstChimney_34 : decode cX9_worstChimney 34 = .ok (.iload_n 1, 1) := by decide +kernel
theorem dX9_worstChimney_35 : decode cX9_worstChimney 35 = .ok (.istore_n 1, 1) := by decide +kernel
theorem dX9_worstChimney_36 : decode cX9_worstChimney 36 = .ok (.iload 4, 2) := by decide +kernel
theorem dX9_worstChimney_38 : decode cX9_worstChimney 38 = .ok (.iload_n 2, 1) := by decide +kernel
theorem dX9_worstChimney_39 : decode cX9_worstChimney 39 = .ok (.if_icmp .le 8, 3) := by decide +kernel
theorem dX9_worstChimney_42 : decode cX9_worstChimney 42 = .ok (.iload 4, 2) := by decide +kernel
theorem dX9_worstChimney_44 : decode cX9_worstChimney 44 = .ok (.goto 4, 3) := by decide +kernel
theorem dX9_worstChimney_47 : decode cX9_worstChimney 47 = .ok (.iload_n 2, 1) := by decide +kernel
theorem dX9_worstChimney_48 : decode cX9_worstChimney 48 = .ok (.istore_n 2, 1) := by decide +kernel
theorem dX9_worstChimney_49 : decode cX9_worstChimney 49 = .ok (.iinc 3 1, 3) := by decide +kernel
theorem dX9_worstChimney_52 : decode cX9_worstChimney 52 = .ok (.goto (-41), 3) := by decide +kernel
theorem dX9_worstChimney_55 : decode cX9_worstChimney 55 = .ok (.iload_n 1, 1) := by decide +kernel
theorem dX9_worstChimney_56 : decode cX9_worstChimney 56 = .ok (.ireturn, 1) := by decide +kernel
theorem dX9_pickOne_0 : decode cX9_pickOne 0 = .ok (.iconst 0, 1) := by decide +kernel
theorem dX9_pickOne_1 : decode cX9_pickOne 1 = .ok (.istore_n 1, 1) := by decide +kernel
theorem dX9_pickOne_2 : decode cX9_pickOne 2 = .ok (.iconst 1, 1) := by decide +kernel
theorem dX9_pickOne_3 : decode cX9_pickOne 3 = .ok (.istore_n 2, 1) := by decide +kernel
theorem dX9_pickOne_4 : decode cX9_pickOne 4 = .ok (.iload_n 2, 1) := by decide +kernel
theorem dX9_pickOne_5 : decode cX9_pickOne 5 = .ok (.bipush 8, 2) := by decide +kernel
theorem dX9_pickOne_7 : decode cX9_pickOne 7 = .ok (.if_icmp .ge 30, 3) := by decide +kernel
theorem dX9_pickOne_10 : decode cX9_pickOne 10 = .ok (.aload_n 0, 1) := by decide +kernel
theorem dX9_pickOne_11 : decode cX9_pickOne 11 = .ok (.getfield 28, 3) := by decide +kernel
theorem dX9_pickOne_14 : decode cX9_pickOne 14 = .ok (.iload_n 2, 1) := by decide +kernel
theorem dX9_pickOne_15 : decode cX9_pickOne 15 = .ok (.iaload, 1) := by decide +kernel
theorem dX9_pickOne_16 : decode cX9_pickOne 16 = .ok (.aload_n 0, 1) := by decide +kernel
theorem dX9_pickOne_17 : decode cX9_pickOne 17 = .ok (.getfield 28, 3) := by decide +kernel
theorem dX9_pickOne_20 : decode cX9_pickOne 20 = .ok (.iload_n 1, 1) := by decide +kernel
theorem dX9_pickOne_21 : decode cX9_pickOne 21 = .ok (.iaload, 1) := by decide +kernel
theorem dX9_pickOne_22 : decode cX9_pickOne 22 = .ok (.if_icmp .le 7, 3) := by decide +kernel
theorem dX9_pickOne_25 : decode cX9_pickOne 25 = .ok (.iload_n 2, 1) := by decide +kernel
theorem dX9_pickOne_26 : decode cX9_pickOne 26 = .ok (.goto 4, 3) := by decide +kernel
theorem dX9_pickOne_29 : decode cX9_pickOne 29 = .ok (.iload_n 1, 1) := by decide +kernel
theorem dX9_pickOne_30 : decode cX9_pickOne 30 = .ok (.istore_n 1, 1) := by decide +kernel
theorem dX9_pickOne_31 : decode cX9_pickOne 31 = .ok (.iinc 2 1, 3) := by decide +kernel
theorem dX9_pickOne_34 : decode cX9_pickOne 34 = .ok (.goto (-30), 3) := by decide +kernel
theorem dX9_pickOne_37 : decode cX9_pickOne 37 = .ok (.aload_n 0, 1) := by decide +kernel
theorem dX9_pickOne_38 : decode cX9_pickOne 38 = .ok (.getfield 28, 3) := by decide +kernel
theorem dX9_pickOne_41 : decode cX9_pickOne 41 = .ok (.iload_n 1, 1) := by decide +kernel
theorem dX9_pickOne_42 : decode cX9_pickOne 42 = .ok (.iconst (-1), 1) := by decide +kernel
theorem dX9_pickOne_43 : decode cX9_pickOne 43 = .ok (.iastore, 1) := by decide +kernel
theorem dX9_pickOne_44 : decode cX9_pickOne 44 = .ok (.iload_n 1, 1) := by decide +kernel
theorem dX9_pickOne_45 : decode cX9_pickOne 45 = .ok (.ireturn, 1) := by decide +kernel
theorem dX9_toWatch_0 : decode cX9_toWatch 0 = .ok (.aload_n 0, 1) := by decide +kernel
theorem dX9_toWatch_1 : decode cX9_toWatch 1 = .ok (.iconst 0, 1) := by decide +kernel
theorem dX9_toWatch_2 : decode cX9_toWatch 2 = .ok (.putfield 34, 3) := by decide +kernel
theorem dX9_toWatch_5 : decode cX9_toWatch 5 = .ok (.iload_n 1, 1) := by decide +kernel
theorem dX9_toWatch_6 : decode cX9_toWatch 6 = .ok (.iconst 1, 1) := by decide +kernel
theorem dX9_toWatch_7 : decode cX9_toWatch 7 = .ok (.bipush 96, 2) := by decide +kernel
theorem dX9_toWatch_9 : decode cX9_toWatch 9 = .ok (.invokestatic 38, 3) := by decide +kernel
theorem dX9_toWatch_12 : decode cX9_toWatch 12 = .ok (.ifCond .ne 9, 3) := by decide +kernel
theorem dX9_toWatch_15 : decode cX9_toWatch 15 = .ok (.aload_n 0, 1) := by decide +kernel
theorem dX9_toWatch_16 : decode cX9_toWatch 16 = .ok (.iconst 1, 1) := by decide +kernel
theorem dX9_toWatch_17 : decode cX9_toWatch 17 = .ok (.invokevirtual 45, 3) := by decide +kernel
theorem dX9_toWatch_20 : decode cX9_toWatch 20 = .ok (.ireturn, 1) := by decide +kernel
theorem dX9_toWatch_21 : decode cX9_toWatch 21 = .ok (.aload_n 0, 1) := by decide +kernel
theorem dX9_toWatch_22 : decode cX9_toWatch 22 = .ok (.getfield 7, 3) := by decide +kernel
theorem dX9_toWatch_25 : decode cX9_toWatch 25 = .ok (.bipush 74, 2) := by decide +kernel
theorem dX9_toWatch_27 : decode cX9_toWatch 27 = .ok (.iaload, 1) := by decide +kernel
theorem dX9_toWatch_28 : decode cX9_toWatch 28 = .ok (.iload_n 1, 1) := by decide +kernel
theorem dX9_toWatch_29 : decode cX9_toWatch 29 = .ok (.iadd, 1) := by decide +kernel
theorem dX9_toWatch_30 : decode cX9_toWatch 30 = .ok (.iconst 1, 1) := by decide +kernel
theorem dX9_toWatch_31 : decode cX9_toWatch 31 = .ok (.isub, 1) := by decide +kernel
theorem dX9_toWatch_32 : decode cX9_toWatch 32 = .ok (.bipush 96, 2) := by decide +kernel
theorem dX9_toWatch_34 : decode cX9_toWatch 34 = .ok (.if_icmp .ge 17, 3) := by decide +kernel
theorem dX9_toWatch_37 : decode cX9_toWatch 37 = .ok (.aload_n 0, 1) := by decide +kernel
theorem dX9_toWatch_38 : decode cX9_toWatch 38 = .ok (.getfield 7, 3) := by decide +kernel
theorem dX9_toWatch_41 : decode cX9_toWatch 41 = .ok (.bipush 74, 2) := by decide +kernel
theorem dX9_toWatch_43 : decode cX9_toWatch 43 = .ok (.iaload, 1) := by decide +kernel
theorem dX9_toWatch_44 : decode cX9_toWatch 44 = .ok (.iload_n 1, 1) := by decide +kernel
theorem dX9_toWatch_45 : decode cX9_toWatch 45 = .ok (.iadd, 1) := by decide +kernel
theorem dX9_toWatch_46 : decode cX9_toWatch 46 = .ok (.iconst 1, 1) := by decide +kernel
theorem dX9_toWatch_47 : decode cX9_toWatch 47 = .ok (.isub, 1) := by decide +kernel
theorem dX9_toWatch_48 : decode cX9_toWatch 48 = .ok (.goto 5, 3) := by decide +kernel
theorem dX9_toWatch_51 : decode cX9_toWatch 51 = .ok (.bipush 95, 2) := by decide +kernel
theorem dX9_toWatch_53 : decode cX9_toWatch 53 = .ok (.istore_n 3, 1) := by decide +kernel
theorem dX9_toWatch_54 : decode cX9_toWatch 54 = .ok (.iconst 0, 1) := by decide +kernel
theorem dX9_toWatch_55 : decode cX9_toWatch 55 = .ok (.istore 4, 2) := by decide +kernel
theorem dX9_toWatch_57 : decode cX9_toWatch 57 = .ok (.iload 4, 2) := by decide +kernel
theorem dX9_toWatch_59 : decode cX9_toWatch 59 = .ok (.bipush 8, 2) := by decide +kernel
theorem dX9_toWatch_61 : decode cX9_toWatch 61 = .ok (.if_icmp .ge 30, 3) := by decide +kernel
theorem dX9_toWatch_64 : decode cX9_toWatch 64 = .ok (.aload_n 0, 1) := by decide +kernel
theorem dX9_toWatch_65 : decode cX9_toWatch 65 = .ok (.getfield 28, 3) := by decide +kernel
theorem dX9_toWatch_68 : decode cX9_toWatch 68 = .ok (.iload 4, 2) := by decide +kernel
theorem dX9_toWatch_70 : decode cX9_toWatch 70 = .ok (.aload_n 0, 1) := by decide +kernel
theorem dX9_toWatch_71 : decode cX9_toWatch 71 = .ok (.iload 4, 2) := by decide +kernel
theorem dX9_toWatch_73 : decode cX9_toWatch 73 = .ok (.aload_n 0, 1) := by decide +kernel
theorem dX9_toWatch_74 : decode cX9_toWatch 74 = .ok (.getfield 7, 3) := by decide +kernel
theorem dX9_toWatch_77 : decode cX9_toWatch 77 = .ok (.bipush 74, 2) := by decide +kernel
theorem dX9_toWatch_79 : decode cX9_toWatch 79 = .ok (.iaload, 1) := by decide +kernel
theorem dX9_toWatch_80 : decode cX9_toWatch 80 = .ok (.iload_n 3, 1) := by decide +kernel
theorem dX9_toWatch_81 : decode cX9_toWatch 81 = .ok (.invokevirtual 114, 3) := by decide +kernel
theorem dX9_toWatch_84 : decode cX9_toWatch 84 = .ok (.iastore, 1) := by decide +kernel
theorem dX9_toWatch_85 : decode cX9_toWatch 85 = .ok (.iinc 4 1, 3) := by decide +kernel
theorem dX9_toWatch_88 : decode cX9_toWatch 88 = .ok (.goto (-31), 3) := by decide +kernel
theorem dX9_toWatch_91 : decode cX9_toWatch 91 = .ok (.iconst 0, 1) := by decide +kernel
theorem dX9_toWatch_92 : decode cX9_toWatch 92 = .ok (.istore 4, 2) := by decide +kernel
theorem dX9_toWatch_94 : decode cX9_toWatch 94 = .ok (.iconst 0, 1) := by decide +kernel
theorem dX9_toWatch_95 : decode cX9_toWatch 95 = .ok (.istore 5, 2) := by decide +kernel
theorem dX9_toWatch_97 : decode cX9_toWatch 97 = .ok (.iload 5, 2) := by decide +kernel
theorem dX9_toWatch_99 : decode cX9_toWatch 99 = .ok (.iconst 3, 1) := by decide +kernel
theorem dX9_toWatch_100 : decode cX9_toWatch 100 = .ok (.if_icmp .ge 20, 3) := by decide +kernel
theorem dX9_toWatch_103 : decode cX9_toWatch 103 = .ok (.iload 4, 2) := by decide +kernel
theorem dX9_toWatch_105 : decode cX9_toWatch 105 = .ok (.iconst 1, 1) := by decide +kernel
theorem dX9_toWatch_106 : decode cX9_toWatch 106 = .ok (.aload_n 0, 1) := by decide +kernel
theorem dX9_toWatch_107 : decode cX9_toWatch 107 = .ok (.invokevirtual 126, 3) := by decide +kernel
theorem dX9_toWatch_110 : decode cX9_toWatch 110 = .ok (.ishl, 1) := by decide +kernel
theorem dX9_toWatch_111 : decode cX9_toWatch 111 = .ok (.ior, 1) := by decide +kernel
theorem dX9_toWatch_112 : decode cX9_toWatch 112 = .ok (.istore 4, 2) := by decide +kernel
theorem dX9_toWatch_114 : decode cX9_toWatch 114 = .ok (.iinc 5 1, 3) := by decide +kernel
theorem dX9_toWatch_117 : decode cX9_toWatch 117 = .ok (.goto (-20), 3) := by decide +kernel
theorem dX9_toWatch_120 : decode cX9_toWatch 120 = .ok (.iload 4, 2) := by decide +kernel
theorem dX9_toWatch_122 : decode cX9_toWatch 122 = .ok (.ireturn, 1) := by decide +kernel
theorem dX9_noticesBehind_0 : decode cX9_noticesBehind 0 = .ok (.aload_n 0, 1) := by decide +kernel
theorem dX9_noticesBehind_1 : decode cX9_noticesBehind 1 = .ok (.invokevirtual 129, 3) := by decide +kernel
theorem dX9_noticesBehind_4 : decode cX9_noticesBehind 4 = .ok (.aload_n 0, 1) := by decide +kernel
theorem dX9_noticesBehind_5 : decode cX9_noticesBehind 5 = .ok (.getfield 7, 3) := by decide +kernel
theorem dX9_noticesBehind_8 : decode cX9_noticesBehind 8 = .ok (.bipush 71, 2) := by decide +kernel
theorem dX9_noticesBehind_10 : decode cX9_noticesBehind 10 = .ok (.iload_n 2, 1) := by decide +kernel
theorem dX9_noticesBehind_11 : decode cX9_noticesBehind 11 = .ok (.iastore, 1) := by decide +kernel
theorem dX9_noticesBehind_12 : decode cX9_noticesBehind 12 = .ok (.aload_n 0, 1) := by decide +kernel
theorem dX9_noticesBehind_13 : decode cX9_noticesBehind 13 = .ok (.iload_n 1, 1) := by decide +kernel
theorem dX9_noticesBehind_14 : decode cX9_noticesBehind 14 = .ok (.invokevirtual 102, 3) := by decide +kernel
theorem dX9_noticesBehind_17 : decode cX9_noticesBehind 17 = .ok (.istore_n 3, 1) := by decide +kernel
theorem dX9_noticesBehind_18 : decode cX9_noticesBehind 18 = .ok (.aload_n 0, 1) := by decide +kernel
theorem dX9_noticesBehind_19 : decode cX9_noticesBehind 19 = .ok (.invokevirtual 132, 3) := by decide +kernel
theorem dX9_noticesBehind_22 : decode cX9_noticesBehind 22 = .ok (.iload_n 3, 1) := by decide +kernel
theorem dX9_noticesBehind_23 : decode cX9_noticesBehind 23 = .ok (.ireturn, 1) := by decide +kernel
theorem dX9_noticesIn_0 : decode cX9_noticesIn 0 = .ok (.aload_n 0, 1) := by decide +kernel
theorem dX9_noticesIn_1 : decode cX9_noticesIn 1 = .ok (.iconst 0, 1) := by decide +kernel
theorem dX9_noticesIn_2 : decode cX9_noticesIn 2 = .ok (.putfield 34, 3) := by decide +kernel
theorem dX9_noticesIn_5 : decode cX9_noticesIn 5 = .ok (.iload_n 1, 1) := by decide +kernel
theorem dX9_noticesIn_6 : decode cX9_noticesIn 6 = .ok (.invokestatic 99, 3) := by decide +kernel
theorem dX9_noticesIn_9 : decode cX9_noticesIn 9 = .ok (.ifCond .eq 18, 3) := by decide +kernel
theorem dX9_noticesIn_12 : decode cX9_noticesIn 12 = .ok (.aload_n 0, 1) := by decide +kernel
theorem dX9_noticesIn_13 : decode cX9_noticesIn 13 = .ok (.iload_n 1, 1) := by decide +kernel
theorem dX9_noticesIn_14 : decode cX9_noticesIn 14 = .ok (.aload_n 0, 1) := by decide +kernel
theorem dX9_noticesIn_15 : decode cX9_noticesIn 15 = .ok (.getfield 7, 3) := by decide +kernel
theorem dX9_noticesIn_18 : decode cX9_noticesIn 18 = .ok (.bipush 71, 2) := by decide +kernel
theorem dX9_noticesIn_20 : decode cX9_noticesIn 20 = .ok (.iaload, 1) := by decide +kernel
theorem dX9_noticesIn_21 : decode cX9_noticesIn 21 = .ok (.invokevirtual 135, 3) := by decide +kernel
theorem dX9_noticesIn_24 : decode cX9_noticesIn 24 = .ok (.goto 8, 3) := by decide +kernel
theorem dX9_noticesIn_27 : decode cX9_noticesIn 27 = .ok (.aload_n 0, 1) := by decide +kernel
theorem dX9_noticesIn_28 : decode cX9_noticesIn 28 = .ok (.iconst 1, 1) := by decide +kernel
theorem dX9_noticesIn_29 : decode cX9_noticesIn 29 = .ok (.invokevirtual 45, 3) := by decide +kernel
theorem dX9_noticesIn_32 : decode cX9_noticesIn 32 = .ok (.ireturn, 1) := by decide +kernel
theorem dX9_hasNotice_0 : decode cX9_hasNotice 0 = .ok (.iconst 0, 1) := by decide +kernel
theorem dX9_hasNotice_1 : decode cX9_hasNotice 1 = .ok (.istore_n 3, 1) := by decide +kernel
theorem dX9_hasNotice_2 : decode cX9_hasNotice 2 = .ok (.iload_n 2, 1) := by decide +kernel
theorem dX9_hasNotice_3 : decode cX9_hasNotice 3 = .ok (.istore 4, 2) := by decide +kernel
theorem dX9_hasNotice_5 : decode cX9_hasNotice 5 = .ok (.iload 4, 2) := by decide +kernel
theorem dX9_hasNotice_7 : decode cX9_hasNotice 7 = .ok (.aload_n 0, 1) := by decide +kernel
theorem dX9_hasNotice_8 : decode cX9_hasNotice 8 = .ok (.getfield 7, 3) := by decide +kernel
theorem dX9_hasNotice_11 : decode cX9_hasNotice 11 = .ok (.bipush 75, 2) := by decide +kernel
theorem dX9_hasNotice_13 : decode cX9_hasNotice 13 = .ok (.iaload, 1) := by decide +kernel
theorem dX9_hasNotice_14 : decode cX9_hasNotice 14 = .ok (.if_icmp .ge 33, 3) := by decide +kernel
theorem dX9_hasNotice_17 : decode cX9_hasNotice 17 = .ok (.iload_n 3, 1) := by decide +kernel
theorem dX9_hasNotice_18 : decode cX9_hasNotice 18 = .ok (.ifCond .ne 17, 3) := by decide +kernel
theorem dX9_hasNotice_21 : decode cX9_hasNotice 21 = .ok (.aload_n 0, 1) := by decide +kernel
theorem dX9_hasNotice_22 : decode cX9_hasNotice 22 = .ok (.getfield 7, 3) := by decide +kernel
theorem dX9_hasNotice_25 : decode cX9_hasNotice 25 = .ok (.bipush 92, 2) := by decide +kernel
theorem dX9_hasNotice_27 : decode cX9_hasNotice 27 = .ok (.iload 4, 2) := by decide +kernel
theorem dX9_hasNotice_29 : decode cX9_hasNotice 29 = .ok (.iadd, 1) := by decide +kernel
theorem dX9_hasNotice_30 : decode cX9_hasNotice 30 = .ok (.iaload, 1) := by decide +kernel
theorem dX9_hasNotice_31 : decode cX9_hasNotice 31 = .ok (.iload_n 1, 1) := by decide +kernel
theorem dX9_hasNotice_32 : decode cX9_hasNotice 32 = .ok (.if_icmp .ne 7, 3) := by decide +kernel
theorem dX9_hasNotice_35 : decode cX9_hasNotice 35 = .ok (.iconst 1, 1) := by decide +kernel
theorem dX9_hasNotice_36 : decode cX9_hasNotice 36 = .ok (.goto 4, 3) := by decide +kernel
theorem dX9_hasNotice_39 : decode cX9_hasNotice 39 = .ok (.iconst 0, 1) := by decide +kernel
theorem dX9_hasNotice_40 : decode cX9_hasNotice 40 = .ok (.istore_n 3, 1) := by decide +kernel
theorem dX9_hasNotice_41 : decode cX9_hasNotice 41 = .ok (.iinc 4 1, 3) := by decide +kernel
theorem dX9_hasNotice_44 : decode cX9_hasNotice 44 = .ok (.goto (-39), 3) := by decide +kernel
theorem dX9_hasNotice_47 : decode cX9_hasNotice 47 = .ok (.iload_n 3, 1) := by decide +kernel
theorem dX9_hasNotice_48 : decode cX9_hasNotice 48 = .ok (.ireturn, 1) := by decide +kernel
theorem dX9_ticksToNotice_0 : decode cX9_ticksToNotice 0 = .ok (.aload_n 0, 1) := by decide +kernel
theorem dX9_ticksToNotice_1 : decode cX9_ticksToNotice 1 = .ok (.iconst 0, 1) := by decide +kernel
theorem dX9_ticksToNotice_2 : decode cX9_ticksToNotice 2 = .ok (.putfield 34, 3) := by decide +kernel
theorem dX9_ticksToNotice_5 : decode cX9_ticksToNotice 5 = .ok (.iload_n 1, 1) := by decide +kernel
theorem dX9_ticksToNotice_6 : decode cX9_ticksToNotice 6 = .ok (.invokestatic 89, 3) := by decide +kernel
theorem dX9_ticksToNotice_9 : decode cX9_ticksToNotice 9 = .ok (.ifCond .ne 9, 3) := by decide +kernel
theorem dX9_ticksToNotice_12 : decode cX9_ticksToNotice 12 = .ok (.aload_n 0, 1) := by decide +kernel
theorem dX9_ticksToNotice_13 : decode cX9_ticksToNotice 13 = .ok (.iconst 1, 1) := by decide +kernel
theorem dX9_ticksToNotice_14 : decode cX9_ticksToNotice 14 = .ok (.invokevirtual 45, 3) := by decide +kernel
theorem dX9_ticksToNotice_17 : decode cX9_ticksToNotice 17 = .ok (.ireturn, 1) := by decide +kernel
theorem dX9_ticksToNotice_18 : decode cX9_ticksToNotice 18 = .ok (.aload_n 0, 1) := by decide +kernel
theorem dX9_ticksToNotice_19 : decode cX9_ticksToNotice 19 = .ok (.invokevirtual 129, 3) := by decide +kernel
theorem dX9_ticksToNotice_22 : decode cX9_ticksToNotice 22 = .ok (.aload_n 0, 1) := by decide +kernel
theorem dX9_ticksToNotice_23 : decode cX9_ticksToNotice 23 = .ok (.getfield 7, 3) := by decide +kernel
theorem dX9_ticksToNotice_26 : decode cX9_ticksToNotice 26 = .ok (.bipush 75, 2) := by decide +kernel
theorem dX9_ticksToNotice_28 : decode cX9_ticksToNotice 28 = .ok (.iaload, 1) := by decide +kernel
theorem dX9_ticksToNotice_29 : decode cX9_ticksToNotice 29 = .ok (.istore_n 2, 1) := by decide +kernel
theorem dX9_ticksToNotice_30 : decode cX9_ticksToNotice 30 = .ok (.iconst 0, 1) := by decide +kernel
theorem dX9_ticksToNotice_31 : decode cX9_ticksToNotice 31 = .ok (.istore_n 3, 1) := by decide +kernel
theorem dX9_ticksToNotice_32 : decode cX9_ticksToNotice 32 = .ok (.iload_n 3, 1) := by decide +kernel
theorem dX9_ticksToNotice_33 : decode cX9_ticksToNotice 33 = .ok (.sipush 200, 3) := by decide +kernel
theorem dX9_ticksToNotice_36 : decode cX9_ticksToNotice 36 = .ok (.if_icmp .ge 22, 3) := by decide +kernel
theorem dX9_ticksToNotice_39 : decode cX9_ticksToNotice 39 = .ok (.aload_n 0, 1) := by decide +kernel
theorem dX9_ticksToNotice_40 : decode cX9_ticksToNotice 40 = .ok (.iload_n 1, 1) := by decide +kernel
theorem dX9_ticksToNotice_41 : decode cX9_ticksToNotice 41 = .ok (.iload_n 2, 1) := by decide +kernel
theorem dX9_ticksToNotice_42 : decode cX9_ticksToNotice 42 = .ok (.invokevirtual 138, 3) := by decide +kernel
theorem dX9_ticksToNotice_45 : decode cX9_ticksToNotice 45 = .ok (.ifCond .ne 13, 3) := by decide +kernel
theorem dX9_ticksToNotice_48 : decode cX9_ticksToNotice 48 = .ok (.aload_n 0, 1) := by decide +kernel
theorem dX9_ticksToNotice_49 : decode cX9_ticksToNotice 49 = .ok (.invokevirtual 86, 3) := by decide +kernel
theorem dX9_ticksToNotice_52 : decode cX9_ticksToNotice 52 = .ok (.iinc 3 1, 3) := by decide +kernel
theorem dX9_ticksToNotice_55 : decode cX9_ticksToNotice 55 = .ok (.goto (-23), 3) := by decide +kernel
theorem dX9_ticksToNotice_58 : decode cX9_ticksToNotice 58 = .ok (.aload_n 0, 1) := by decide +kernel
theorem dX9_ticksToNotice_59 : decode cX9_ticksToNotice 59 = .ok (.iload_n 1, 1) := by decide +kernel
theorem dX9_ticksToNotice_60 : decode cX9_ticksToNotice 60 = .ok (.iload_n 2, 1) := by decide +kernel
theorem dX9_ticksToNotice_61 : decode cX9_ticksToNotice 61 = .ok (.invokevirtual 138, 3) := by decide +kernel
theorem dX9_ticksToNotice_64 : decode cX9_ticksToNotice 64 = .ok (.istore 4, 2) := by decide +kernel
theorem dX9_ticksToNotice_66 : decode cX9_ticksToNotice 66 = .ok (.aload_n 0, 1) := by decide +kernel
theorem dX9_ticksToNotice_67 : decode cX9_ticksToNotice 67 = .ok (.invokevirtual 132, 3) := by decide +kernel
theorem dX9_ticksToNotice_70 : decode cX9_ticksToNotice 70 = .ok (.iload 4, 2) := by decide +kernel
theorem dX9_ticksToNotice_72 : decode cX9_ticksToNotice 72 = .ok (.ifCond .eq 7, 3) := by decide +kernel
theorem dX9_ticksToNotice_75 : decode cX9_ticksToNotice 75 = .ok (.iload_n 3, 1) := by decide +kernel
theorem dX9_ticksToNotice_76 : decode cX9_ticksToNotice 76 = .ok (.goto 4, 3) := by decide +kernel
theorem dX9_ticksToNotice_79 : decode cX9_ticksToNotice 79 = .ok (.iconst (-1), 1) := by decide +kernel
theorem dX9_ticksToNotice_80 : decode cX9_ticksToNotice 80 = .ok (.ireturn, 1) := by decide +kernel
theorem dX9_mildLimit_0 : decode cX9_mildLimit 0 = .ok (.aload_n 0, 1) := by decide +kernel
theorem dX9_mildLimit_1 : decode cX9_mildLimit 1 = .ok (.iconst 0, 1) := by decide +kernel
theorem dX9_mildLimit_2 : decode cX9_mildLimit 2 = .ok (.putfield 34, 3) := by decide +kernel
theorem dX9_mildLimit_5 : decode cX9_mildLimit 5 = .ok (.iload_n 1, 1) := by decide +kernel
theorem dX9_mildLimit_6 : decode cX9_mildLimit 6 = .ok (.invokestatic 99, 3) := by decide +kernel
theorem dX9_mildLimit_9 : decode cX9_mildLimit 9 = .ok (.ifCond .ne 9, 3) := by decide +kernel
theorem dX9_mildLimit_12 : decode cX9_mildLimit 12 = .ok (.aload_n 0, 1) := by decide +kernel
theorem dX9_mildLimit_13 : decode cX9_mildLimit 13 = .ok (.iconst 1, 1) := by decide +kernel
theorem dX9_mildLimit_14 : decode cX9_mildLimit 14 = .ok (.invokevirtual 45, 3) := by decide +kernel
theorem dX9_mildLimit_17 : decode cX9_mildLimit 17 = .ok (.ireturn, 1) := by decide +kernel
theorem dX9_mildLimit_18 : decode cX9_mildLimit 18 = .ok (.iconst (-1), 1) := by decide +kernel
theorem dX9_mildLimit_19 : decode cX9_mildLimit 19 = .ok (.istore_n 2, 1) := by decide +kernel
theorem dX9_mildLimit_20 : decode cX9_mildLimit 20 = .ok (.iconst 5, 1) := by decide +kernel
theorem dX9_mildLimit_21 : decode cX9_mildLimit 21 = .ok (.istore_n 3, 1) := by decide +kernel
theorem dX9_mildLimit_22 : decode cX9_mildLimit 22 = .ok (.iload_n 3, 1) := by decide +kernel
theorem dX9_mildLimit_23 : decode cX9_mildLimit 23 = .ok (.ifCond .le 24, 3) := by decide +kernel
theorem dX9_mildLimit_26 : decode cX9_mildLimit 26 = .ok (.aload_n 0, 1) := by decide +kernel
theorem dX9_mildLimit_27 : decode cX9_mildLimit 27 = .ok (.iload_n 1, 1) := by decide +kernel
theorem dX9_mildLimit_28 : decode cX9_mildLimit 28 = .ok (.iload_n 3, 1) := by decide +kernel
theorem dX9_mildLimit_29 : decode cX9_mildLimit 29 = .ok (.invokevirtual 135, 3) := by decide +kernel
theorem dX9_mildLimit_32 : decode cX9_mildLimit 32 = .ok (.ifCond .ne 7, 3) := by decide +kernel
theorem dX9_mildLimit_35 : decode cX9_mildLimit 35 = .ok (.iload_n 3, 1) := by decide +kernel
theorem dX9_mildLimit_36 : decode cX9_mildLimit 36 = .ok (.goto 4, 3) := by decide +kernel
theorem dX9_mildLimit_39 : decode cX9_mildLimit 39 = .ok (.iload_n 2, 1) := by decide +kernel
theorem dX9_mildLimit_40 : decode cX9_mildLimit 40 = .ok (.istore_n 2, 1) := by decide +kernel
theorem dX9_mildLimit_41 : decode cX9_mildLimit 41 = .ok (.iinc 3 (-1), 3) := by decide +kernel
theorem dX9_mildLimit_44 : decode cX9_mildLimit 44 = .ok (.goto (-22), 3) := by decide +kernel
theorem dX9_mildLimit_47 : decode cX9_mildLimit 47 = .ok (.iload_n 2, 1) := by decide +kernel
theorem dX9_mildLimit_48 : decode cX9_mildLimit 48 = .ok (.ireturn, 1) := by decide +kernel
theorem dX9_howMany_0 : decode cX9_howMany 0 = .ok (.iconst 0, 1) := by decide +kernel
theorem dX9_howMany_1 : decode cX9_howMany 1 = .ok (.istore_n 2, 1) := by decide +kernel
theorem dX9_howMany_2 : decode cX9_howMany 2 = .ok (.iconst 0, 1) := by decide +kernel
theorem dX9_howMany_3 : decode cX9_howMany 3 = .ok (.istore_n 3, 1) := by decide +kernel
theorem dX9_howMany_4 : decode cX9_howMany 4 = .ok (.iconst 1, 1) := by decide +kernel
theorem dX9_howMany_5 : decode cX9_howMany 5 = .ok (.istore 4, 2) := by decide +kernel
theorem dX9_howMany_7 : decode cX9_howMany 7 = .ok (.iconst 0, 1) := by decide +kernel
theorem dX9_howMany_8 : decode cX9_howMany 8 = .ok (.istore 5, 2) := by decide +kernel
theorem dX9_howMany_10 : decode cX9_howMany 10 = .ok (.iload 5, 2) := by decide +kernel
theorem dX9_howMany_12 : decode cX9_howMany 12 = .ok (.bipush 64, 2) := by decide +kernel
theorem dX9_howMany_14 : decode cX9_howMany 14 = .ok (.if_icmp .ge 83, 3) := by decide +kernel
theorem dX9_howMany_17 : decode cX9_howMany 17 = .ok (.lload_n 0, 1) := by decide +kernel
theorem dX9_howMany_18 : decode cX9_howMany 18 = .ok (.iload 5, 2) := by decide +kernel
theorem dX9_howMany_20 : decode cX9_howMany 20 = .ok (.lushr, 1) := by decide +kernel
theorem dX9_howMany_21 : decode cX9_howMany 21 = .ok (.l2i, 1) := by decide +kernel
theorem dX9_howMany_22 : decode cX9_howMany 22 = .ok (.sipush 255, 3) := by decide +kernel
theorem dX9_howMany_25 : decode cX9_howMany 25 = .ok (.iand, 1) := by decide +kernel
theorem dX9_howMany_26 : decode cX9_howMany 26 = .ok (.istore 6, 2) := by decide +kernel
theorem dX9_howMany_28 : decode cX9_howMany 28 = .ok (.iload_n 3, 1) := by decide +kernel
theorem dX9_howMany_29 : decode cX9_howMany 29 = .ok (.ifCond .ne 8, 3) := by decide +kernel
theorem dX9_howMany_32 : decode cX9_howMany 32 = .ok (.iload 6, 2) := by decide +kernel
theorem dX9_howMany_34 : decode cX9_howMany 34 = .ok (.ifCond .ne 7, 3) := by decide +kernel
theorem dX9_howMany_37 : decode cX9_howMany 37 = .ok (.iconst 1, 1) := by decide +kernel
theorem dX9_howMany_38 : decode cX9_howMany 38 = .ok (.goto 4, 3) := by decide +kernel
theorem dX9_howMany_41 : decode cX9_howMany 41 = .ok (.iconst 0, 1) := by decide +kernel
theorem dX9_howMany_42 : decode cX9_howMany 42 = .ok (.istore_n 3, 1) := by decide +kernel
theorem dX9_howMany_43 : decode cX9_howMany 43 = .ok (.iload 4, 2) := by decide +kernel
theorem dX9_howMany_45 : decode cX9_howMany 45 = .ok (.ifCond .eq 31, 3) := by decide +kernel
theorem dX9_howMany_48 : decode cX9_howMany 48 = .ok (.iload_n 3, 1) := by decide +kernel
theorem dX9_howMany_49 : decode cX9_howMany 49 = .ok (.ifCond .eq 11, 3) := by decide +kernel
theorem dX9_howMany_52 : decode cX9_howMany 52 = .ok (.iload 6, 2) := by decide +kernel
theorem dX9_howMany_54 : decode cX9_howMany 54 = .ok (.ifCond .ne 22, 3) := by decide +kernel
theorem dX9_howMany_57 : decode cX9_howMany 57 = .ok (.goto 15, 3) := by decide +kernel
theorem dX9_howMany_60 : decode cX9_howMany 60 = .ok (.iload 6, 2) := by decide +kernel
theorem dX9_howMany_62 : decode cX9_howMany 62 = .ok (.bipush 33, 2) := by decide +kernel
theorem dX9_howMany_64 : decode cX9_howMany 64 = .ok (.bipush 126, 2) := by decide +kernel
theorem dX9_howMany_66 : decode cX9_howMany 66 = .ok (.invokestatic 38, 3) := by decide +kernel
theorem dX9_howMany_69 : decode cX9_howMany 69 = .ok (.ifCond .eq 7, 3) := by decide +kernel
theorem dX9_howMany_72 : decode cX9_howMany 72 = .ok (.iconst 1, 1) := by decide +kernel
theorem dX9_howMany_73 : decode cX9_howMany 73 = .ok (.goto 4, 3) := by decide +kernel
theorem dX9_howMany_76 : decode cX9_howMany 76 = .ok (.iconst 0, 1) := by decide +kernel
theorem dX9_howMany_77 : decode cX9_howMany 77 = .ok (.istore 4, 2) := by decide +kernel
theorem dX9_howMany_79 : decode cX9_howMany 79 = .ok (.iload_n 2, 1) := by decide +kernel
theorem dX9_howMany_80 : decode cX9_howMany 80 = .ok (.iload_n 3, 1) := by decide +kernel
theorem dX9_howMany_81 : decode cX9_howMany 81 = .ok (.ifCond .eq 7, 3) := by decide +kernel
theorem dX9_howMany_84 : decode cX9_howMany 84 = .ok (.iconst 0, 1) := by decide +kernel
theorem dX9_howMany_85 : decode cX9_howMany 85 = .ok (.goto 4, 3) := by decide +kernel
theorem dX9_howMany_88 : decode cX9_howMany 88 = .ok (.iconst 1, 1) := by decide +kernel
theorem dX9_howMany_89 : decode cX9_howMany 89 = .ok (.iadd, 1) := by decide +kernel
theorem dX9_howMany_90 : decode cX9_howMany 90 = .ok (.istore_n 2, 1) := by decide +kernel
theorem dX9_howMany_91 : decode cX9_howMany 91 = .ok (.iinc 5 8, 3) := by decide +kernel
theorem dX9_howMany_94 : decode cX9_howMany 94 = .ok (.goto (-84), 3) := by decide +kernel
theorem dX9_howMany_97 : decode cX9_howMany 97 = .ok (.iload 4, 2) := by decide +kernel
theorem dX9_howMany_99 : decode cX9_howMany 99 = .ok (.ifCond .eq 7, 3) := by decide +kernel
theorem dX9_howMany_102 : decode cX9_howMany 102 = .ok (.iload_n 2, 1) := by decide +kernel
theorem dX9_howMany_103 : decode cX9_howMany 103 = .ok (.goto 4, 3) := by decide +kernel
theorem dX9_howMany_106 : decode cX9_howMany 106 = .ok (.iconst 0, 1) := by decide +kernel
theorem dX9_howMany_107 : decode cX9_howMany 107 = .ok (.ireturn, 1) := by decide +kernel
theorem dX9_put_0 : decode cX9_put 0 = .ok (.aload_n 0, 1) := by decide +kernel
theorem dX9_put_1 : decode cX9_put 1 = .ok (.iconst 0, 1) := by decide +kernel
theorem dX9_put_2 : decode cX9_put 2 = .ok (.putfield 34, 3) := by decide +kernel
theorem dX9_put_5 : decode cX9_put 5 = .ok (.lload_n 1, 1) := by decide +kernel
theorem dX9_put_6 : decode cX9_put 6 = .ok (.invokestatic 142, 3) := by decide +kernel
theorem dX9_put_9 : decode cX9_put 9 = .ok (.istore_n 3, 1) := by decide +kernel
theorem dX9_put_10 : decode cX9_put 10 = .ok (.iload_n 3, 1) := by decide +kernel
theorem dX9_put_11 : decode cX9_put 11 = .ok (.ifCond .ne 9, 3) := by decide +kernel
theorem dX9_put_14 : decode cX9_put 14 = .ok (.aload_n 0, 1) := by decide +kernel
theorem dX9_put_15 : decode cX9_put 15 = .ok (.iconst 1, 1) := by decide +kernel
theorem dX9_put_16 : decode cX9_put 16 = .ok (.invokevirtual 45, 3) := by decide +kernel
theorem dX9_put_19 : decode cX9_put 19 = .ok (.ireturn, 1) := by decide +kernel
theorem dX9_put_20 : decode cX9_put 20 = .ok (.aload_n 0, 1) := by decide +kernel
theorem dX9_put_21 : decode cX9_put 21 = .ok (.getfield 146, 3) := by decide +kernel
theorem dX9_put_24 : decode cX9_put 24 = .ok (.iload_n 3, 1) := by decide +kernel
theorem dX9_put_25 : decode cX9_put 25 = .ok (.iadd, 1) := by decide +kernel
theorem dX9_put_26 : decode cX9_put 26 = .ok (.bipush 60, 2) := by decide +kernel
theorem dX9_put_28 : decode cX9_put 28 = .ok (.if_icmp .le 9, 3) := by decide +kernel
theorem dX9_put_31 : decode cX9_put 31 = .ok (.aload_n 0, 1) := by decide +kernel
theorem dX9_put_32 : decode cX9_put 32 = .ok (.iconst 2, 1) := by decide +kernel
theorem dX9_put_33 : decode cX9_put 33 = .ok (.invokevirtual 45, 3) := by decide +kernel
theorem dX9_put_36 : decode cX9_put 36 = .ok (.ireturn, 1) := by decide +kernel
theorem dX9_put_37 : decode cX9_put 37 = .ok (.bipush 8, 2) := by decide +kernel
theorem dX9_put_39 : decode cX9_put 39 = .ok (.iload_n 3, 1) := by decide +kernel
theorem dX9_put_40 : decode cX9_put 40 = .ok (.imul, 1) := by decide +kernel
theorem dX9_put_41 : decode cX9_put 41 = .ok (.bipush 8, 2) := by decide +kernel
theorem dX9_put_43 : decode cX9_put 43 = .ok (.isub, 1) := by decide +kernel
theorem dX9_put_44 : decode cX9_put 44 = .ok (.istore 4, 2) := by decide +kernel
theorem dX9_put_46 : decode cX9_put 46 = .ok (.iload 4, 2) := by decide +kernel
theorem dX9_put_48 : decode cX9_put 48 = .ok (.ifCond .lt 37, 3) := by decide +kernel
theorem dX9_put_51 : decode cX9_put 51 = .ok (.aload_n 0, 1) := by decide +kernel
theorem dX9_put_52 : decode cX9_put 52 = .ok (.getfield 25, 3) := by decide +kernel
theorem dX9_put_55 : decode cX9_put 55 = .ok (.aload_n 0, 1) := by decide +kernel
theorem dX9_put_56 : decode cX9_put 56 = .ok (.getfield 146, 3) := by decide +kernel
theorem dX9_put_59 : decode cX9_put 59 = .ok (.lload_n 1, 1) := by decide +kernel
theorem dX9_put_60 : decode cX9_put 60 = .ok (.iload 4, 2) := by decide +kernel
theorem dX9_put_62 : decode cX9_put 62 = .ok (.lushr, 1) := by decide +kernel
theorem dX9_put_63 : decode cX9_put 63 = .ok (.l2i, 1) := by decide +kernel
theorem dX9_put_64 : decode cX9_put 64 = .ok (.sipush 255, 3) := by decide +kernel
theorem dX9_put_67 : decode cX9_put 67 = .ok (.iand, 1) := by decide +kernel
theorem dX9_put_68 : decode cX9_put 68 = .ok (.iastore, 1) := by decide +kernel
theorem dX9_put_69 : decode cX9_put 69 = .ok (.aload_n 0, 1) := by decide +kernel
theorem dX9_put_70 : decode cX9_put 70 = .ok (.dup, 1) := by decide +kernel
theorem dX9_put_71 : decode cX9_put 71 = .ok (.getfield 146, 3) := by decide +kernel
theorem dX9_put_74 : decode cX9_put 74 = .ok (.iconst 1, 1) := by decide +kernel
theorem dX9_put_75 : decode cX9_put 75 = .ok (.iadd, 1) := by decide +kernel
theorem dX9_put_76 : decode cX9_put 76 = .ok (.putfield 146, 3) := by decide +kernel
theorem dX9_put_79 : decode cX9_put 79 = .ok (.iinc 4 (-8), 3) := by decide +kernel
theorem dX9_put_82 : decode cX9_put 82 = .ok (.goto (-36), 3) := by decide +kernel
theorem dX9_put_85 : decode cX9_put 85 = .ok (.aload_n 0, 1) := by decide +kernel
theorem dX9_put_86 : decode cX9_put 86 = .ok (.getfield 146, 3) := by decide +kernel
theorem dX9_put_89 : decode cX9_put 89 = .ok (.ireturn, 1) := by decide +kernel
theorem dX9_wipe_0 : decode cX9_wipe 0 = .ok (.aload_n 0, 1) := by decide +kernel
theorem dX9_wipe_1 : decode cX9_wipe 1 = .ok (.iconst 0, 1) := by decide +kernel
theorem dX9_wipe_2 : decode cX9_wipe 2 = .ok (.putfield 34, 3) := by decide +kernel
theorem dX9_wipe_5 : decode cX9_wipe 5 = .ok (.aload_n 0, 1) := by decide +kernel
theorem dX9_wipe_6 : decode cX9_wipe 6 = .ok (.getfield 146, 3) := by decide +kernel
theorem dX9_wipe_9 : decode cX9_wipe 9 = .ok (.istore_n 1, 1) := by decide +kernel
theorem dX9_wipe_10 : decode cX9_wipe 10 = .ok (.aload_n 0, 1) := by decide +kernel
theorem dX9_wipe_11 : decode cX9_wipe 11 = .ok (.iconst 0, 1) := by decide +kernel
theorem dX9_wipe_12 : decode cX9_wipe 12 = .ok (.putfield 146, 3) := by decide +kernel
theorem dX9_wipe_15 : decode cX9_wipe 15 = .ok (.iload_n 1, 1) := by decide +kernel
theorem dX9_wipe_16 : decode cX9_wipe 16 = .ok (.ireturn, 1) := by decide +kernel
theorem dX9_padLength_0 : decode cX9_padLength 0 = .ok (.aload_n 0, 1) := by decide +kernel
theorem dX9_padLength_1 : decode cX9_padLength 1 = .ok (.iconst 0, 1) := by decide +kernel
theorem dX9_padLength_2 : decode cX9_padLength 2 = .ok (.putfield 34, 3) := by decide +kernel
theorem dX9_padLength_5 : decode cX9_padLength 5 = .ok (.aload_n 0, 1) := by decide +kernel
theorem dX9_padLength_6 : decode cX9_padLength 6 = .ok (.getfield 146, 3) := by decide +kernel
theorem dX9_padLength_9 : decode cX9_padLength 9 = .ok (.ireturn, 1) := by decide +kernel
theorem dX9_takes_0 : decode cX9_takes 0 = .ok (.aload_n 0, 1) := by decide +kernel
theorem dX9_takes_1 : decode cX9_takes 1 = .ok (.getfield 149, 3) := by decide +kernel
theorem dX9_takes_4 : decode cX9_takes 4 = .ok (.aload_n 0, 1) := by decide +kernel
theorem dX9_takes_5 : decode cX9_takes 5 = .ok (.getfield 146, 3) := by decide +kernel
theorem dX9_takes_8 : decode cX9_takes 8 = .ok (.if_icmp .eq 16, 3) := by decide +kernel
theorem dX9_takes_11 : decode cX9_takes 11 = .ok (.aload_n 0, 1) := by decide +kernel
theorem dX9_takes_12 : decode cX9_takes 12 = .ok (.getfield 25, 3) := by decide +kernel
theorem dX9_takes_15 : decode cX9_takes 15 = .ok (.aload_n 0, 1) := by decide +kernel
theorem dX9_takes_16 : decode cX9_takes 16 = .ok (.getfield 149, 3) := by decide +kernel
theorem dX9_takes_19 : decode cX9_takes 19 = .ok (.iaload, 1) := by decide +kernel
theorem dX9_takes_20 : decode cX9_takes 20 = .ok (.iload_n 1, 1) := by decide +kernel
theorem dX9_takes_21 : decode cX9_takes 21 = .ok (.if_icmp .eq 5, 3) := by decide +kernel
theorem dX9_takes_24 : decode cX9_takes 24 = .ok (.iconst 0, 1) := by decide +kernel
theorem dX9_takes_25 : decode cX9_takes 25 = .ok (.ireturn, 1) := by decide +kernel
theorem dX9_takes_26 : decode cX9_takes 26 = .ok (.aload_n 0, 1) := by decide +kernel
theorem dX9_takes_27 : decode cX9_takes 27 = .ok (.dup, 1) := by decide +kernel
theorem dX9_takes_28 : decode cX9_takes 28 = .ok (.getfield 149, 3) := by decide +kernel
theorem dX9_takes_31 : decode cX9_takes 31 = .ok (.iconst 1, 1) := by decide +kernel
theorem dX9_takes_32 : decode cX9_takes 32 = .ok (.iadd, 1) := by decide +kernel
theorem dX9_takes_33 : decode cX9_takes 33 = .ok (.putfield 149, 3) := by decide +kernel
theorem dX9_takes_36 : decode cX9_takes 36 = .ok (.iconst 1, 1) := by decide +kernel
theorem dX9_takes_37 : decode cX9_takes 37 = .ok (.ireturn, 1) := by decide +kernel
theorem dX9_upTo_0 : decode cX9_upTo 0 = .ok (.iconst 0, 1) := by decide +kernel
theorem dX9_upTo_1 : decode cX9_upTo 1 = .ok (.istore_n 2, 1) := by decide +kernel
theorem dX9_upTo_2 : decode cX9_upTo 2 = .ok (.aload_n 0, 1) := by decide +kernel
theorem dX9_upTo_3 : decode cX9_upTo 3 = .ok (.iconst 0, 1) := by decide +kernel
theorem dX9_upTo_4 : decode cX9_upTo 4 = .ok (.putfield 152, 3) := by decide +kernel
theorem dX9_upTo_7 : decode cX9_upTo 7 = .ok (.aload_n 0, 1) := by decide +kernel
theorem dX9_upTo_8 : decode cX9_upTo 8 = .ok (.getfield 149, 3) := by decide +kernel
theorem dX9_upTo_11 : decode cX9_upTo 11 = .ok (.aload_n 0, 1) := by decide +kernel
theorem dX9_upTo_12 : decode cX9_upTo 12 = .ok (.getfield 146, 3) := by decide +kernel
theorem dX9_upTo_15 : decode cX9_upTo 15 = .ok (.if_icmp .ge 97, 3) := by decide +kernel
theorem dX9_upTo_18 : decode cX9_upTo 18 = .ok (.aload_n 0, 1) := by decide +kernel
theorem dX9_upTo_19 : decode cX9_upTo 19 = .ok (.getfield 25, 3) := by decide +kernel
theorem dX9_upTo_22 : decode cX9_upTo 22 = .ok (.aload_n 0, 1) := by decide +kernel
theorem dX9_upTo_23 : decode cX9_upTo 23 = .ok (.getfield 149, 3) := by decide +kernel
theorem dX9_upTo_26 : decode cX9_upTo 26 = .ok (.iaload, 1) := by decide +kernel
theorem dX9_upTo_27 : decode cX9_upTo 27 = .ok (.bipush 48, 2) := by decide +kernel
theorem dX9_upTo_29 : decode cX9_upTo 29 = .ok (.bipush 57, 2) := by decide +kernel
theorem dX9_upTo_31 : decode cX9_upTo 31 = .ok (.invokestatic 38, 3) := by decide +kernel
theorem dX9_upTo_34 : decode cX9_upTo 34 = .ok (.ifCond .eq 78, 3) := by decide +kernel
theorem dX9_upTo_37 : decode cX9_upTo 37 = .ok (.iload_n 2, 1) := by decide +kernel
theorem dX9_upTo_38 : decode cX9_upTo 38 = .ok (.ifCond .eq 10, 3) := by decide +kernel
theorem dX9_upTo_41 : decode cX9_upTo 41 = .ok (.aload_n 0, 1) := by decide +kernel
theorem dX9_upTo_42 : decode cX9_upTo 42 = .ok (.getfield 152, 3) := by decide +kernel
theorem dX9_upTo_45 : decode cX9_upTo 45 = .ok (.ifCond .le 67, 3) := by decide +kernel
theorem dX9_upTo_48 : decode cX9_upTo 48 = .ok (.bipush 10, 2) := by decide +kernel
theorem dX9_upTo_50 : decode cX9_upTo 50 = .ok (.aload_n 0, 1) := by decide +kernel
theorem dX9_upTo_51 : decode cX9_upTo 51 = .ok (.getfield 152, 3) := by decide +kernel
theorem dX9_upTo_54 : decode cX9_upTo 54 = .ok (.imul, 1) := by decide +kernel
theorem dX9_upTo_55 : decode cX9_upTo 55 = .ok (.aload_n 0, 1) := by decide +kernel
theorem dX9_upTo_56 : decode cX9_upTo 56 = .ok (.getfield 25, 3) := by decide +kernel
theorem dX9_upTo_59 : decode cX9_upTo 59 = .ok (.aload_n 0, 1) := by decide +kernel
theorem dX9_upTo_60 : decode cX9_upTo 60 = .ok (.getfield 149, 3) := by decide +kernel
theorem dX9_upTo_63 : decode cX9_upTo 63 = .ok (.iaload, 1) := by decide +kernel
theorem dX9_upTo_64 : decode cX9_upTo 64 = .ok (.iadd, 1) := by decide +kernel
theorem dX9_upTo_65 : decode cX9_upTo 65 = .ok (.bipush 48, 2) := by decide +kernel
theorem dX9_upTo_67 : decode cX9_upTo 67 = .ok (.isub, 1) := by decide +kernel
theorem dX9_upTo_68 : decode cX9_upTo 68 = .ok (.iload_n 1, 1) := by decide +kernel
theorem dX9_upTo_69 : decode cX9_upTo 69 = .ok (.if_icmp .gt 43, 3) := by decide +kernel
theorem dX9_upTo_72 : decode cX9_upTo 72 = .ok (.aload_n 0, 1) := by decide +kernel
theorem dX9_upTo_73 : decode cX9_upTo 73 = .ok (.bipush 10, 2) := by decide +kernel
theorem dX9_upTo_75 : decode cX9_upTo 75 = .ok (.aload_n 0, 1) := by decide +kernel
theorem dX9_upTo_76 : decode cX9_upTo 76 = .ok (.getfield 152, 3) := by decide +kernel
theorem dX9_upTo_79 : decode cX9_upTo 79 = .ok (.imul, 1) := by decide +kernel
theorem dX9_upTo_80 : decode cX9_upTo 80 = .ok (.aload_n 0, 1) := by decide +kernel
theorem dX9_upTo_81 : decode cX9_upTo 81 = .ok (.getfield 25, 3) := by decide +kernel
theorem dX9_upTo_84 : decode cX9_upTo 84 = .ok (.aload_n 0, 1) := by decide +kernel
theorem dX9_upTo_85 : decode cX9_upTo 85 = .ok (.getfield 149, 3) := by decide +kernel
theorem dX9_upTo_88 : decode cX9_upTo 88 = .ok (.iaload, 1) := by decide +kernel
theorem dX9_upTo_89 : decode cX9_upTo 89 = .ok (.iadd, 1) := by decide +kernel
theorem dX9_upTo_90 : decode cX9_upTo 90 = .ok (.bipush 48, 2) := by decide +kernel
theorem dX9_upTo_92 : decode cX9_upTo 92 = .ok (.isub, 1) := by decide +kernel
theorem dX9_upTo_93 : decode cX9_upTo 93 = .ok (.putfield 152, 3) := by decide +kernel
theorem dX9_upTo_96 : decode cX9_upTo 96 = .ok (.iinc 2 1, 3) := by decide +kernel
theorem dX9_upTo_99 : decode cX9_upTo 99 = .ok (.aload_n 0, 1) := by decide +kernel
theorem dX9_upTo_100 : decode cX9_upTo 100 = .ok (.dup, 1) := by decide +kernel
theorem dX9_upTo_101 : decode cX9_upTo 101 = .ok (.getfield 149, 3) := by decide +kernel
theorem dX9_upTo_104 : decode cX9_upTo 104 = .ok (.iconst 1, 1) := by decide +kernel
theorem dX9_upTo_105 : decode cX9_upTo 105 = .ok (.iadd, 1) := by decide +kernel
theorem dX9_upTo_106 : decode cX9_upTo 106 = .ok (.putfield 149, 3) := by decide +kernel
theorem dX9_upTo_109 : decode cX9_upTo 109 = .ok (.goto (-102), 3) := by decide +kernel
theorem dX9_upTo_112 : decode cX9_upTo 112 = .ok (.iload_n 2, 1) := by decide +kernel
theorem dX9_upTo_113 : decode cX9_upTo 113 = .ok (.ifCond .le 7, 3) := by decide +kernel
theorem dX9_upTo_116 : decode cX9_upTo 116 = .ok (.iconst 1, 1) := by decide +kernel
theorem dX9_upTo_117 : decode cX9_upTo 117 = .ok (.goto 4, 3) := by decide +kernel
theorem dX9_upTo_120 : decode cX9_upTo 120 = .ok (.iconst 0, 1) := by decide +kernel
theorem dX9_upTo_121 : decode cX9_upTo 121 = .ok (.ireturn, 1) := by decide +kernel
theorem dX9_digit_0 : decode cX9_digit 0 = .ok (.aload_n 0, 1) := by decide +kernel
theorem dX9_digit_1 : decode cX9_digit 1 = .ok (.getfield 149, 3) := by decide +kernel
theorem dX9_digit_4 : decode cX9_digit 4 = .ok (.aload_n 0, 1) := by decide +kernel
theorem dX9_digit_5 : decode cX9_digit 5 = .ok (.getfield 146, 3) := by decide +kernel
theorem dX9_digit_8 : decode cX9_digit 8 = .ok (.if_icmp .eq 23, 3) := by decide +kernel
theorem dX9_digit_11 : decode cX9_digit 11 = .ok (.aload_n 0, 1) := by decide +kernel
theorem dX9_digit_12 : decode cX9_digit 12 = .ok (.getfield 25, 3) := by decide +kernel
theorem dX9_digit_15 : decode cX9_digit 15 = .ok (.aload_n 0, 1) := by decide +kernel
theorem dX9_digit_16 : decode cX9_digit 16 = .ok (.getfield 149, 3) := by decide +kernel
theorem dX9_digit_19 : decode cX9_digit 19 = .ok (.iaload, 1) := by decide +kernel
theorem dX9_digit_20 : decode cX9_digit 20 = .ok (.bipush 48, 2) := by decide +kernel
theorem dX9_digit_22 : decode cX9_digit 22 = .ok (.isub, 1) := by decide +kernel
theorem dX9_digit_23 : decode cX9_digit 23 = .ok (.iconst 0, 1) := by decide +kernel
theorem dX9_digit_24 : decode cX9_digit 24 = .ok (.iload_n 1, 1) := by decide +kernel
theorem dX9_digit_25 : decode cX9_digit 25 = .ok (.invokestatic 38, 3) := by decide +kernel
theorem dX9_digit_28 : decode cX9_digit 28 = .ok (.ifCond .ne 5, 3) := by decide +kernel
theorem dX9_digit_31 : decode cX9_digit 31 = .ok (.iconst 0, 1) := by decide +kernel
theorem dX9_digit_32 : decode cX9_digit 32 = .ok (.ireturn, 1) := by decide +kernel
theorem dX9_digit_33 : decode cX9_digit 33 = .ok (.aload_n 0, 1) := by decide +kernel
theorem dX9_digit_34 : decode cX9_digit 34 = .ok (.aload_n 0, 1) := by decide +kernel
theorem dX9_digit_35 : decode cX9_digit 35 = .ok (.getfield 25, 3) := by decide +kernel
theorem dX9_digit_38 : decode cX9_digit 38 = .ok (.aload_n 0, 1) := by decide +kernel
theorem dX9_digit_39 : decode cX9_digit 39 = .ok (.getfield 149, 3) := by decide +kernel
theorem dX9_digit_42 : decode cX9_digit 42 = .ok (.iaload, 1) := by decide +kernel
theorem dX9_digit_43 : decode cX9_digit 43 = .ok (.bipush 48, 2) := by decide +kernel
theorem dX9_digit_45 : decode cX9_digit 45 = .ok (.isub, 1) := by decide +kernel
theorem dX9_digit_46 : decode cX9_digit 46 = .ok (.putfield 152, 3) := by decide +kernel
theorem dX9_digit_49 : decode cX9_digit 49 = .ok (.aload_n 0, 1) := by decide +kernel
theorem dX9_digit_50 : decode cX9_digit 50 = .ok (.dup, 1) := by decide +kernel
theorem dX9_digit_51 : decode cX9_digit 51 = .ok (.getfield 149, 3) := by decide +kernel
theorem dX9_digit_54 : decode cX9_digit 54 = .ok (.iconst 1, 1) := by decide +kernel
theorem dX9_digit_55 : decode cX9_digit 55 = .ok (.iadd, 1) := by decide +kernel
theorem dX9_digit_56 : decode cX9_digit 56 = .ok (.putfield 149, 3) := by decide +kernel
theorem dX9_digit_59 : decode cX9_digit 59 = .ok (.iconst 1, 1) := by decide +kernel
theorem dX9_digit_60 : decode cX9_digit 60 = .ok (.ireturn, 1) := by decide +kernel
theorem dX9_pair_0 : decode cX9_pair 0 = .ok (.aload_n 0, 1) := by decide +kernel
theorem dX9_pair_1 : decode cX9_pair 1 = .ok (.iload_n 1, 1) := by decide +kernel
theorem dX9_pair_2 : decode cX9_pair 2 = .ok (.invokevirtual 155, 3) := by decide +kernel
theorem dX9_pair_5 : decode cX9_pair 5 = .ok (.istore_n 3, 1) := by decide +kernel
theorem dX9_pair_6 : decode cX9_pair 6 = .ok (.aload_n 0, 1) := by decide +kernel
theorem dX9_pair_7 : decode cX9_pair 7 = .ok (.aload_n 0, 1) := by decide +kernel
theorem dX9_pair_8 : decode cX9_pair 8 = .ok (.getfield 152, 3) := by decide +kernel
theorem dX9_pair_11 : decode cX9_pair 11 = .ok (.putfield 158, 3) := by decide +kernel
theorem dX9_pair_14 : decode cX9_pair 14 = .ok (.iload_n 3, 1) := by decide +kernel
theorem dX9_pair_15 : decode cX9_pair 15 = .ok (.ifCond .eq 15, 3) := by decide +kernel
theorem dX9_pair_18 : decode cX9_pair 18 = .ok (.aload_n 0, 1) := by decide +kernel
theorem dX9_pair_19 : decode cX9_pair 19 = .ok (.iload_n 2, 1) := by decide +kernel
theorem dX9_pair_20 : decode cX9_pair 20 = .ok (.invokevirtual 155, 3) := by decide +kernel
theorem dX9_pair_23 : decode cX9_pair 23 = .ok (.ifCond .eq 7, 3) := by decide +kernel
theorem dX9_pair_26 : decode cX9_pair 26 = .ok (.iconst 1, 1) := by decide +kernel
theorem dX9_pair_27 : decode cX9_pair 27 = .ok (.goto 4, 3) := by decide +kernel
theorem dX9_pair_30 : decode cX9_pair 30 = .ok (.iconst 0, 1) := by decide +kernel
theorem dX9_pair_31 : decode cX9_pair 31 = .ok (.istore_n 3, 1) := by decide +kernel
theorem dX9_pair_32 : decode cX9_pair 32 = .ok (.aload_n 0, 1) := by decide +kernel
theorem dX9_pair_33 : decode cX9_pair 33 = .ok (.aload_n 0, 1) := by decide +kernel
theorem dX9_pair_34 : decode cX9_pair 34 = .ok (.getfield 152, 3) := by decide +kernel
theorem dX9_pair_37 : decode cX9_pair 37 = .ok (.putfield 161, 3) := by decide +kernel
theorem dX9_pair_40 : decode cX9_pair 40 = .ok (.iload_n 3, 1) := by decide +kernel
theorem dX9_pair_41 : decode cX9_pair 41 = .ok (.ireturn, 1) := by decide +kernel
theorem dX9_part_0 : decode cX9_part 0 = .ok (.aload_n 0, 1) := by decide +kernel
theorem dX9_part_1 : decode cX9_part 1 = .ok (.getfield 149, 3) := by decide +kernel
theorem dX9_part_4 : decode cX9_part 4 = .ok (.aload_n 0, 1) := by decide +kernel
theorem dX9_part_5 : decode cX9_part 5 = .ok (.getfield 146, 3) := by decide +kernel
theorem dX9_part_8 : decode cX9_part 8 = .ok (.if_icmp .ne 5, 3) := by decide +kernel
theorem dX9_part_11 : decode cX9_part 11 = .ok (.iconst 0, 1) := by decide +kernel
theorem dX9_part_12 : decode cX9_part 12 = .ok (.ireturn, 1) := by decide +kernel
theorem dX9_part_13 : decode cX9_part 13 = .ok (.aload_n 0, 1) := by decide +kernel
theorem dX9_part_14 : decode cX9_part 14 = .ok (.aload_n 0, 1) := by decide +kernel
theorem dX9_part_15 : decode cX9_part 15 = .ok (.getfield 25, 3) := by decide +kernel
theorem dX9_part_18 : decode cX9_part 18 = .ok (.aload_n 0, 1) := by decide +kernel
theorem dX9_part_19 : decode cX9_part 19 = .ok (.getfield 149, 3) := by decide +kernel
theorem dX9_part_22 : decode cX9_part 22 = .ok (.iaload, 1) := by decide +kernel
theorem dX9_part_23 : decode cX9_part 23 = .ok (.putfield 164, 3) := by decide +kernel
theorem dX9_part_26 : decode cX9_part 26 = .ok (.aload_n 0, 1) := by decide +kernel
theorem dX9_part_27 : decode cX9_part 27 = .ok (.dup, 1) := by decide +kernel
theorem dX9_part_28 : decode cX9_part 28 = .ok (.getfield 149, 3) := by decide +kernel
theorem dX9_part_31 : decode cX9_part 31 = .ok (.iconst 1, 1) := by decide +kernel
theorem dX9_part_32 : decode cX9_part 32 = .ok (.iadd, 1) := by decide +kernel
theorem dX9_part_33 : decode cX9_part 33 = .ok (.putfield 149, 3) := by decide +kernel
theorem dX9_part_36 : decode cX9_part 36 = .ok (.iconst 1, 1) := by decide +kernel
theorem dX9_part_37 : decode cX9_part 37 = .ok (.istore_n 1, 1) := by decide +kernel
theorem dX9_part_38 : decode cX9_part 38 = .ok (.aload_n 0, 1) := by decide +kernel
theorem dX9_part_39 : decode cX9_part 39 = .ok (.getfield 164, 3) := by decide +kernel
theorem dX9_part_42 : decode cX9_part 42 = .ok (.lookupswitch 253 #[(46, 176), (97, 159), (100, 99), (102, 90), (103, 107), (111, 66), (114, 74)], 66) := by decide +kernel
theorem dX9_part_108 : decode cX9_part 108 = .ok (.aload_n 0, 1) := by decide +kernel
theorem dX9_part_109 : decode cX9_part 109 = .ok (.iconst 2, 1) := by decide +kernel
theorem dX9_part_110 : decode cX9_part 110 = .ok (.bipush 7, 2) := by decide +kernel
theorem dX9_part_112 : decode cX9_part 112 = .ok (.invokevirtual 167, 3) := by decide +kernel
theorem dX9_part_115 : decode cX9_part 115 = .ok (.ireturn, 1) := by decide +kernel
theorem dX9_part_116 : decode cX9_part 116 = .ok (.aload_n 0, 1) := by decide +kernel
theorem dX9_part_117 : decode cX9_part 117 = .ok (.iconst 2, 1) := by decide +kernel
theorem dX9_part_118 : decode cX9_part 118 = .ok (.invokevirtual 155, 3) := by decide +kernel
theorem dX9_part_121 : decode cX9_part 121 = .ok (.istore_n 1, 1) := by decide +kernel
theorem dX9_part_122 : decode cX9_part 122 = .ok (.aload_n 0, 1) := by decide +kernel
theorem dX9_part_123 : decode cX9_part 123 = .ok (.aload_n 0, 1) := by decide +kernel
theorem dX9_part_124 : decode cX9_part 124 = .ok (.getfield 152, 3) := by decide +kernel
theorem dX9_part_127 : decode cX9_part 127 = .ok (.putfield 158, 3) := by decide +kernel
theorem dX9_part_130 : decode cX9_part 130 = .ok (.iload_n 1, 1) := by decide +kernel
theorem dX9_part_131 : decode cX9_part 131 = .ok (.ireturn, 1) := by decide +kernel
theorem dX9_part_132 : decode cX9_part 132 = .ok (.aload_n 0, 1) := by decide +kernel
theorem dX9_part_133 : decode cX9_part 133 = .ok (.bipush 7, 2) := by decide +kernel
theorem dX9_part_135 : decode cX9_part 135 = .ok (.bipush 9, 2) := by decide +kernel
theorem dX9_part_137 : decode cX9_part 137 = .ok (.invokevirtual 167, 3) := by decide +kernel
theorem dX9_part_140 : decode cX9_part 140 = .ok (.ireturn, 1) := by decide +kernel
theorem dX9_part_141 : decode cX9_part 141 = .ok (.aload_n 0, 1) := by decide +kernel
theorem dX9_part_142 : decode cX9_part 142 = .ok (.bipush 7, 2) := by decide +kernel
theorem dX9_part_144 : decode cX9_part 144 = .ok (.iconst 2, 1) := by decide +kernel
theorem dX9_part_145 : decode cX9_part 145 = .ok (.invokevirtual 167, 3) := by decide +kernel
theorem dX9_part_148 : decode cX9_part 148 = .ok (.ireturn, 1) := by decide +kernel
theorem dX9_part_149 : decode cX9_part 149 = .ok (.aload_n 0, 1) := by decide +kernel
theorem dX9_part_150 : decode cX9_part 150 = .ok (.bipush 23, 2) := by decide +kernel
theorem dX9_part_152 : decode cX9_part 152 = .ok (.invokevirtual 170, 3) := by decide +kernel
theorem dX9_part_155 : decode cX9_part 155 = .ok (.istore_n 1, 1) := by decide +kernel
theorem dX9_part_156 : decode cX9_part 156 = .ok (.aload_n 0, 1) := by decide +kernel
theorem dX9_part_157 : decode cX9_part 157 = .ok (.aload_n 0, 1) := by decide +kernel
theorem dX9_part_158 : decode cX9_part 158 = .ok (.getfield 152, 3) := by decide +kernel
theorem dX9_part_161 : decode cX9_part 161 = .ok (.putfield 158, 3) := by decide +kernel
theorem dX9_part_164 : decode cX9_part 164 = .ok (.iload_n 1, 1) := by decide +kernel
theorem dX9_part_165 : decode cX9_part 165 = .ok (.ifCond .eq 24, 3) := by decide +kernel
theorem dX9_part_168 : decode cX9_part 168 = .ok (.aload_n 0, 1) := by decide +kernel
theorem dX9_part_169 : decode cX9_part 169 = .ok (.bipush 61, 2) := by decide +kernel
theorem dX9_part_171 : decode cX9_part 171 = .ok (.invokevirtual 173, 3) := by decide +kernel
theorem dX9_part_174 : decode cX9_part 174 = .ok (.ifCond .eq 15, 3) := by decide +kernel
theorem dX9_part_177 : decode cX9_part 177 = .ok (.aload_n 0, 1) := by decide +kernel
theorem dX9_part_178 : decode cX9_part 178 = .ok (.iconst 4, 1) := by decide +kernel
theorem dX9_part_179 : decode cX9_part 179 = .ok (.invokevirtual 155, 3) := by decide +kernel
theorem dX9_part_182 : decode cX9_part 182 = .ok (.ifCond .eq 7, 3) := by decide +kernel
theorem dX9_part_185 : decode cX9_part 185 = .ok (.iconst 1, 1) := by decide +kernel
theorem dX9_part_186 : decode cX9_part 186 = .ok (.goto 4, 3) := by decide +kernel
theorem dX9_part_189 : decode cX9_part 189 = .ok (.iconst 0, 1) := by decide +kernel
theorem dX9_part_190 : decode cX9_part 190 = .ok (.istore_n 1, 1) := by decide +kernel
theorem dX9_part_191 : decode cX9_part 191 = .ok (.aload_n 0, 1) := by decide +kernel
theorem dX9_part_192 : decode cX9_part 192 = .ok (.aload_n 0, 1) := by decide +kernel
theorem dX9_part_193 : decode cX9_part 193 = .ok (.getfield 152, 3) := by decide +kernel
theorem dX9_part_196 : decode cX9_part 196 = .ok (.putfield 161, 3) := by decide +kernel
theorem dX9_part_199 : decode cX9_part 199 = .ok (.iload_n 1, 1) := by decide +kernel
theorem dX9_part_200 : decode cX9_part 200 = .ok (.ireturn, 1) := by decide +kernel
theorem dX9_part_201 : decode cX9_part 201 = .ok (.aload_n 0, 1) := by decide +kernel
theorem dX9_part_202 : decode cX9_part 202 = .ok (.bipush 19, 2) := by decide +kernel
theorem dX9_part_204 : decode cX9_part 204 = .ok (.invokevirtual 170, 3) := by decide +kernel
theorem dX9_part_207 : decode cX9_part 207 = .ok (.istore_n 1, 1) := by decide +kernel
theorem dX9_part_208 : decode cX9_part 208 = .ok (.aload_n 0, 1) := by decide +kernel
theorem dX9_part_209 : decode cX9_part 209 = .ok (.aload_n 0, 1) := by decide +kernel
theorem dX9_part_210 : decode cX9_part 210 = .ok (.getfield 152, 3) := by decide +kernel
theorem dX9_part_213 : decode cX9_part 213 = .ok (.putfield 158, 3) := by decide +kernel
theorem dX9_part_216 : decode cX9_part 216 = .ok (.iload_n 1, 1) := by decide +kernel
theorem dX9_part_217 : decode cX9_part 217 = .ok (.ireturn, 1) := by decide +kernel
theorem dX9_part_218 : decode cX9_part 218 = .ok (.aload_n 0, 1) := by decide +kernel
theorem dX9_part_219 : decode cX9_part 219 = .ok (.aload_n 0, 1) := by decide +kernel
theorem dX9_part_220 : decode cX9_part 220 = .ok (.getfield 149, 3) := by decide +kernel
theorem dX9_part_223 : decode cX9_part 223 = .ok (.aload_n 0, 1) := by decide +kernel
theorem dX9_part_224 : decode cX9_part 224 = .ok (.getfield 146, 3) := by decide +kernel
theorem dX9_part_227 : decode cX9_part 227 = .ok (.if_icmp .ge 40, 3) := by decide +kernel
theorem dX9_part_230 : decode cX9_part 230 = .ok (.aload_n 0, 1) := by decide +kernel
theorem dX9_part_231 : decode cX9_part 231 = .ok (.getfield 25, 3) := by decide +kernel
theorem dX9_part_234 : decode cX9_part 234 = .ok (.aload_n 0, 1) := by decide +kernel
theorem dX9_part_235 : decode cX9_part 235 = .ok (.getfield 149, 3) := by decide +kernel
theorem dX9_part_238 : decode cX9_part 238 = .ok (.iaload, 1) := by decide +kernel
theorem dX9_part_239 : decode cX9_part 239 = .ok (.bipush 49, 2) := by decide +kernel
theorem dX9_part_241 : decode cX9_part 241 = .ok (.bipush 57, 2) := by decide +kernel
theorem dX9_part_243 : decode cX9_part 243 = .ok (.invokestatic 38, 3) := by decide +kernel
theorem dX9_part_246 : decode cX9_part 246 = .ok (.ifCond .eq 21, 3) := by decide +kernel
theorem dX9_part_249 : decode cX9_part 249 = .ok (.bipush 10, 2) := by decide +kernel
theorem dX9_part_251 : decode cX9_part 251 = .ok (.aload_n 0, 1) := by decide +kernel
theorem dX9_part_252 : decode cX9_part 252 = .ok (.getfield 25, 3) := by decide +kernel
theorem dX9_part_255 : decode cX9_part 255 = .ok (.aload_n 0, 1) := by decide +kernel
theorem dX9_part_256 : decode cX9_part 256 = .ok (.getfield 149, 3) := by decide +kernel
theorem dX9_part_259 : decode cX9_part 259 = .ok (.iaload, 1) := by decide +kernel
theorem dX9_part_260 : decode cX9_part 260 = .ok (.bipush 48, 2) := by decide +kernel
theorem dX9_part_262 : decode cX9_part 262 = .ok (.isub, 1) := by decide +kernel
theorem dX9_part_263 : decode cX9_part 263 = .ok (.imul, 1) := by decide +kernel
theorem dX9_part_264 : decode cX9_part 264 = .ok (.goto 4, 3) := by decide +kernel
theorem dX9_part_267 : decode cX9_part 267 = .ok (.iconst 1, 1) := by decide +kernel
theorem dX9_part_268 : decode cX9_part 268 = .ok (.putfield 158, 3) := by decide +kernel
theorem dX9_part_271 : decode cX9_part 271 = .ok (.aload_n 0, 1) := by decide +kernel
theorem dX9_part_272 : decode cX9_part 272 = .ok (.dup, 1) := by decide +kernel
theorem dX9_part_273 : decode cX9_part 273 = .ok (.getfield 149, 3) := by decide +kernel
theorem dX9_part_276 : decode cX9_part 276 = .ok (.aload_n 0, 1) := by decide +kernel
theorem dX9_part_277 : decode cX9_part 277 = .ok (.getfield 158, 3) := by decide +kernel
theorem dX9_part_280 : decode cX9_part 280 = .ok (.iconst 1, 1) := by decide +kernel
theorem dX9_part_281 : decode cX9_part 281 = .ok (.if_icmp .le 7, 3) := by decide +kernel
theorem dX9_part_284 : decode cX9_part 284 = .ok (.iconst 1, 1) := by decide +kernel
theorem dX9_part_285 : decode cX9_part 285 = .ok (.goto 4, 3) := by decide +kernel
theorem dX9_part_288 : decode cX9_part 288 = .ok (.iconst 0, 1) := by decide +kernel
theorem dX9_part_289 : decode cX9_part 289 = .ok (.iadd, 1) := by decide +kernel
theorem dX9_part_290 : decode cX9_part 290 = .ok (.putfield 149, 3) := by decide +kernel
theorem dX9_part_293 : decode cX9_part 293 = .ok (.iconst 1, 1) := by decide +kernel
theorem dX9_part_294 : decode cX9_part 294 = .ok (.ireturn, 1) := by decide +kernel
theorem dX9_part_295 : decode cX9_part 295 = .ok (.aload_n 0, 1) := by decide +kernel
theorem dX9_part_296 : decode cX9_part 296 = .ok (.dup, 1) := by decide +kernel
theorem dX9_part_297 : decode cX9_part 297 = .ok (.getfield 149, 3) := by decide +kernel
theorem dX9_part_300 : decode cX9_part 300 = .ok (.iconst 1, 1) := by decide +kernel
theorem dX9_part_301 : decode cX9_part 301 = .ok (.isub, 1) := by decide +kernel
theorem dX9_part_302 : decode cX9_part 302 = .ok (.putfield 149, 3) := by decide +kernel
theorem dX9_part_305 : decode cX9_part 305 = .ok (.iconst 0, 1) := by decide +kernel
theorem dX9_part_306 : decode cX9_part 306 = .ok (.ireturn, 1) := by decide +kernel
theorem dX9_fault_0 : decode cX9_fault 0 = .ok (.aload_n 0, 1) := by decide +kernel
theorem dX9_fault_1 : decode cX9_fault 1 = .ok (.iconst 0, 1) := by decide +kernel
theorem dX9_fault_2 : decode cX9_fault 2 = .ok (.putfield 34, 3) := by decide +kernel
theorem dX9_fault_5 : decode cX9_fault 5 = .ok (.aload_n 0, 1) := by decide +kernel
theorem dX9_fault_6 : decode cX9_fault 6 = .ok (.iconst 0, 1) := by decide +kernel
theorem dX9_fault_7 : decode cX9_fault 7 = .ok (.putfield 149, 3) := by decide +kernel
theorem dX9_fault_10 : decode cX9_fault 10 = .ok (.iconst 1, 1) := by decide +kernel
theorem dX9_fault_11 : decode cX9_fault 11 = .ok (.istore_n 1, 1) := by decide +kernel
theorem dX9_fault_12 : decode cX9_fault 12 = .ok (.iload_n 1, 1) := by decide +kernel
theorem dX9_fault_13 : decode cX9_fault 13 = .ok (.ifCond .eq 25, 3) := by decide +kernel
theorem dX9_fault_16 : decode cX9_fault 16 = .ok (.aload_n 0, 1) := by decide +kernel
theorem dX9_fault_17 : decode cX9_fault 17 = .ok (.invokevirtual 176, 3) := by decide +kernel
theorem dX9_fault_20 : decode cX9_fault 20 = .ok (.ifCond .ne 8, 3) := by decide +kernel
theorem dX9_fault_23 : decode cX9_fault 23 = .ok (.aload_n 0, 1) := by decide +kernel
theorem dX9_fault_24 : decode cX9_fault 24 = .ok (.getfield 149, 3) := by decide +kernel
theorem dX9_fault_27 : decode cX9_fault 27 = .ok (.ireturn, 1) := by decide +kernel
theorem dX9_fault_28 : decode cX9_fault 28 = .ok (.aload_n 0, 1) := by decide +kernel
theorem dX9_fault_29 : decode cX9_fault 29 = .ok (.bipush 59, 2) := by decide +kernel
theorem dX9_fault_31 : decode cX9_fault 31 = .ok (.invokevirtual 173, 3) := by decide +kernel
theorem dX9_fault_34 : decode cX9_fault 34 = .ok (.istore_n 1, 1) := by decide +kernel
theorem dX9_fault_35 : decode cX9_fault 35 = .ok (.goto (-23), 3) := by decide +kernel
theorem dX9_fault_38 : decode cX9_fault 38 = .ok (.aload_n 0, 1) := by decide +kernel
theorem dX9_fault_39 : decode cX9_fault 39 = .ok (.getfield 149, 3) := by decide +kernel
theorem dX9_fault_42 : decode cX9_fault 42 = .ok (.aload_n 0, 1) := by decide +kernel
theorem dX9_fault_43 : decode cX9_fault 43 = .ok (.getfield 146, 3) := by decide +kernel
theorem dX9_fault_46 : decode cX9_fault 46 = .ok (.if_icmp .ge 10, 3) := by decide +kernel
theorem dX9_fault_49 : decode cX9_fault 49 = .ok (.aload_n 0, 1) := by decide +kernel
theorem dX9_fault_50 : decode cX9_fault 50 = .ok (.getfield 149, 3) := by decide +kernel
theorem dX9_fault_53 : decode cX9_fault 53 = .ok (.goto 4, 3) := by decide +kernel
theorem dX9_fault_56 : decode cX9_fault 56 = .ok (.iconst (-1), 1) := by decide +kernel
theorem dX9_fault_57 : decode cX9_fault 57 = .ok (.ireturn, 1) := by decide +kernel
theorem dX9_does_0 : decode cX9_does 0 = .ok (.aload_n 0, 1) := by decide +kernel
theorem dX9_does_1 : decode cX9_does 1 = .ok (.getfield 164, 3) := by decide +kernel
theorem dX9_does_4 : decode cX9_does 4 = .ok (.tableswitch 220 97 114 #[174, 220, 220, 138, 220, 121, 156, 220, 220, 220, 220, 220, 220, 220, 88, 220, 220, 106], 88) := by decide +kernel
theorem dX9_does_92 : decode cX9_does 92 = .ok (.aload_n 0, 1) := by decide +kernel
theorem dX9_does_93 : decode cX9_does 93 = .ok (.getfield 7, 3) := by decide +kernel
theorem dX9_does_96 : decode cX9_does 96 = .ok (.bipush 62, 2) := by decide +kernel
theorem dX9_does_98 : decode cX9_does 98 = .ok (.aload_n 0, 1) := by decide +kernel
theorem dX9_does_99 : decode cX9_does 99 = .ok (.getfield 158, 3) := by decide +kernel
theorem dX9_does_102 : decode cX9_does 102 = .ok (.iadd, 1) := by decide +kernel
theorem dX9_does_103 : decode cX9_does 103 = .ok (.aload_n 0, 1) := by decide +kernel
theorem dX9_does_104 : decode cX9_does 104 = .ok (.getfield 161, 3) := by decide +kernel
theorem dX9_does_107 : decode cX9_does 107 = .ok (.iastore, 1) := by decide +kernel
theorem dX9_does_108 : decode cX9_does 108 = .ok (.iconst 0, 1) := by decide +kernel
theorem dX9_does_109 : decode cX9_does 109 = .ok (.ireturn, 1) := by decide +kernel
theorem dX9_does_110 : decode cX9_does 110 = .ok (.aload_n 0, 1) := by decide +kernel
theorem dX9_does_111 : decode cX9_does 111 = .ok (.getfield 7, 3) := by decide +kernel
theorem dX9_does_114 : decode cX9_does 114 = .ok (.bipush 62, 2) := by decide +kernel
theorem dX9_does_116 : decode cX9_does 116 = .ok (.aload_n 0, 1) := by decide +kernel
theorem dX9_does_117 : decode cX9_does 117 = .ok (.getfield 158, 3) := by decide +kernel
theorem dX9_does_120 : decode cX9_does 120 = .ok (.iadd, 1) := by decide +kernel
theorem dX9_does_121 : decode cX9_does 121 = .ok (.iconst (-1), 1) := by decide +kernel
theorem dX9_does_122 : decode cX9_does 122 = .ok (.iastore, 1) := by decide +kernel
theorem dX9_does_123 : decode cX9_does 123 = .ok (.iconst 0, 1) := by decide +kernel
theorem dX9_does_124 : decode cX9_does 124 = .ok (.ireturn, 1) := by decide +kernel
theorem dX9_does_125 : decode cX9_does 125 = .ok (.aload_n 0, 1) := by decide +kernel
theorem dX9_does_126 : decode cX9_does 126 = .ok (.getfield 7, 3) := by decide +kernel
theorem dX9_does_129 : decode cX9_does 129 = .ok (.iconst 0, 1) := by decide +kernel
theorem dX9_does_130 : decode cX9_does 130 = .ok (.aload_n 0, 1) := by decide +kernel
theorem dX9_does_131 : decode cX9_does 131 = .ok (.getfield 158, 3) := by decide +kernel
theorem dX9_does_134 : decode cX9_does 134 = .ok (.iadd, 1) := by decide +kernel
theorem dX9_does_135 : decode cX9_does 135 = .ok (.aload_n 0, 1) := by decide +kernel
theorem dX9_does_136 : decode cX9_does 136 = .ok (.getfield 161, 3) := by decide +kernel
theorem dX9_does_139 : decode cX9_does 139 = .ok (.iastore, 1) := by decide +kernel
theorem dX9_does_140 : decode cX9_does 140 = .ok (.iconst 0, 1) := by decide +kernel
theorem dX9_does_141 : decode cX9_does 141 = .ok (.ireturn, 1) := by decide +kernel
theorem dX9_does_142 : decode cX9_does 142 = .ok (.aload_n 0, 1) := by decide +kernel
theorem dX9_does_143 : decode cX9_does 143 = .ok (.getfield 7, 3) := by decide +kernel
theorem dX9_does_146 : decode cX9_does 146 = .ok (.bipush 8, 2) := by decide +kernel
theorem dX9_does_148 : decode cX9_does 148 = .ok (.aload_n 0, 1) := by decide +kernel
theorem dX9_does_149 : decode cX9_does 149 = .ok (.getfield 158, 3) := by decide +kernel
theorem dX9_does_152 : decode cX9_does 152 = .ok (.iadd, 1) := by decide +kernel
theorem dX9_does_153 : decode cX9_does 153 = .ok (.aload_n 0, 1) := by decide +kernel
theorem dX9_does_154 : decode cX9_does 154 = .ok (.getfield 161, 3) := by decide +kernel
theorem dX9_does_157 : decode cX9_does 157 = .ok (.iastore, 1) := by decide +kernel
theorem dX9_does_158 : decode cX9_does 158 = .ok (.iconst 0, 1) := by decide +kernel
theorem dX9_does_159 : decode cX9_does 159 = .ok (.ireturn, 1) := by decide +kernel
theorem dX9_does_160 : decode cX9_does 160 = .ok (.aload_n 0, 1) := by decide +kernel
theorem dX9_does_161 : decode cX9_does 161 = .ok (.getfield 7, 3) := by decide +kernel
theorem dX9_does_164 : decode cX9_does 164 = .ok (.bipush 32, 2) := by decide +kernel
theorem dX9_does_166 : decode cX9_does 166 = .ok (.aload_n 0, 1) := by decide +kernel
theorem dX9_does_167 : decode cX9_does 167 = .ok (.getfield 158, 3) := by decide +kernel
theorem dX9_does_170 : decode cX9_does 170 = .ok (.iadd, 1) := by decide +kernel
theorem dX9_does_171 : decode cX9_does 171 = .ok (.aload_n 0, 1) := by decide +kernel
theorem dX9_does_172 : decode cX9_does 172 = .ok (.getfield 161, 3) := by decide +kernel
theorem dX9_does_175 : decode cX9_does 175 = .ok (.iastore, 1) := by decide +kernel
theorem dX9_does_176 : decode cX9_does 176 = .ok (.iconst 0, 1) := by decide +kernel
theorem dX9_does_177 : decode cX9_does 177 = .ok (.ireturn, 1) := by decide +kernel
theorem dX9_does_178 : decode cX9_does 178 = .ok (.aload_n 0, 1) := by decide +kernel
theorem dX9_does_179 : decode cX9_does 179 = .ok (.aload_n 0, 1) := by decide +kernel
theorem dX9_does_180 : decode cX9_does 180 = .ok (.getfield 158, 3) := by decide +kernel
theorem dX9_does_183 : decode cX9_does 183 = .ok (.invokevirtual 105, 3) := by decide +kernel
theorem dX9_does_186 : decode cX9_does 186 = .ok (.ifCond .eq 34, 3) := by decide +kernel
theorem dX9_does_189 : decode cX9_does 189 = .ok (.aload_n 0, 1) := by decide +kernel
theorem dX9_does_190 : decode cX9_does 190 = .ok (.getfield 7, 3) := by decide +kernel
theorem dX9_does_193 : decode cX9_does 193 = .ok (.sipush 132, 3) := by decide +kernel
theorem dX9_does_196 : decode cX9_does 196 = .ok (.aload_n 0, 1) := by decide +kernel
theorem dX9_does_197 : decode cX9_does 197 = .ok (.getfield 158, 3) := by decide +kernel
theorem dX9_does_200 : decode cX9_does 200 = .ok (.iadd, 1) := by decide +kernel
theorem dX9_does_201 : decode cX9_does 201 = .ok (.iaload, 1) := by decide +kernel
theorem dX9_does_202 : decode cX9_does 202 = .ok (.ifCond .ne 18, 3) := by decide +kernel
theorem dX9_does_205 : decode cX9_does 205 = .ok (.aload_n 0, 1) := by decide +kernel
theorem dX9_does_206 : decode cX9_does 206 = .ok (.aload_n 0, 1) := by decide +kernel
theorem dX9_does_207 : decode cX9_does 207 = .ok (.getfield 158, 3) := by decide +kernel
theorem dX9_does_210 : decode cX9_does 210 = .ok (.invokevirtual 108, 3) := by decide +kernel
theorem dX9_does_213 : decode cX9_does 213 = .ok (.ifCond .eq 7, 3) := by decide +kernel
theorem dX9_does_216 : decode cX9_does 216 = .ok (.iconst 1, 1) := by decide +kernel
theorem dX9_does_217 : decode cX9_does 217 = .ok (.goto 4, 3) := by decide +kernel
theorem dX9_does_220 : decode cX9_does 220 = .ok (.iconst 0, 1) := by decide +kernel
theorem dX9_does_221 : decode cX9_does 221 = .ok (.istore_n 1, 1) := by decide +kernel
theorem dX9_does_222 : decode cX9_does 222 = .ok (.iconst 0, 1) := by decide +kernel
theorem dX9_does_223 : decode cX9_does 223 = .ok (.ireturn, 1) := by decide +kernel
theorem dX9_does_224 : decode cX9_does 224 = .ok (.aload_n 0, 1) := by decide +kernel
theorem dX9_does_225 : decode cX9_does 225 = .ok (.aload_n 0, 1) := by decide +kernel
theorem dX9_does_226 : decode cX9_does 226 = .ok (.getfield 158, 3) := by decide +kernel
theorem dX9_does_229 : decode cX9_does 229 = .ok (.invokevirtual 102, 3) := by decide +kernel
theorem dX9_does_232 : decode cX9_does 232 = .ok (.ireturn, 1) := by decide +kernel
theorem dX9_read_0 : decode cX9_read 0 = .ok (.aload_n 0, 1) := by decide +kernel
theorem dX9_read_1 : decode cX9_read 1 = .ok (.invokevirtual 180, 3) := by decide +kernel
theorem dX9_read_4 : decode cX9_read 4 = .ok (.iconst (-1), 1) := by decide +kernel
theorem dX9_read_5 : decode cX9_read 5 = .ok (.if_icmp .eq 9, 3) := by decide +kernel
theorem dX9_read_8 : decode cX9_read 8 = .ok (.aload_n 0, 1) := by decide +kernel
theorem dX9_read_9 : decode cX9_read 9 = .ok (.iconst 1, 1) := by decide +kernel
theorem dX9_read_10 : decode cX9_read 10 = .ok (.invokevirtual 45, 3) := by decide +kernel
theorem dX9_read_13 : decode cX9_read 13 = .ok (.ireturn, 1) := by decide +kernel
theorem dX9_read_14 : decode cX9_read 14 = .ok (.aload_n 0, 1) := by decide +kernel
theorem dX9_read_15 : decode cX9_read 15 = .ok (.invokevirtual 53, 3) := by decide +kernel
theorem dX9_read_18 : decode cX9_read 18 = .ok (.iconst 0, 1) := by decide +kernel
theorem dX9_read_19 : decode cX9_read 19 = .ok (.istore_n 1, 1) := by decide +kernel
theorem dX9_read_20 : decode cX9_read 20 = .ok (.aload_n 0, 1) := by decide +kernel
theorem dX9_read_21 : decode cX9_read 21 = .ok (.iconst 0, 1) := by decide +kernel
theorem dX9_read_22 : decode cX9_read 22 = .ok (.putfield 149, 3) := by decide +kernel
theorem dX9_read_25 : decode cX9_read 25 = .ok (.aload_n 0, 1) := by decide +kernel
theorem dX9_read_26 : decode cX9_read 26 = .ok (.getfield 149, 3) := by decide +kernel
theorem dX9_read_29 : decode cX9_read 29 = .ok (.aload_n 0, 1) := by decide +kernel
theorem dX9_read_30 : decode cX9_read 30 = .ok (.getfield 146, 3) := by decide +kernel
theorem dX9_read_33 : decode cX9_read 33 = .ok (.if_icmp .ge 28, 3) := by decide +kernel
theorem dX9_read_36 : decode cX9_read 36 = .ok (.aload_n 0, 1) := by decide +kernel
theorem dX9_read_37 : decode cX9_read 37 = .ok (.invokevirtual 176, 3) := by decide +kernel
theorem dX9_read_40 : decode cX9_read 40 = .ok (.istore_n 2, 1) := by decide +kernel
theorem dX9_read_41 : decode cX9_read 41 = .ok (.iload_n 1, 1) := by decide +kernel
theorem dX9_read_42 : decode cX9_read 42 = .ok (.aload_n 0, 1) := by decide +kernel
theorem dX9_read_43 : decode cX9_read 43 = .ok (.invokevirtual 183, 3) := by decide +kernel
theorem dX9_read_46 : decode cX9_read 46 = .ok (.iadd, 1) := by decide +kernel
theorem dX9_read_47 : decode cX9_read 47 = .ok (.istore_n 1, 1) := by decide +kernel
theorem dX9_read_48 : decode cX9_read 48 = .ok (.aload_n 0, 1) := by decide +kernel
theorem dX9_read_49 : decode cX9_read 49 = .ok (.dup, 1) := by decide +kernel
theorem dX9_read_50 : decode cX9_read 50 = .ok (.getfield 149, 3) := by decide +kernel
theorem dX9_read_53 : decode cX9_read 53 = .ok (.iconst 1, 1) := by decide +kernel
theorem dX9_read_54 : decode cX9_read 54 = .ok (.iadd, 1) := by decide +kernel
theorem dX9_read_55 : decode cX9_read 55 = .ok (.putfield 149, 3) := by decide +kernel
theorem dX9_read_58 : decode cX9_read 58 = .ok (.goto (-33), 3) := by decide +kernel
theorem dX9_read_61 : decode cX9_read 61 = .ok (.aload_n 0, 1) := by decide +kernel
theorem dX9_read_62 : decode cX9_read 62 = .ok (.iconst 0, 1) := by decide +kernel
theorem dX9_read_63 : decode cX9_read 63 = .ok (.putfield 146, 3) := by decide +kernel
theorem dX9_read_66 : decode cX9_read 66 = .ok (.iload_n 1, 1) := by decide +kernel
theorem dX9_read_67 : decode cX9_read 67 = .ok (.ireturn, 1) := by decide +kernel
