theorem dX0_init_0 : decode cX0_init 0 = .ok (.aload_n 0, 1) := by decide +kernel
theorem dX0_init_1 : decode cX0_init 1 = .ok (.invokespecial 3, 3) := by decide +kernel
theorem dX0_init_4 : decode cX0_init 4 = .ok (.aload_n 0, 1) := by decide +kernel
theorem dX0_init_5 : decode cX0_init 5 = .ok (.iconst 3, 1) := by decide +kernel
theorem dX0_init_6 : decode cX0_init 6 = .ok (.putfield 9, 3) := by decide +kernel
theorem dX0_init_9 : decode cX0_init 9 = .ok (.aload_n 0, 1) := by decide +kernel
theorem dX0_init_10 : decode cX0_init 10 = .ok (.iconst 0, 1) := by decide +kernel
theorem dX0_init_11 : decode cX0_init 11 = .ok (.putfield 15, 3) := by decide +kernel
theorem dX0_init_14 : decode cX0_init 14 = .ok (.aload_n 0, 1) := by decide +kernel
theorem dX0_init_15 : decode cX0_init 15 = .ok (.iconst 4, 1) := by decide +kernel
theorem dX0_init_16 : decode cX0_init 16 = .ok (.putfield 18, 3) := by decide +kernel
theorem dX0_init_19 : decode cX0_init 19 = .ok (.aload_n 0, 1) := by decide +kernel
theorem dX0_init_20 : decode cX0_init 20 = .ok (.iconst 0, 1) := by decide +kernel
theorem dX0_init_21 : decode cX0_init 21 = .ok (.putfield 21, 3) := by decide +kernel
theorem dX0_init_24 : decode cX0_init 24 = .ok (.aload_n 0, 1) := by decide +kernel
theorem dX0_init_25 : decode cX0_init 25 = .ok (.iconst 0, 1) := by decide +kernel
theorem dX0_init_26 : decode cX0_init 26 = .ok (.putfield 24, 3) := by decide +kernel
theorem dX0_init_29 : decode cX0_init 29 = .ok (.aload_n 0, 1) := by decide +kernel
theorem dX0_init_30 : decode cX0_init 30 = .ok (.new 27, 3) := by decide +kernel
theorem dX0_init_33 : decode cX0_init 33 = .ok (.dup, 1) := by decide +kernel
theorem dX0_init_34 : decode cX0_init 34 = .ok (.invokespecial 29, 3) := by decide +kernel
theorem dX0_init_37 : decode cX0_init 37 = .ok (.putfield 30, 3) := by decide +kernel
theorem dX0_init_40 : decode cX0_init 40 = .ok (.aload_n 0, 1) := by decide +kernel
theorem dX0_init_41 : decode cX0_init 41 = .ok (.new 27, 3) := by decide +kernel
theorem dX0_init_44 : decode cX0_init 44 = .ok (.dup, 1) := by decide +kernel
theorem dX0_init_45 : decode cX0_init 45 = .ok (.invokespecial 29, 3) := by decide +kernel
theorem dX0_init_48 : decode cX0_init 48 = .ok (.putfield 34, 3) := by decide +kernel
theorem dX0_init_51 : decode cX0_init 51 = .ok (.aload_n 0, 1) := by decide +kernel
theorem dX0_init_52 : decode cX0_init 52 = .ok (.iload_n 1, 1) := by decide +kernel
theorem dX0_init_53 : decode cX0_init 53 = .ok (.putfield 37, 3) := by decide +kernel
theorem dX0_init_56 : decode cX0_init 56 = .ok (.return_, 1) := by decide +kernel
theorem dX0_copyFrom_0 : decode cX0_copyFrom 0 = .ok (.aload_n 0, 1) := by decide +kernel
theorem dX0_copyFrom_1 : decode cX0_copyFrom 1 = .ok (.aload_n 1, 1) := by decide +kernel
theorem dX0_copyFrom_2 : decode cX0_copyFrom 2 = .ok (.getfield 9, 3) := by decide +kernel
theorem dX0_copyFrom_5 : decode cX0_copyFrom 5 = .ok (.putfield 9, 3) := by decide +kernel
theorem dX0_copyFrom_8 : decode cX0_copyFrom 8 = .ok (.aload_n 0, 1) := by decide +kernel
theorem dX0_copyFrom_9 : decode cX0_copyFrom 9 = .ok (.aload_n 1, 1) := by decide +kernel
theorem dX0_copyFrom_10 : decode cX0_copyFrom 10 = .ok (.getfield 15, 3) := by decide +kernel
theorem dX0_copyFrom_13 : decode cX0_copyFrom 13 = .ok (.putfield 15, 3) := by decide +kernel
theorem dX0_copyFrom_16 : decode cX0_copyFrom 16 = .ok (.aload_n 0, 1) := by decide +kernel
theorem dX0_copyFrom_17 : decode cX0_copyFrom 17 = .ok (.aload_n 1, 1) := by decide +kernel
theorem dX0_copyFrom_18 : decode cX0_copyFrom 18 = .ok (.getfield 18, 3) := by decide +kernel
theorem dX0_copyFrom_21 : decode cX0_copyFrom 21 = .ok (.putfield 18, 3) := by decide +kernel
theorem dX0_copyFrom_24 : decode cX0_copyFrom 24 = .ok (.aload_n 0, 1) := by decide +kernel
theorem dX0_copyFrom_25 : decode cX0_copyFrom 25 = .ok (.aload_n 1, 1) := by decide +kernel
theorem dX0_copyFrom_26 : decode cX0_copyFrom 26 = .ok (.getfield 37, 3) := by decide +kernel
theorem dX0_copyFrom_29 : decode cX0_copyFrom 29 = .ok (.putfield 37, 3) := by decide +kernel
theorem dX0_copyFrom_32 : decode cX0_copyFrom 32 = .ok (.aload_n 0, 1) := by decide +kernel
theorem dX0_copyFrom_33 : decode cX0_copyFrom 33 = .ok (.aload_n 1, 1) := by decide +kernel
theorem dX0_copyFrom_34 : decode cX0_copyFrom 34 = .ok (.getfield 21, 3) := by decide +kernel
theorem dX0_copyFrom_37 : decode cX0_copyFrom 37 = .ok (.putfield 21, 3) := by decide +kernel
theorem dX0_copyFrom_40 : decode cX0_copyFrom 40 = .ok (.aload_n 0, 1) := by decide +kernel
theorem dX0_copyFrom_41 : decode cX0_copyFrom 41 = .ok (.aload_n 1, 1) := by decide +kernel
theorem dX0_copyFrom_42 : decode cX0_copyFrom 42 = .ok (.getfield 24, 3) := by decide +kernel
theorem dX0_copyFrom_45 : decode cX0_copyFrom 45 = .ok (.putfield 24, 3) := by decide +kernel
theorem dX0_copyFrom_48 : decode cX0_copyFrom 48 = .ok (.aload_n 0, 1) := by decide +kernel
theorem dX0_copyFrom_49 : decode cX0_copyFrom 49 = .ok (.getfield 30, 3) := by decide +kernel
theorem dX0_copyFrom_52 : decode cX0_copyFrom 52 = .ok (.aload_n 1, 1) := by decide +kernel
theorem dX0_copyFrom_53 : decode cX0_copyFrom 53 = .ok (.getfield 30, 3) := by decide +kernel
theorem dX0_copyFrom_56 : decode cX0_copyFrom 56 = .ok (.invokevirtual 40, 3) := by decide +kernel
theorem dX0_copyFrom_59 : decode cX0_copyFrom 59 = .ok (.aload_n 0, 1) := by decide +kernel
theorem dX0_copyFrom_60 : decode cX0_copyFrom 60 = .ok (.getfield 34, 3) := by decide +kernel
theorem dX0_copyFrom_63 : decode cX0_copyFrom 63 = .ok (.aload_n 1, 1) := by decide +kernel
theorem dX0_copyFrom_64 : decode cX0_copyFrom 64 = .ok (.getfield 34, 3) := by decide +kernel
theorem dX0_copyFrom_67 : decode cX0_copyFrom 67 = .ok (.invokevirtual 40, 3) := by decide +kernel
theorem dX0_copyFrom_70 : decode cX0_copyFrom 70 = .ok (.return_, 1) := by decide +kernel
theorem dX0_shadeAt_0 : decode cX0_shadeAt 0 = .ok (.iload_n 1, 1) := by decide +kernel
theorem dX0_shadeAt_1 : decode cX0_shadeAt 1 = .ok (.aload_n 0, 1) := by decide +kernel
theorem dX0_shadeAt_2 : decode cX0_shadeAt 2 = .ok (.getfield 37, 3) := by decide +kernel
theorem dX0_shadeAt_5 : decode cX0_shadeAt 5 = .ok (.if_icmp .ge 5, 3) := by decide +kernel
theorem dX0_shadeAt_8 : decode cX0_shadeAt 8 = .ok (.iconst 0, 1) := by decide +kernel
theorem dX0_shadeAt_9 : decode cX0_shadeAt 9 = .ok (.ireturn, 1) := by decide +kernel
theorem dX0_shadeAt_10 : decode cX0_shadeAt 10 = .ok (.aload_n 0, 1) := by decide +kernel
theorem dX0_shadeAt_11 : decode cX0_shadeAt 11 = .ok (.iload_n 1, 1) := by decide +kernel
theorem dX0_shadeAt_12 : decode cX0_shadeAt 12 = .ok (.aload_n 0, 1) := by decide +kernel
theorem dX0_shadeAt_13 : decode cX0_shadeAt 13 = .ok (.getfield 37, 3) := by decide +kernel
theorem dX0_shadeAt_16 : decode cX0_shadeAt 16 = .ok (.isub, 1) := by decide +kernel
theorem dX0_shadeAt_17 : decode cX0_shadeAt 17 = .ok (.invokevirtual 44, 3) := by decide +kernel
theorem dX0_shadeAt_20 : decode cX0_shadeAt 20 = .ok (.istore_n 2, 1) := by decide +kernel
theorem dX0_shadeAt_21 : decode cX0_shadeAt 21 = .ok (.aload_n 0, 1) := by decide +kernel
theorem dX0_shadeAt_22 : decode cX0_shadeAt 22 = .ok (.getfield 9, 3) := by decide +kernel
theorem dX0_shadeAt_25 : decode cX0_shadeAt 25 = .ok (.iconst 1, 1) := by decide +kernel
theorem dX0_shadeAt_26 : decode cX0_shadeAt 26 = .ok (.iadd, 1) := by decide +kernel
theorem dX0_shadeAt_27 : decode cX0_shadeAt 27 = .ok (.iconst 2, 1) := by decide +kernel
theorem dX0_shadeAt_28 : decode cX0_shadeAt 28 = .ok (.idiv, 1) := by decide +kernel
theorem dX0_shadeAt_29 : decode cX0_shadeAt 29 = .ok (.aload_n 0, 1) := by decide +kernel
theorem dX0_shadeAt_30 : decode cX0_shadeAt 30 = .ok (.getfield 15, 3) := by decide +kernel
theorem dX0_shadeAt_33 : decode cX0_shadeAt 33 = .ok (.iadd, 1) := by decide +kernel
theorem dX0_shadeAt_34 : decode cX0_shadeAt 34 = .ok (.iload_n 2, 1) := by decide +kernel
theorem dX0_shadeAt_35 : decode cX0_shadeAt 35 = .ok (.isub, 1) := by decide +kernel
theorem dX0_shadeAt_36 : decode cX0_shadeAt 36 = .ok (.invokestatic 48, 3) := by decide +kernel
theorem dX0_shadeAt_39 : decode cX0_shadeAt 39 = .ok (.ireturn, 1) := by decide +kernel
theorem dX0_stokedFrom_0 : decode cX0_stokedFrom 0 = .ok (.iload_n 1, 1) := by decide +kernel
theorem dX0_stokedFrom_1 : decode cX0_stokedFrom 1 = .ok (.aload_n 0, 1) := by decide +kernel
theorem dX0_stokedFrom_2 : decode cX0_stokedFrom 2 = .ok (.getfield 37, 3) := by decide +kernel
theorem dX0_stokedFrom_5 : decode cX0_stokedFrom 5 = .ok (.if_icmp .gt 8, 3) := by decide +kernel
theorem dX0_stokedFrom_8 : decode cX0_stokedFrom 8 = .ok (.aload_n 0, 1) := by decide +kernel
theorem dX0_stokedFrom_9 : decode cX0_stokedFrom 9 = .ok (.getfield 37, 3) := by decide +kernel
theorem dX0_stokedFrom_12 : decode cX0_stokedFrom 12 = .ok (.ireturn, 1) := by decide +kernel
theorem dX0_stokedFrom_13 : decode cX0_stokedFrom 13 = .ok (.aload_n 0, 1) := by decide +kernel
theorem dX0_stokedFrom_14 : decode cX0_stokedFrom 14 = .ok (.iload_n 1, 1) := by decide +kernel
theorem dX0_stokedFrom_15 : decode cX0_stokedFrom 15 = .ok (.aload_n 0, 1) := by decide +kernel
theorem dX0_stokedFrom_16 : decode cX0_stokedFrom 16 = .ok (.getfield 37, 3) := by decide +kernel
theorem dX0_stokedFrom_19 : decode cX0_stokedFrom 19 = .ok (.isub, 1) := by decide +kernel
theorem dX0_stokedFrom_20 : decode cX0_stokedFrom 20 = .ok (.invokevirtual 44, 3) := by decide +kernel
theorem dX0_stokedFrom_23 : decode cX0_stokedFrom 23 = .ok (.istore_n 2, 1) := by decide +kernel
theorem dX0_stokedFrom_24 : decode cX0_stokedFrom 24 = .ok (.iload_n 2, 1) := by decide +kernel
theorem dX0_stokedFrom_25 : decode cX0_stokedFrom 25 = .ok (.ifCond .ne 7, 3) := by decide +kernel
theorem dX0_stokedFrom_28 : decode cX0_stokedFrom 28 = .ok (.iload_n 1, 1) := by decide +kernel
theorem dX0_stokedFrom_29 : decode cX0_stokedFrom 29 = .ok (.goto 11, 3) := by decide +kernel
theorem dX0_stokedFrom_32 : decode cX0_stokedFrom 32 = .ok (.iload_n 1, 1) := by decide +kernel
theorem dX0_stokedFrom_33 : decode cX0_stokedFrom 33 = .ok (.iload_n 2, 1) := by decide +kernel
theorem dX0_stokedFrom_34 : decode cX0_stokedFrom 34 = .ok (.isub, 1) := by decide +kernel
theorem dX0_stokedFrom_35 : decode cX0_stokedFrom 35 = .ok (.aload_n 0, 1) := by decide +kernel
theorem dX0_stokedFrom_36 : decode cX0_stokedFrom 36 = .ok (.getfield 18, 3) := by decide +kernel
theorem dX0_stokedFrom_39 : decode cX0_stokedFrom 39 = .ok (.iadd, 1) := by decide +kernel
theorem dX0_stokedFrom_40 : decode cX0_stokedFrom 40 = .ok (.istore_n 3, 1) := by decide +kernel
theorem dX0_stokedFrom_41 : decode cX0_stokedFrom 41 = .ok (.iload_n 3, 1) := by decide +kernel
theorem dX0_stokedFrom_42 : decode cX0_stokedFrom 42 = .ok (.invokestatic 51, 3) := by decide +kernel
theorem dX0_stokedFrom_45 : decode cX0_stokedFrom 45 = .ok (.ifCond .eq 7, 3) := by decide +kernel
theorem dX0_stokedFrom_48 : decode cX0_stokedFrom 48 = .ok (.iload_n 3, 1) := by decide +kernel
theorem dX0_stokedFrom_49 : decode cX0_stokedFrom 49 = .ok (.goto 4, 3) := by decide +kernel
theorem dX0_stokedFrom_52 : decode cX0_stokedFrom 52 = .ok (.iconst (-1), 1) := by decide +kernel
theorem dX0_stokedFrom_53 : decode cX0_stokedFrom 53 = .ok (.ireturn, 1) := by decide +kernel
theorem dX0_smokeByTicks_0 : decode cX0_smokeByTicks 0 = .ok (.iconst 0, 1) := by decide +kernel
theorem dX0_smokeByTicks_1 : decode cX0_smokeByTicks 1 = .ok (.istore_n 3, 1) := by decide +kernel
theorem dX0_smokeByTicks_2 : decode cX0_smokeByTicks 2 = .ok (.iload_n 1, 1) := by decide +kernel
theorem dX0_smokeByTicks_3 : decode cX0_smokeByTicks 3 = .ok (.istore 4, 2) := by decide +kernel
theorem dX0_smokeByTicks_5 : decode cX0_smokeByTicks 5 = .ok (.iload 4, 2) := by decide +kernel
theorem dX0_smokeByTicks_7 : decode cX0_smokeByTicks 7 = .ok (.iload_n 2, 1) := by decide +kernel
theorem dX0_smokeByTicks_8 : decode cX0_smokeByTicks 8 = .ok (.if_icmp .gt 18, 3) := by decide +kernel
theorem dX0_smokeByTicks_11 : decode cX0_smokeByTicks 11 = .ok (.iload_n 3, 1) := by decide +kernel
theorem dX0_smokeByTicks_12 : decode cX0_smokeByTicks 12 = .ok (.aload_n 0, 1) := by decide +kernel
theorem dX0_smokeByTicks_13 : decode cX0_smokeByTicks 13 = .ok (.iload 4, 2) := by decide +kernel
theorem dX0_smokeByTicks_15 : decode cX0_smokeByTicks 15 = .ok (.invokevirtual 55, 3) := by decide +kernel
theorem dX0_smokeByTicks_18 : decode cX0_smokeByTicks 18 = .ok (.iadd, 1) := by decide +kernel
theorem dX0_smokeByTicks_19 : decode cX0_smokeByTicks 19 = .ok (.istore_n 3, 1) := by decide +kernel
theorem dX0_smokeByTicks_20 : decode cX0_smokeByTicks 20 = .ok (.iinc 4 1, 3) := by decide +kernel
theorem dX0_smokeByTicks_23 : decode cX0_smokeByTicks 23 = .ok (.goto (-18), 3) := by decide +kernel
theorem dX0_smokeByTicks_26 : decode cX0_smokeByTicks 26 = .ok (.iload_n 3, 1) := by decide +kernel
theorem dX0_smokeByTicks_27 : decode cX0_smokeByTicks 27 = .ok (.ireturn, 1) := by decide +kernel
theorem dX0_smokeByTurns_0 : decode cX0_smokeByTurns 0 = .ok (.iload_n 1, 1) := by decide +kernel
theorem dX0_smokeByTurns_1 : decode cX0_smokeByTurns 1 = .ok (.aload_n 0, 1) := by decide +kernel
theorem dX0_smokeByTurns_2 : decode cX0_smokeByTurns 2 = .ok (.getfield 37, 3) := by decide +kernel
theorem dX0_smokeByTurns_5 : decode cX0_smokeByTurns 5 = .ok (.invokestatic 58, 3) := by decide +kernel
theorem dX0_smokeByTurns_8 : decode cX0_smokeByTurns 8 = .ok (.istore_n 3, 1) := by decide +kernel
theorem dX0_smokeByTurns_9 : decode cX0_smokeByTurns 9 = .ok (.iload_n 3, 1) := by decide +kernel
theorem dX0_smokeByTurns_10 : decode cX0_smokeByTurns 10 = .ok (.iload_n 2, 1) := by decide +kernel
theorem dX0_smokeByTurns_11 : decode cX0_smokeByTurns 11 = .ok (.if_icmp .le 5, 3) := by decide +kernel
theorem dX0_smokeByTurns_14 : decode cX0_smokeByTurns 14 = .ok (.iconst 0, 1) := by decide +kernel
theorem dX0_smokeByTurns_15 : decode cX0_smokeByTurns 15 = .ok (.ireturn, 1) := by decide +kernel
theorem dX0_smokeByTurns_16 : decode cX0_smokeByTurns 16 = .ok (.iload_n 2, 1) := by decide +kernel
theorem dX0_smokeByTurns_17 : decode cX0_smokeByTurns 17 = .ok (.iload_n 3, 1) := by decide +kernel
theorem dX0_smokeByTurns_18 : decode cX0_smokeByTurns 18 = .ok (.isub, 1) := by decide +kernel
theorem dX0_smokeByTurns_19 : decode cX0_smokeByTurns 19 = .ok (.iconst 1, 1) := by decide +kernel
theorem dX0_smokeByTurns_20 : decode cX0_smokeByTurns 20 = .ok (.iadd, 1) := by decide +kernel
theorem dX0_smokeByTurns_21 : decode cX0_smokeByTurns 21 = .ok (.istore 4, 2) := by decide +kernel
theorem dX0_smokeByTurns_23 : decode cX0_smokeByTurns 23 = .ok (.aload_n 0, 1) := by decide +kernel
theorem dX0_smokeByTurns_24 : decode cX0_smokeByTurns 24 = .ok (.aload_n 0, 1) := by decide +kernel
theorem dX0_smokeByTurns_25 : decode cX0_smokeByTurns 25 = .ok (.getfield 37, 3) := by decide +kernel
theorem dX0_smokeByTurns_28 : decode cX0_smokeByTurns 28 = .ok (.aload_n 0, 1) := by decide +kernel
theorem dX0_smokeByTurns_29 : decode cX0_smokeByTurns 29 = .ok (.getfield 37, 3) := by decide +kernel
theorem dX0_smokeByTurns_32 : decode cX0_smokeByTurns 32 = .ok (.aload_n 0, 1) := by decide +kernel
theorem dX0_smokeByTurns_33 : decode cX0_smokeByTurns 33 = .ok (.getfield 18, 3) := by decide +kernel
theorem dX0_smokeByTurns_36 : decode cX0_smokeByTurns 36 = .ok (.iadd, 1) := by decide +kernel
theorem dX0_smokeByTurns_37 : decode cX0_smokeByTurns 37 = .ok (.iconst 1, 1) := by decide +kernel
theorem dX0_smokeByTurns_38 : decode cX0_smokeByTurns 38 = .ok (.isub, 1) := by decide +kernel
theorem dX0_smokeByTurns_39 : decode cX0_smokeByTurns 39 = .ok (.invokevirtual 64, 3) := by decide +kernel
theorem dX0_smokeByTurns_42 : decode cX0_smokeByTurns 42 = .ok (.istore 5, 2) := by decide +kernel
theorem dX0_smokeByTurns_44 : decode cX0_smokeByTurns 44 = .ok (.aload_n 0, 1) := by decide +kernel
theorem dX0_smokeByTurns_45 : decode cX0_smokeByTurns 45 = .ok (.iload 4, 2) := by decide +kernel
theorem dX0_smokeByTurns_47 : decode cX0_smokeByTurns 47 = .ok (.invokevirtual 67, 3) := by decide +kernel
theorem dX0_smokeByTurns_50 : decode cX0_smokeByTurns 50 = .ok (.iload 5, 2) := by decide +kernel
theorem dX0_smokeByTurns_52 : decode cX0_smokeByTurns 52 = .ok (.imul, 1) := by decide +kernel
theorem dX0_smokeByTurns_53 : decode cX0_smokeByTurns 53 = .ok (.aload_n 0, 1) := by decide +kernel
theorem dX0_smokeByTurns_54 : decode cX0_smokeByTurns 54 = .ok (.iload_n 2, 1) := by decide +kernel
theorem dX0_smokeByTurns_55 : decode cX0_smokeByTurns 55 = .ok (.aload_n 0, 1) := by decide +kernel
theorem dX0_smokeByTurns_56 : decode cX0_smokeByTurns 56 = .ok (.iload 4, 2) := by decide +kernel
theorem dX0_smokeByTurns_58 : decode cX0_smokeByTurns 58 = .ok (.invokevirtual 44, 3) := by decide +kernel
theorem dX0_smokeByTurns_61 : decode cX0_smokeByTurns 61 = .ok (.isub, 1) := by decide +kernel
theorem dX0_smokeByTurns_62 : decode cX0_smokeByTurns 62 = .ok (.iconst 1, 1) := by decide +kernel
theorem dX0_smokeByTurns_63 : decode cX0_smokeByTurns 63 = .ok (.iadd, 1) := by decide +kernel
theorem dX0_smokeByTurns_64 : decode cX0_smokeByTurns 64 = .ok (.iload_n 2, 1) := by decide +kernel
theorem dX0_smokeByTurns_65 : decode cX0_smokeByTurns 65 = .ok (.invokevirtual 64, 3) := by decide +kernel
theorem dX0_smokeByTurns_68 : decode cX0_smokeByTurns 68 = .ok (.iadd, 1) := by decide +kernel
theorem dX0_smokeByTurns_69 : decode cX0_smokeByTurns 69 = .ok (.ireturn, 1) := by decide +kernel
theorem dX0_noteReading_0 : decode cX0_noteReading 0 = .ok (.aload_n 0, 1) := by decide +kernel
theorem dX0_noteReading_1 : decode cX0_noteReading 1 = .ok (.getfield 30, 3) := by decide +kernel
theorem dX0_noteReading_4 : decode cX0_noteReading 4 = .ok (.iload_n 1, 1) := by decide +kernel
theorem dX0_noteReading_5 : decode cX0_noteReading 5 = .ok (.iload_n 2, 1) := by decide +kernel
theorem dX0_noteReading_6 : decode cX0_noteReading 6 = .ok (.aload_n 0, 1) := by decide +kernel
theorem dX0_noteReading_7 : decode cX0_noteReading 7 = .ok (.getfield 30, 3) := by decide +kernel
theorem dX0_noteReading_10 : decode cX0_noteReading 10 = .ok (.iload_n 1, 1) := by decide +kernel
theorem dX0_noteReading_11 : decode cX0_noteReading 11 = .ok (.invokevirtual 70, 3) := by decide +kernel
theorem dX0_noteReading_14 : decode cX0_noteReading 14 = .ok (.invokestatic 58, 3) := by decide +kernel
theorem dX0_noteReading_17 : decode cX0_noteReading 17 = .ok (.invokevirtual 73, 3) := by decide +kernel
theorem dX0_noteReading_20 : decode cX0_noteReading 20 = .ok (.aload_n 0, 1) := by decide +kernel
theorem dX0_noteReading_21 : decode cX0_noteReading 21 = .ok (.getfield 34, 3) := by decide +kernel
theorem dX0_noteReading_24 : decode cX0_noteReading 24 = .ok (.iload_n 1, 1) := by decide +kernel
theorem dX0_noteReading_25 : decode cX0_noteReading 25 = .ok (.iload_n 3, 1) := by decide +kernel
theorem dX0_noteReading_26 : decode cX0_noteReading 26 = .ok (.invokevirtual 73, 3) := by decide +kernel
theorem dX0_noteReading_29 : decode cX0_noteReading 29 = .ok (.return_, 1) := by decide +kernel
theorem dX0_finesByAccounts_0 : decode cX0_finesByAccounts 0 = .ok (.aload_n 0, 1) := by decide +kernel
theorem dX0_finesByAccounts_1 : decode cX0_finesByAccounts 1 = .ok (.getfield 21, 3) := by decide +kernel
theorem dX0_finesByAccounts_4 : decode cX0_finesByAccounts 4 = .ok (.aload_n 0, 1) := by decide +kernel
theorem dX0_finesByAccounts_5 : decode cX0_finesByAccounts 5 = .ok (.getfield 24, 3) := by decide +kernel
theorem dX0_finesByAccounts_8 : decode cX0_finesByAccounts 8 = .ok (.isub, 1) := by decide +kernel
theorem dX0_finesByAccounts_9 : decode cX0_finesByAccounts 9 = .ok (.ireturn, 1) := by decide +kernel
theorem dX0_turnsIn_0 : decode cX0_turnsIn 0 = .ok (.aload_n 0, 1) := by decide +kernel
theorem dX0_turnsIn_1 : decode cX0_turnsIn 1 = .ok (.getfield 18, 3) := by decide +kernel
theorem dX0_turnsIn_4 : decode cX0_turnsIn 4 = .ok (.ifCond .le 12, 3) := by decide +kernel
theorem dX0_turnsIn_7 : decode cX0_turnsIn 7 = .ok (.iload_n 1, 1) := by decide +kernel
theorem dX0_turnsIn_8 : decode cX0_turnsIn 8 = .ok (.aload_n 0, 1) := by decide +kernel
theorem dX0_turnsIn_9 : decode cX0_turnsIn 9 = .ok (.getfield 18, 3) := by decide +kernel
theorem dX0_turnsIn_12 : decode cX0_turnsIn 12 = .ok (.idiv, 1) := by decide +kernel
theorem dX0_turnsIn_13 : decode cX0_turnsIn 13 = .ok (.goto 4, 3) := by decide +kernel
theorem dX0_turnsIn_16 : decode cX0_turnsIn 16 = .ok (.iconst 0, 1) := by decide +kernel
theorem dX0_turnsIn_17 : decode cX0_turnsIn 17 = .ok (.ireturn, 1) := by decide +kernel
theorem dX0_leftOf_0 : decode cX0_leftOf 0 = .ok (.aload_n 0, 1) := by decide +kernel
theorem dX0_leftOf_1 : decode cX0_leftOf 1 = .ok (.getfield 18, 3) := by decide +kernel
theorem dX0_leftOf_4 : decode cX0_leftOf 4 = .ok (.ifCond .le 12, 3) := by decide +kernel
theorem dX0_leftOf_7 : decode cX0_leftOf 7 = .ok (.iload_n 1, 1) := by decide +kernel
theorem dX0_leftOf_8 : decode cX0_leftOf 8 = .ok (.aload_n 0, 1) := by decide +kernel
theorem dX0_leftOf_9 : decode cX0_leftOf 9 = .ok (.getfield 18, 3) := by decide +kernel
theorem dX0_leftOf_12 : decode cX0_leftOf 12 = .ok (.irem, 1) := by decide +kernel
theorem dX0_leftOf_13 : decode cX0_leftOf 13 = .ok (.goto 4, 3) := by decide +kernel
theorem dX0_leftOf_16 : decode cX0_leftOf 16 = .ok (.iconst 0, 1) := by decide +kernel
theorem dX0_leftOf_17 : decode cX0_leftOf 17 = .ok (.ireturn, 1) := by decide +kernel
theorem dX1_init_0 : decode cX1_init 0 = .ok (.aload_n 0, 1) := by decide +kernel
theorem dX1_init_1 : decode cX1_init 1 = .ok (.invokespecial 3, 3) := by decide +kernel
theorem dX1_init_4 : decode cX1_init 4 = .ok (.aload_n 0, 1) := by decide +kernel
theorem dX1_init_5 : decode cX1_init 5 = .ok (.bipush 96, 2) := by decide +kernel
theorem dX1_init_7 : decode cX1_init 7 = .ok (.newarray .int, 2) := by decide +kernel
theorem dX1_init_9 : decode cX1_init 9 = .ok (.putfield 9, 3) := by decide +kernel
theorem dX1_init_12 : decode cX1_init 12 = .ok (.aload_n 0, 1) := by decide +kernel
theorem dX1_init_13 : decode cX1_init 13 = .ok (.getfield 9, 3) := by decide +kernel
theorem dX1_init_16 : decode cX1_init 16 = .ok (.iconst (-1), 1) := by decide +kernel
theorem dX1_init_17 : decode cX1_init 17 = .ok (.invokestatic 15, 3) := by decide +kernel
theorem dX1_init_20 : decode cX1_init 20 = .ok (.return_, 1) := by decide +kernel
theorem dX1_copyFrom_0 : decode cX1_copyFrom 0 = .ok (.aload_n 1, 1) := by decide +kernel
theorem dX1_copyFrom_1 : decode cX1_copyFrom 1 = .ok (.getfield 9, 3) := by decide +kernel
theorem dX1_copyFrom_4 : decode cX1_copyFrom 4 = .ok (.iconst 0, 1) := by decide +kernel
theorem dX1_copyFrom_5 : decode cX1_copyFrom 5 = .ok (.aload_n 0, 1) := by decide +kernel
theorem dX1_copyFrom_6 : decode cX1_copyFrom 6 = .ok (.getfield 9, 3) := by decide +kernel
theorem dX1_copyFrom_9 : decode cX1_copyFrom 9 = .ok (.iconst 0, 1) := by decide +kernel
theorem dX1_copyFrom_10 : decode cX1_copyFrom 10 = .ok (.bipush 96, 2) := by decide +kernel
theorem dX1_copyFrom_12 : decode cX1_copyFrom 12 = .ok (.invokestatic 21, 3) := by decide +kernel
theorem dX1_copyFrom_15 : decode cX1_copyFrom 15 = .ok (.return_, 1) := by decide +kernel
theorem dX1_clear_0 : decode cX1_clear 0 = .ok (.aload_n 0, 1) := by decide +kernel
theorem dX1_clear_1 : decode cX1_clear 1 = .ok (.getfield 9, 3) := by decide +kernel
theorem dX1_clear_4 : decode cX1_clear 4 = .ok (.iconst (-1), 1) := by decide +kernel
theorem dX1_clear_5 : decode cX1_clear 5 = .ok (.invokestatic 15, 3) := by decide +kernel
theorem dX1_clear_8 : decode cX1_clear 8 = .ok (.return_, 1) := by decide +kernel
theorem dX1_at_0 : decode cX1_at 0 = .ok (.iload_n 1, 1) := by decide +kernel
theorem dX1_at_1 : decode cX1_at 1 = .ok (.ifCond .lt 18, 3) := by decide +kernel
theorem dX1_at_4 : decode cX1_at 4 = .ok (.iload_n 1, 1) := by decide +kernel
theorem dX1_at_5 : decode cX1_at 5 = .ok (.bipush 96, 2) := by decide +kernel
theorem dX1_at_7 : decode cX1_at 7 = .ok (.if_icmp .ge 12, 3) := by decide +kernel
theorem dX1_at_10 : decode cX1_at 10 = .ok (.aload_n 0, 1) := by decide +kernel
theorem dX1_at_11 : decode cX1_at 11 = .ok (.getfield 9, 3) := by decide +kernel
theorem dX1_at_14 : decode cX1_at 14 = .ok (.iload_n 1, 1) := by decide +kernel
theorem dX1_at_15 : decode cX1_at 15 = .ok (.iaload, 1) := by decide +kernel
theorem dX1_at_16 : decode cX1_at 16 = .ok (.goto 4, 3) := by decide +kernel
theorem dX1_at_19 : decode cX1_at 19 = .ok (.iconst (-1), 1) := by decide +kernel
theorem dX1_at_20 : decode cX1_at 20 = .ok (.ireturn, 1) := by decide +kernel
theorem dX1_note_0 : decode cX1_note 0 = .ok (.iload_n 1, 1) := by decide +kernel
theorem dX1_note_1 : decode cX1_note 1 = .ok (.ifCond .lt 16, 3) := by decide +kernel
theorem dX1_note_4 : decode cX1_note 4 = .ok (.iload_n 1, 1) := by decide +kernel
theorem dX1_note_5 : decode cX1_note 5 = .ok (.bipush 96, 2) := by decide +kernel
theorem dX1_note_7 : decode cX1_note 7 = .ok (.if_icmp .ge 10, 3) := by decide +kernel
theorem dX1_note_10 : decode cX1_note 10 = .ok (.aload_n 0, 1) := by decide +kernel
theorem dX1_note_11 : decode cX1_note 11 = .ok (.getfield 9, 3) := by decide +kernel
theorem dX1_note_14 : decode cX1_note 14 = .ok (.iload_n 1, 1) := by decide +kernel
theorem dX1_note_15 : decode cX1_note 15 = .ok (.iload_n 2, 1) := by decide +kernel
theorem dX1_note_16 : decode cX1_note 16 = .ok (.iastore, 1) := by decide +kernel
theorem dX1_note_17 : decode cX1_note 17 = .ok (.return_, 1) := by decide +kernel
theorem dX1_countFrom_0 : decode cX1_countFrom 0 = .ok (.iconst 0, 1) := by decide +kernel
theorem dX1_countFrom_1 : decode cX1_countFrom 1 = .ok (.istore_n 2, 1) := by decide +kernel
theorem dX1_countFrom_2 : decode cX1_countFrom 2 = .ok (.aload_n 0, 1) := by decide +kernel
theorem dX1_countFrom_3 : decode cX1_countFrom 3 = .ok (.getfield 9, 3) := by decide +kernel
theorem dX1_countFrom_6 : decode cX1_countFrom 6 = .ok (.astore_n 3, 1) := by decide +kernel
theorem dX1_countFrom_7 : decode cX1_countFrom 7 = .ok (.aload_n 3, 1) := by decide +kernel
theorem dX1_countFrom_8 : decode cX1_countFrom 8 = .ok (.arraylength, 1) := by decide +kernel
theorem dX1_countFrom_9 : decode cX1_countFrom 9 = .ok (.istore 4, 2) := by decide +kernel
theorem dX1_countFrom_11 : decode cX1_countFrom 11 = .ok (.iconst 0, 1) := by decide +kernel
theorem dX1_countFrom_12 : decode cX1_countFrom 12 = .ok (.istore 5, 2) := by decide +kernel
theorem dX1_countFrom_14 : decode cX1_countFrom 14 = .ok (.iload 5, 2) := by decide +kernel
theorem dX1_countFrom_16 : decode cX1_countFrom 16 = .ok (.iload 4, 2) := by decide +kernel
theorem dX1_countFrom_18 : decode cX1_countFrom 18 = .ok (.if_icmp .ge 24, 3) := by decide +kernel
theorem dX1_countFrom_21 : decode cX1_countFrom 21 = .ok (.aload_n 3, 1) := by decide +kernel
theorem dX1_countFrom_22 : decode cX1_countFrom 22 = .ok (.iload 5, 2) := by decide +kernel
theorem dX1_countFrom_24 : decode cX1_countFrom 24 = .ok (.iaload, 1) := by decide +kernel
theorem dX1_countFrom_25 : decode cX1_countFrom 25 = .ok (.istore 6, 2) := by decide +kernel
theorem dX1_countFrom_27 : decode cX1_countFrom 27 = .ok (.iload 6, 2) := by decide +kernel
theorem dX1_countFrom_29 : decode cX1_countFrom 29 = .ok (.iload_n 1, 1) := by decide +kernel
theorem dX1_countFrom_30 : decode cX1_countFrom 30 = .ok (.if_icmp .lt 6, 3) := by decide +kernel
theorem dX1_countFrom_33 : decode cX1_countFrom 33 = .ok (.iinc 2 1, 3) := by decide +kernel
theorem dX1_countFrom_36 : decode cX1_countFrom 36 = .ok (.iinc 5 1, 3) := by decide +kernel
theorem dX1_countFrom_39 : decode cX1_countFrom 39 = .ok (.goto (-25), 3) := by decide +kernel
theorem dX1_countFrom_42 : decode cX1_countFrom 42 = .ok (.iload_n 2, 1) := by decide +kernel
theorem dX1_countFrom_43 : decode cX1_countFrom 43 = .ok (.ireturn, 1) := by decide +kernel
theorem dX1_longestByTicks_0 : decode cX1_longestByTicks 0 = .ok (.iconst 0, 1) := by decide +kernel
theorem dX1_longestByTicks_1 : decode cX1_longestByTicks 1 = .ok (.istore_n 2, 1) := by decide +kernel
theorem dX1_longestByTicks_2 : decode cX1_longestByTicks 2 = .ok (.iconst 0, 1) := by decide +kernel
theorem dX1_longestByTicks_3 : decode cX1_longestByTicks 3 = .ok (.istore_n 3, 1) := by decide +kernel
theorem dX1_longestByTicks_4 : decode cX1_longestByTicks 4 = .ok (.aload_n 0, 1) := by decide +kernel
theorem dX1_longestByTicks_5 : decode cX1_longestByTicks 5 = .ok (.getfield 9, 3) := by decide +kernel
theorem dX1_longestByTicks_8 : decode cX1_longestByTicks 8 = .ok (.astore 4, 2) := by decide +kernel
theorem dX1_longestByTicks_10 : decode cX1_longestByTicks 10 = .ok (.aload 4, 2) := by decide +kernel
theorem dX1_longestByTicks_12 : decode cX1_longestByTicks 12 = .ok (.arraylength, 1) := by decide +kernel
theorem dX1_longestByTicks_13 : decode cX1_longestByTicks 13 = .ok (.istore 5, 2) := by decide +kernel
theorem dX1_longestByTicks_15 : decode cX1_longestByTicks 15 = .ok (.iconst 0, 1) := by decide +kernel
theorem dX1_longestByTicks_16 : decode cX1_longestByTicks 16 = .ok (.istore 6, 2) := by decide +kernel
theorem dX1_longestByTicks_18 : decode cX1_longestByTicks 18 = .ok (.iload 6, 2) := by decide +kernel
theorem dX1_longestByTicks_20 : decode cX1_longestByTicks 20 = .ok (.iload 5, 2) := by decide +kernel
theorem dX1_longestByTicks_22 : decode cX1_longestByTicks 22 = .ok (.if_icmp .ge 36, 3) := by decide +kernel
theorem dX1_longestByTicks_25 : decode cX1_longestByTicks 25 = .ok (.aload 4, 2) := by decide +kernel
theorem dX1_longestByTicks_27 : decode cX1_longestByTicks 27 = .ok (.iload 6, 2) := by decide +kernel
theorem dX1_longestByTicks_29 : decode cX1_longestByTicks 29 = .ok (.iaload, 1) := by decide +kernel
theorem dX1_longestByTicks_30 : decode cX1_longestByTicks 30 = .ok (.istore 7, 2) := by decide +kernel
theorem dX1_longestByTicks_32 : decode cX1_longestByTicks 32 = .ok (.iload 7, 2) := by decide +kernel
theorem dX1_longestByTicks_34 : decode cX1_longestByTicks 34 = .ok (.iload_n 1, 1) := by decide +kernel
theorem dX1_longestByTicks_35 : decode cX1_longestByTicks 35 = .ok (.if_icmp .lt 9, 3) := by decide +kernel
theorem dX1_longestByTicks_38 : decode cX1_longestByTicks 38 = .ok (.iload_n 3, 1) := by decide +kernel
theorem dX1_longestByTicks_39 : decode cX1_longestByTicks 39 = .ok (.iconst 1, 1) := by decide +kernel
theorem dX1_longestByTicks_40 : decode cX1_longestByTicks 40 = .ok (.iadd, 1) := by decide +kernel
theorem dX1_longestByTicks_41 : decode cX1_longestByTicks 41 = .ok (.goto 4, 3) := by decide +kernel
theorem dX1_longestByTicks_44 : decode cX1_longestByTicks 44 = .ok (.iconst 0, 1) := by decide +kernel
theorem dX1_longestByTicks_45 : decode cX1_longestByTicks 45 = .ok (.istore_n 3, 1) := by decide +kernel
theorem dX1_longestByTicks_46 : decode cX1_longestByTicks 46 = .ok (.iload_n 2, 1) := by decide +kernel
theorem dX1_longestByTicks_47 : decode cX1_longestByTicks 47 = .ok (.iload_n 3, 1) := by decide +kernel
theorem dX1_longestByTicks_48 : decode cX1_longestByTicks 48 = .ok (.invokestatic 27, 3) := by decide +kernel
theorem dX1_longestByTicks_51 : decode cX1_longestByTicks 51 = .ok (.istore_n 2, 1) := by decide +kernel
theorem dX1_longestByTicks_52 : decode cX1_longestByTicks 52 = .ok (.iinc 6 1, 3) := by decide +kernel
theorem dX1_longestByTicks_55 : decode cX1_longestByTicks 55 = .ok (.goto (-37), 3) := by decide +kernel
theorem dX1_longestByTicks_58 : decode cX1_longestByTicks 58 = .ok (.iload_n 2, 1) := by decide +kernel
theorem dX1_longestByTicks_59 : decode cX1_longestByTicks 59 = .ok (.ireturn, 1) := by decide +kernel
theorem dX1_longestByRows_0 : decode cX1_longestByRows 0 = .ok (.iconst 0, 1) := by decide +kernel
theorem dX1_longestByRows_1 : decode cX1_longestByRows 1 = .ok (.istore_n 2, 1) := by decide +kernel
theorem dX1_longestByRows_2 : decode cX1_longestByRows 2 = .ok (.iconst 0, 1) := by decide +kernel
theorem dX1_longestByRows_3 : decode cX1_longestByRows 3 = .ok (.istore_n 3, 1) := by decide +kernel
theorem dX1_longestByRows_4 : decode cX1_longestByRows 4 = .ok (.iload_n 3, 1) := by decide +kernel
theorem dX1_longestByRows_5 : decode cX1_longestByRows 5 = .ok (.bipush 96, 2) := by decide +kernel
theorem dX1_longestByRows_7 : decode cX1_longestByRows 7 = .ok (.if_icmp .ge 47, 3) := by decide +kernel
theorem dX1_longestByRows_10 : decode cX1_longestByRows 10 = .ok (.iload_n 3, 1) := by decide +kernel
theorem dX1_longestByRows_11 : decode cX1_longestByRows 11 = .ok (.istore 4, 2) := by decide +kernel
theorem dX1_longestByRows_13 : decode cX1_longestByRows 13 = .ok (.iload 4, 2) := by decide +kernel
theorem dX1_longestByRows_15 : decode cX1_longestByRows 15 = .ok (.bipush 96, 2) := by decide +kernel
theorem dX1_longestByRows_17 : decode cX1_longestByRows 17 = .ok (.if_icmp .ge 31, 3) := by decide +kernel
theorem dX1_longestByRows_20 : decode cX1_longestByRows 20 = .ok (.aload_n 0, 1) := by decide +kernel
theorem dX1_longestByRows_21 : decode cX1_longestByRows 21 = .ok (.getfield 9, 3) := by decide +kernel
theorem dX1_longestByRows_24 : decode cX1_longestByRows 24 = .ok (.iload 4, 2) := by decide +kernel
theorem dX1_longestByRows_26 : decode cX1_longestByRows 26 = .ok (.iaload, 1) := by decide +kernel
theorem dX1_longestByRows_27 : decode cX1_longestByRows 27 = .ok (.iload_n 1, 1) := by decide +kernel
theorem dX1_longestByRows_28 : decode cX1_longestByRows 28 = .ok (.if_icmp .lt 20, 3) := by decide +kernel
theorem dX1_longestByRows_31 : decode cX1_longestByRows 31 = .ok (.iload_n 2, 1) := by decide +kernel
theorem dX1_longestByRows_32 : decode cX1_longestByRows 32 = .ok (.iload 4, 2) := by decide +kernel
theorem dX1_longestByRows_34 : decode cX1_longestByRows 34 = .ok (.iload_n 3, 1) := by decide +kernel
theorem dX1_longestByRows_35 : decode cX1_longestByRows 35 = .ok (.isub, 1) := by decide +kernel
theorem dX1_longestByRows_36 : decode cX1_longestByRows 36 = .ok (.iconst 1, 1) := by decide +kernel
theorem dX1_longestByRows_37 : decode cX1_longestByRows 37 = .ok (.iadd, 1) := by decide +kernel
theorem dX1_longestByRows_38 : decode cX1_longestByRows 38 = .ok (.invokestatic 27, 3) := by decide +kernel
theorem dX1_longestByRows_41 : decode cX1_longestByRows 41 = .ok (.istore_n 2, 1) := by decide +kernel
theorem dX1_longestByRows_42 : decode cX1_longestByRows 42 = .ok (.iinc 4 1, 3) := by decide +kernel
theorem dX1_longestByRows_45 : decode cX1_longestByRows 45 = .ok (.goto (-32), 3) := by decide +kernel
theorem dX1_longestByRows_48 : decode cX1_longestByRows 48 = .ok (.iinc 3 1, 3) := by decide +kernel
theorem dX1_longestByRows_51 : decode cX1_longestByRows 51 = .ok (.goto (-47), 3) := by decide +kernel
theorem dX1_longestByRows_54 : decode cX1_longestByRows 54 = .ok (.iload_n 2, 1) := by decide +kernel
theorem dX1_longestByRows_55 : decode cX1_longestByRows 55 = .ok (.ireturn, 1) := by decide +kernel
theorem dX1_rowUpTo_0 : decode cX1_rowUpTo 0 = .ok (.iconst 0, 1) := by decide +kernel
theorem dX1_rowUpTo_1 : decode cX1_rowUpTo 1 = .ok (.istore 4, 2) := by decide +kernel
theorem dX1_rowUpTo_3 : decode cX1_rowUpTo 3 = .ok (.iload 4, 2) := by decide +kernel
theorem dX1_rowUpTo_5 : decode cX1_rowUpTo 5 = .ok (.iload_n 3, 1) := by decide +kernel
theorem dX1_rowUpTo_6 : decode cX1_rowUpTo 6 = .ok (.if_icmp .ge 21, 3) := by decide +kernel
theorem dX1_rowUpTo_9 : decode cX1_rowUpTo 9 = .ok (.aload_n 0, 1) := by decide +kernel
theorem dX1_rowUpTo_10 : decode cX1_rowUpTo 10 = .ok (.iload_n 1, 1) := by decide +kernel
theorem dX1_rowUpTo_11 : decode cX1_rowUpTo 11 = .ok (.iload 4, 2) := by decide +kernel
theorem dX1_rowUpTo_13 : decode cX1_rowUpTo 13 = .ok (.isub, 1) := by decide +kernel
theorem dX1_rowUpTo_14 : decode cX1_rowUpTo 14 = .ok (.invokevirtual 33, 3) := by decide +kernel
theorem dX1_rowUpTo_17 : decode cX1_rowUpTo 17 = .ok (.iload_n 2, 1) := by decide +kernel
theorem dX1_rowUpTo_18 : decode cX1_rowUpTo 18 = .ok (.if_icmp .lt 9, 3) := by decide +kernel
theorem dX1_rowUpTo_21 : decode cX1_rowUpTo 21 = .ok (.iinc 4 1, 3) := by decide +kernel
theorem dX1_rowUpTo_24 : decode cX1_rowUpTo 24 = .ok (.goto (-21), 3) := by decide +kernel
theorem dX1_rowUpTo_27 : decode cX1_rowUpTo 27 = .ok (.iload 4, 2) := by decide +kernel
theorem dX1_rowUpTo_29 : decode cX1_rowUpTo 29 = .ok (.ireturn, 1) := by decide +kernel
theorem dX2_init_0 : decode cX2_init 0 = .ok (.aload_n 0, 1) := by decide +kernel
theorem dX2_init_1 : decode cX2_init 1 = .ok (.invokespecial 3, 3) := by decide +kernel
theorem dX2_init_4 : decode cX2_init 4 = .ok (.aload_n 0, 1) := by decide +kernel
theorem dX2_init_5 : decode cX2_init 5 = .ok (.bipush 6, 2) := by decide +kernel
theorem dX2_init_7 : decode cX2_init 7 = .ok (.anewarray 9, 3) := by decide +kernel
theorem dX2_init_10 : decode cX2_init 10 = .ok (.putfield 11, 3) := by decide +kernel
theorem dX2_init_13 : decode cX2_init 13 = .ok (.aload_n 0, 1) := by decide +kernel
theorem dX2_init_14 : decode cX2_init 14 = .ok (.iconst 0, 1) := by decide +kernel
theorem dX2_init_15 : decode cX2_init 15 = .ok (.putfield 17, 3) := by decide +kernel
theorem dX2_init_18 : decode cX2_init 18 = .ok (.iconst 0, 1) := by decide +kernel
theorem dX2_init_19 : decode cX2_init 19 = .ok (.istore_n 1, 1) := by decide +kernel
theorem dX2_init_20 : decode cX2_init 20 = .ok (.iload_n 1, 1) := by decide +kernel
theorem dX2_init_21 : decode cX2_init 21 = .ok (.bipush 6, 2) := by decide +kernel
theorem dX2_init_23 : decode cX2_init 23 = .ok (.if_icmp .ge 22, 3) := by decide +kernel
theorem dX2_init_26 : decode cX2_init 26 = .ok (.aload_n 0, 1) := by decide +kernel
theorem dX2_init_27 : decode cX2_init 27 = .ok (.getfield 11, 3) := by decide +kernel
theorem dX2_init_30 : decode cX2_init 30 = .ok (.iload_n 1, 1) := by decide +kernel
theorem dX2_init_31 : decode cX2_init 31 = .ok (.new 9, 3) := by decide +kernel
theorem dX2_init_34 : decode cX2_init 34 = .ok (.dup, 1) := by decide +kernel
theorem dX2_init_35 : decode cX2_init 35 = .ok (.invokespecial 21, 3) := by decide +kernel
theorem dX2_init_38 : decode cX2_init 38 = .ok (.aastore, 1) := by decide +kernel
theorem dX2_init_39 : decode cX2_init 39 = .ok (.iinc 1 1, 3) := by decide +kernel
theorem dX2_init_42 : decode cX2_init 42 = .ok (.goto (-22), 3) := by decide +kernel
theorem dX2_init_45 : decode cX2_init 45 = .ok (.return_, 1) := by decide +kernel
theorem dX2_record_0 : decode cX2_record 0 = .ok (.aload_n 0, 1) := by decide +kernel
theorem dX2_record_1 : decode cX2_record 1 = .ok (.getfield 17, 3) := by decide +kernel
theorem dX2_record_4 : decode cX2_record 4 = .ok (.bipush 6, 2) := by decide +kernel
theorem dX2_record_6 : decode cX2_record 6 = .ok (.if_icmp .lt 7, 3) := by decide +kernel
theorem dX2_record_9 : decode cX2_record 9 = .ok (.aload_n 0, 1) := by decide +kernel
theorem dX2_record_10 : decode cX2_record 10 = .ok (.invokevirtual 22, 3) := by decide +kernel
theorem dX2_record_13 : decode cX2_record 13 = .ok (.aload_n 0, 1) := by decide +kernel
theorem dX2_record_14 : decode cX2_record 14 = .ok (.getfield 17, 3) := by decide +kernel
theorem dX2_record_17 : decode cX2_record 17 = .ok (.iconst 0, 1) := by decide +kernel
theorem dX2_record_18 : decode cX2_record 18 = .ok (.iconst 5, 1) := by decide +kernel
theorem dX2_record_19 : decode cX2_record 19 = .ok (.invokestatic 25, 3) := by decide +kernel
theorem dX2_record_22 : decode cX2_record 22 = .ok (.ifCond .eq 26, 3) := by decide +kernel
theorem dX2_record_25 : decode cX2_record 25 = .ok (.aload_n 0, 1) := by decide +kernel
theorem dX2_record_26 : decode cX2_record 26 = .ok (.getfield 11, 3) := by decide +kernel
theorem dX2_record_29 : decode cX2_record 29 = .ok (.aload_n 0, 1) := by decide +kernel
theorem dX2_record_30 : decode cX2_record 30 = .ok (.getfield 17, 3) := by decide +kernel
theorem dX2_record_33 : decode cX2_record 33 = .ok (.aaload, 1) := by decide +kernel
theorem dX2_record_34 : decode cX2_record 34 = .ok (.aload_n 1, 1) := by decide +kernel
theorem dX2_record_35 : decode cX2_record 35 = .ok (.invokevirtual 29, 3) := by decide +kernel
theorem dX2_record_38 : decode cX2_record 38 = .ok (.aload_n 0, 1) := by decide +kernel
theorem dX2_record_39 : decode cX2_record 39 = .ok (.dup, 1) := by decide +kernel
theorem dX2_record_40 : decode cX2_record 40 = .ok (.getfield 17, 3) := by decide +kernel
theorem dX2_record_43 : decode cX2_record 43 = .ok (.iconst 1, 1) := by decide +kernel
theorem dX2_record_44 : decode cX2_record 44 = .ok (.iadd, 1) := by decide +kernel
theorem dX2_record_45 : decode cX2_record 45 = .ok (.putfield 17, 3) := by decide +kernel
theorem dX2_record_48 : decode cX2_record 48 = .ok (.return_, 1) := by decide +kernel
theorem dX2_giveBack_0 : decode cX2_giveBack 0 = .ok (.aload_n 0, 1) := by decide +kernel
theorem dX2_giveBack_1 : decode cX2_giveBack 1 = .ok (.getfield 17, 3) := by decide +kernel
theorem dX2_giveBack_4 : decode cX2_giveBack 4 = .ok (.iconst 1, 1) := by decide +kernel
theorem dX2_giveBack_5 : decode cX2_giveBack 5 = .ok (.bipush 6, 2) := by decide +kernel
theorem dX2_giveBack_7 : decode cX2_giveBack 7 = .ok (.invokestatic 25, 3) := by decide +kernel
theorem dX2_giveBack_10 : decode cX2_giveBack 10 = .ok (.ifCond .eq 26, 3) := by decide +kernel
theorem dX2_giveBack_13 : decode cX2_giveBack 13 = .ok (.aload_n 0, 1) := by decide +kernel
theorem dX2_giveBack_14 : decode cX2_giveBack 14 = .ok (.dup, 1) := by decide +kernel
theorem dX2_giveBack_15 : decode cX2_giveBack 15 = .ok (.getfield 17, 3) := by decide +kernel
theorem dX2_giveBack_18 : decode cX2_giveBack 18 = .ok (.iconst 1, 1) := by decide +kernel
theorem dX2_giveBack_19 : decode cX2_giveBack 19 = .ok (.isub, 1) := by decide +kernel
theorem dX2_giveBack_20 : decode cX2_giveBack 20 = .ok (.putfield 17, 3) := by decide +kernel
theorem dX2_giveBack_23 : decode cX2_giveBack 23 = .ok (.aload_n 1, 1) := by decide +kernel
theorem dX2_giveBack_24 : decode cX2_giveBack 24 = .ok (.aload_n 0, 1) := by decide +kernel
theorem dX2_giveBack_25 : decode cX2_giveBack 25 = .ok (.getfield 11, 3) := by decide +kernel
theorem dX2_giveBack_28 : decode cX2_giveBack 28 = .ok (.aload_n 0, 1) := by decide +kernel
theorem dX2_giveBack_29 : decode cX2_giveBack 29 = .ok (.getfield 17, 3) := by decide +kernel
theorem dX2_giveBack_32 : decode cX2_giveBack 32 = .ok (.aaload, 1) := by decide +kernel
theorem dX2_giveBack_33 : decode cX2_giveBack 33 = .ok (.invokevirtual 29, 3) := by decide +kernel
theorem dX2_giveBack_36 : decode cX2_giveBack 36 = .ok (.return_, 1) := by decide +kernel
theorem dX2_dropOldest_0 : decode cX2_dropOldest 0 = .ok (.aload_n 0, 1) := by decide +kernel
theorem dX2_dropOldest_1 : decode cX2_dropOldest 1 = .ok (.getfield 11, 3) := by decide +kernel
theorem dX2_dropOldest_4 : decode cX2_dropOldest 4 = .ok (.iconst 0, 1) := by decide +kernel
theorem dX2_dropOldest_5 : decode cX2_dropOldest 5 = .ok (.aaload, 1) := by decide +kernel
theorem dX2_dropOldest_6 : decode cX2_dropOldest 6 = .ok (.astore_n 1, 1) := by decide +kernel
theorem dX2_dropOldest_7 : decode cX2_dropOldest 7 = .ok (.iconst 1, 1) := by decide +kernel
theorem dX2_dropOldest_8 : decode cX2_dropOldest 8 = .ok (.istore_n 2, 1) := by decide +kernel
theorem dX2_dropOldest_9 : decode cX2_dropOldest 9 = .ok (.iload_n 2, 1) := by decide +kernel
theorem dX2_dropOldest_10 : decode cX2_dropOldest 10 = .ok (.bipush 6, 2) := by decide +kernel
theorem dX2_dropOldest_12 : decode cX2_dropOldest 12 = .ok (.if_icmp .ge 23, 3) := by decide +kernel
theorem dX2_dropOldest_15 : decode cX2_dropOldest 15 = .ok (.aload_n 0, 1) := by decide +kernel
theorem dX2_dropOldest_16 : decode cX2_dropOldest 16 = .ok (.getfield 11, 3) := by decide +kernel
theorem dX2_dropOldest_19 : decode cX2_dropOldest 19 = .ok (.iload_n 2, 1) := by decide +kernel
theorem dX2_dropOldest_20 : decode cX2_dropOldest 20 = .ok (.iconst 1, 1) := by decide +kernel
theorem dX2_dropOldest_21 : decode cX2_dropOldest 21 = .ok (.isub, 1) := by decide +kernel
theorem dX2_dropOldest_22 : decode cX2_dropOldest 22 = .ok (.aload_n 0, 1) := by decide +kernel
theorem dX2_dropOldest_23 : decode cX2_dropOldest 23 = .ok (.getfield 11, 3) := by decide +kernel
theorem dX2_dropOldest_26 : decode cX2_dropOldest 26 = .ok (.iload_n 2, 1) := by decide +kernel
theorem dX2_dropOldest_27 : decode cX2_dropOldest 27 = .ok (.aaload, 1) := by decide +kernel
theorem dX2_dropOldest_28 : decode cX2_dropOldest 28 = .ok (.aastore, 1) := by decide +kernel
theorem dX2_dropOldest_29 : decode cX2_dropOldest 29 = .ok (.iinc 2 1, 3) := by decide +kernel
theorem dX2_dropOldest_32 : decode cX2_dropOldest 32 = .ok (.goto (-23), 3) := by decide +kernel
theorem dX2_dropOldest_35 : decode cX2_dropOldest 35 = .ok (.aload_n 0, 1) := by decide +kernel
theorem dX2_dropOldest_36 : decode cX2_dropOldest 36 = .ok (.getfield 11, 3) := by decide +kernel
theorem dX2_dropOldest_39 : decode cX2_dropOldest 39 = .ok (.iconst 5, 1) := by decide +kernel
theorem dX2_dropOldest_40 : decode cX2_dropOldest 40 = .ok (.aload_n 1, 1) := by decide +kernel
theorem dX2_dropOldest_41 : decode cX2_dropOldest 41 = .ok (.aastore, 1) := by decide +kernel
theorem dX2_dropOldest_42 : decode cX2_dropOldest 42 = .ok (.aload_n 0, 1) := by decide +kernel
theorem dX2_dropOldest_43 : decode cX2_dropOldest 43 = .ok (.iconst 5, 1) := by decide +kernel
theorem dX2_dropOldest_44 : decode cX2_dropOldest 44 = .ok (.putfield 17, 3) := by decide +kernel
theorem dX2_dropOldest_47 : decode cX2_dropOldest 47 = .ok (.return_, 1) := by decide +kernel
theorem dX3_init_0 : decode cX3_init 0 = .ok (.aload_n 0, 1) := by decide +kernel
theorem dX3_init_1 : decode cX3_init 1 = .ok (.invokespecial 3, 3) := by decide +kernel
theorem dX3_init_4 : decode cX3_init 4 = .ok (.aload_n 0, 1) := by decide +kernel
theorem dX3_init_5 : decode cX3_init 5 = .ok (.iconst (-1), 1) := by decide +kernel
theorem dX3_init_6 : decode cX3_init 6 = .ok (.putfield 9, 3) := by decide +kernel
theorem dX3_init_9 : decode cX3_init 9 = .ok (.aload_n 0, 1) := by decide +kernel
theorem dX3_init_10 : decode cX3_init 10 = .ok (.iconst 0, 1) := by decide +kernel
theorem dX3_init_11 : decode cX3_init 11 = .ok (.putfield 15, 3) := by decide +kernel
theorem dX3_init_14 : decode cX3_init 14 = .ok (.aload_n 0, 1) := by decide +kernel
theorem dX3_init_15 : decode cX3_init 15 = .ok (.iconst 0, 1) := by decide +kernel
theorem dX3_init_16 : decode cX3_init 16 = .ok (.putfield 18, 3) := by decide +kernel
theorem dX3_init_19 : decode cX3_init 19 = .ok (.aload_n 0, 1) := by decide +kernel
theorem dX3_init_20 : decode cX3_init 20 = .ok (.iconst 0, 1) := by decide +kernel
theorem dX3_init_21 : decode cX3_init 21 = .ok (.putfield 22, 3) := by decide +kernel
theorem dX3_init_24 : decode cX3_init 24 = .ok (.aload_n 0, 1) := by decide +kernel
theorem dX3_init_25 : decode cX3_init 25 = .ok (.iconst 0, 1) := by decide +kernel
theorem dX3_init_26 : decode cX3_init 26 = .ok (.putfield 25, 3) := by decide +kernel
theorem dX3_init_29 : decode cX3_init 29 = .ok (.aload_n 0, 1) := by decide +kernel
theorem dX3_init_30 : decode cX3_init 30 = .ok (.iconst 0, 1) := by decide +kernel
theorem dX3_init_31 : decode cX3_init 31 = .ok (.putfield 28, 3) := by decide +kernel
theorem dX3_init_34 : decode cX3_init 34 = .ok (.return_, 1) := by decide +kernel
theorem dX3_copyFrom_0 : decode cX3_copyFrom 0 = .ok (.aload_n 0, 1) := by decide +kernel
theorem dX3_copyFrom_1 : decode cX3_copyFrom 1 = .ok (.aload_n 1, 1) := by decide +kernel
theorem dX3_copyFrom_2 : decode cX3_copyFrom 2 = .ok (.getfield 9, 3) := by decide +kernel
theorem dX3_copyFrom_5 : decode cX3_copyFrom 5 = .ok (.putfield 9, 3) := by decide +kernel
theorem dX3_copyFrom_8 : decode cX3_copyFrom 8 = .ok (.aload_n 0, 1) := by decide +kernel
theorem dX3_copyFrom_9 : decode cX3_copyFrom 9 = .ok (.aload_n 1, 1) := by decide +kernel
theorem dX3_copyFrom_10 : decode cX3_copyFrom 10 = .ok (.getfield 15, 3) := by decide +kernel
theorem dX3_copyFrom_13 : decode cX3_copyFrom 13 = .ok (.putfield 15, 3) := by decide +kernel
theorem dX3_copyFrom_16 : decode cX3_copyFrom 16 = .ok (.aload_n 0, 1) := by decide +kernel
theorem dX3_copyFrom_17 : decode cX3_copyFrom 17 = .ok (.aload_n 1, 1) := by decide +kernel
theorem dX3_copyFrom_18 : decode cX3_copyFrom 18 = .ok (.getfield 18, 3) := by decide +kernel
theorem dX3_copyFrom_21 : decode cX3_copyFrom 21 = .ok (.putfield 18, 3) := by decide +kernel
theorem dX3_copyFrom_24 : decode cX3_copyFrom 24 = .ok (.aload_n 0, 1) := by decide +kernel
theorem dX3_copyFrom_25 : decode cX3_copyFrom 25 = .ok (.aload_n 1, 1) := by decide +kernel
theorem dX3_copyFrom_26 : decode cX3_copyFrom 26 = .ok (.getfield 22, 3) := by decide +kernel
theorem dX3_copyFrom_29 : decode cX3_copyFrom 29 = .ok (.putfield 22, 3) := by decide +kernel
theorem dX3_copyFrom_32 : decode cX3_copyFrom 32 = .ok (.aload_n 0, 1) := by decide +kernel
theorem dX3_copyFrom_33 : decode cX3_copyFrom 33 = .ok (.aload_n 1, 1) := by decide +kernel
theorem dX3_copyFrom_34 : decode cX3_copyFrom 34 = .ok (.getfield 25, 3) := by decide +kernel
theorem dX3_copyFrom_37 : decode cX3_copyFrom 37 = .ok (.putfield 25, 3) := by decide +kernel
theorem dX3_copyFrom_40 : decode cX3_copyFrom 40 = .ok (.aload_n 0, 1) := by decide +kernel
theorem dX3_copyFrom_41 : decode cX3_copyFrom 41 = .ok (.aload_n 1, 1) := by decide +kernel
theorem dX3_copyFrom_42 : decode cX3_copyFrom 42 = .ok (.getfield 28, 3) := by decide +kernel
theorem dX3_copyFrom_45 : decode cX3_copyFrom 45 = .ok (.putfield 28, 3) := by decide +kernel
theorem dX3_copyFrom_48 : decode cX3_copyFrom 48 = .ok (.return_, 1) := by decide +kernel
theorem dX3_outcome_0 : decode cX3_outcome 0 = .ok (.aload_n 0, 1) := by decide +kernel
theorem dX3_outcome_1 : decode cX3_outcome 1 = .ok (.getfield 25, 3) := by decide +kernel
theorem dX3_outcome_4 : decode cX3_outcome 4 = .ok (.ifCond .eq 5, 3) := by decide +kernel
theorem dX3_outcome_7 : decode cX3_outcome 7 = .ok (.iconst 3, 1) := by decide +kernel
theorem dX3_outcome_8 : decode cX3_outcome 8 = .ok (.ireturn, 1) := by decide +kernel
theorem dX3_outcome_9 : decode cX3_outcome 9 = .ok (.aload_n 0, 1) := by decide +kernel
theorem dX3_outcome_10 : decode cX3_outcome 10 = .ok (.getfield 18, 3) := by decide +kernel
theorem dX3_outcome_13 : decode cX3_outcome 13 = .ok (.ifCond .eq 5, 3) := by decide +kernel
theorem dX3_outcome_16 : decode cX3_outcome 16 = .ok (.iconst 0, 1) := by decide +kernel
theorem dX3_outcome_17 : decode cX3_outcome 17 = .ok (.ireturn, 1) := by decide +kernel
theorem dX3_outcome_18 : decode cX3_outcome 18 = .ok (.aload_n 0, 1) := by decide +kernel
theorem dX3_outcome_19 : decode cX3_outcome 19 = .ok (.getfield 22, 3) := by decide +kernel
theorem dX3_outcome_22 : decode cX3_outcome 22 = .ok (.ifCond .eq 7, 3) := by decide +kernel
theorem dX3_outcome_25 : decode cX3_outcome 25 = .ok (.iconst 1, 1) := by decide +kernel
theorem dX3_outcome_26 : decode cX3_outcome 26 = .ok (.goto 4, 3) := by decide +kernel
theorem dX3_outcome_29 : decode cX3_outcome 29 = .ok (.iconst 2, 1) := by decide +kernel
theorem dX3_outcome_30 : decode cX3_outcome 30 = .ok (.ireturn, 1) := by decide +kernel
theorem dX4_init_0 : decode cX4_init 0 = .ok (.aload_n 0, 1) := by decide +kernel
theorem dX4_init_1 : decode cX4_init 1 = .ok (.invokespecial 3, 3) := by decide +kernel
theorem dX4_init_4 : decode cX4_init 4 = .ok (.aload_n 0, 1) := by decide +kernel
theorem dX4_init_5 : decode cX4_init 5 = .ok (.iconst (-1), 1) := by decide +kernel
theorem dX4_init_6 : decode cX4_init 6 = .ok (.putfield 9, 3) := by decide +kernel
theorem dX4_init_9 : decode cX4_init 9 = .ok (.aload_n 0, 1) := by decide +kernel
theorem dX4_init_10 : decode cX4_init 10 = .ok (.iconst 0, 1) := by decide +kernel
theorem dX4_init_11 : decode cX4_init 11 = .ok (.putfield 15, 3) := by decide +kernel
theorem dX4_init_14 : decode cX4_init 14 = .ok (.aload_n 0, 1) := by decide +kernel
theorem dX4_init_15 : decode cX4_init 15 = .ok (.iconst 0, 1) := by decide +kernel
theorem dX4_init_16 : decode cX4_init 16 = .ok (.putfield 18, 3) := by decide +kernel
theorem dX4_init_19 : decode cX4_init 19 = .ok (.aload_n 0, 1) := by decide +kernel
theorem dX4_init_20 : decode cX4_init 20 = .ok (.iconst 0, 1) := by decide +kernel
theorem dX4_init_21 : decode cX4_init 21 = .ok (.putfield 21, 3) := by decide +kernel
theorem dX4_init_24 : decode cX4_init 24 = .ok (.aload_n 0, 1) := by decide +kernel
theorem dX4_init_25 : decode cX4_init 25 = .ok (.iconst 0, 1) := by decide +kernel
theorem dX4_init_26 : decode cX4_init 26 = .ok (.putfield 24, 3) := by decide +kernel
theorem dX4_init_29 : decode cX4_init 29 = .ok (.return_, 1) := by decide +kernel
theorem dX4_copyFrom_0 : decode cX4_copyFrom 0 = .ok (.aload_n 0, 1) := by decide +kernel
theorem dX4_copyFrom_1 : decode cX4_copyFrom 1 = .ok (.aload_n 1, 1) := by decide +kernel
theorem dX4_copyFrom_2 : decode cX4_copyFrom 2 = .ok (.getfield 9, 3) := by decide +kernel
theorem dX4_copyFrom_5 : decode cX4_copyFrom 5 = .ok (.putfield 9, 3) := by decide +kernel
theorem dX4_copyFrom_8 : decode cX4_copyFrom 8 = .ok (.aload_n 0, 1) := by decide +kernel
theorem dX4_copyFrom_9 : decode cX4_copyFrom 9 = .ok (.aload_n 1, 1) := by decide +kernel
theorem dX4_copyFrom_10 : decode cX4_copyFrom 10 = .ok (.getfield 15, 3) := by decide +kernel
theorem dX4_copyFrom_13 : decode cX4_copyFrom 13 = .ok (.putfield 15, 3) := by decide +kernel
theorem dX4_copyFrom_16 : decode cX4_copyFrom 16 = .ok (.aload_n 0, 1) := by decide +kernel
theorem dX4_copyFrom_17 : decode cX4_copyFrom 17 = .ok (.aload_n 1, 1) := by decide +kernel
theorem dX4_copyFrom_18 : decode cX4_copyFrom 18 = .ok (.getfield 18, 3) := by decide +kernel
theorem dX4_copyFrom_21 : decode cX4_copyFrom 21 = .ok (.putfield 18, 3) := by decide +kernel
theorem dX4_copyFrom_24 : decode cX4_copyFrom 24 = .ok (.aload_n 0, 1) := by decide +kernel
theorem dX4_copyFrom_25 : decode cX4_copyFrom 25 = .ok (.aload_n 1, 1) := by decide +kernel
theorem dX4_copyFrom_26 : decode cX4_copyFrom 26 = .ok (.getfield 21, 3) := by decide +kernel
theorem dX4_copyFrom_29 : decode cX4_copyFrom 29 = .ok (.putfield 21, 3) := by decide +kernel
theorem dX4_copyFrom_32 : decode cX4_copyFrom 32 = .ok (.aload_n 0, 1) := by decide +kernel
theorem dX4_copyFrom_33 : decode cX4_copyFrom 33 = .ok (.aload_n 1, 1) := by decide +kernel
theorem dX4_copyFrom_34 : decode cX4_copyFrom 34 = .ok (.getfield 24, 3) := by decide +kernel
theorem dX4_copyFrom_37 : decode cX4_copyFrom 37 = .ok (.putfield 24, 3) := by decide +kernel
theorem dX4_copyFrom_40 : decode cX4_copyFrom 40 = .ok (.return_, 1) := by decide +kernel
theorem dX4_readingFor_0 : decode cX4_readingFor 0 = .ok (.iload_n 2, 1) := by decide +kernel
theorem dX4_readingFor_1 : decode cX4_readingFor 1 = .ok (.iconst 3, 1) := by decide +kernel
theorem dX4_readingFor_2 : decode cX4_readingFor 2 = .ok (.if_icmp .lt 10, 3) := by decide +kernel
theorem dX4_readingFor_5 : decode cX4_readingFor 5 = .ok (.iload_n 1, 1) := by decide +kernel
theorem dX4_readingFor_6 : decode cX4_readingFor 6 = .ok (.iconst 2, 1) := by decide +kernel
theorem dX4_readingFor_7 : decode cX4_readingFor 7 = .ok (.if_icmp .gt 5, 3) := by decide +kernel
theorem dX4_readingFor_10 : decode cX4_readingFor 10 = .ok (.iconst 0, 1) := by decide +kernel
theorem dX4_readingFor_11 : decode cX4_readingFor 11 = .ok (.ireturn, 1) := by decide +kernel
theorem dX4_readingFor_12 : decode cX4_readingFor 12 = .ok (.aload_n 0, 1) := by decide +kernel
theorem dX4_readingFor_13 : decode cX4_readingFor 13 = .ok (.getfield 18, 3) := by decide +kernel
theorem dX4_readingFor_16 : decode cX4_readingFor 16 = .ok (.bipush 12, 2) := by decide +kernel
theorem dX4_readingFor_18 : decode cX4_readingFor 18 = .ok (.if_icmp .lt 7, 3) := by decide +kernel
theorem dX4_readingFor_21 : decode cX4_readingFor 21 = .ok (.iconst 1, 1) := by decide +kernel
theorem dX4_readingFor_22 : decode cX4_readingFor 22 = .ok (.goto 4, 3) := by decide +kernel
theorem dX4_readingFor_25 : decode cX4_readingFor 25 = .ok (.iconst 0, 1) := by decide +kernel
theorem dX4_readingFor_26 : decode cX4_readingFor 26 = .ok (.istore_n 3, 1) := by decide +kernel
theorem dX4_readingFor_27 : decode cX4_readingFor 27 = .ok (.iload_n 1, 1) := by decide +kernel
theorem dX4_readingFor_28 : decode cX4_readingFor 28 = .ok (.aload_n 0, 1) := by decide +kernel
theorem dX4_readingFor_29 : decode cX4_readingFor 29 = .ok (.getfield 15, 3) := by decide +kernel
theorem dX4_readingFor_32 : decode cX4_readingFor 32 = .ok (.iadd, 1) := by decide +kernel
theorem dX4_readingFor_33 : decode cX4_readingFor 33 = .ok (.iload_n 3, 1) := by decide +kernel
theorem dX4_readingFor_34 : decode cX4_readingFor 34 = .ok (.isub, 1) := by decide +kernel
theorem dX4_readingFor_35 : decode cX4_readingFor 35 = .ok (.invokestatic 27, 3) := by decide +kernel
theorem dX4_readingFor_38 : decode cX4_readingFor 38 = .ok (.ireturn, 1) := by decide +kernel
theorem dX4_countReading_0 : decode cX4_countReading 0 = .ok (.aload_n 0, 1) := by decide +kernel
theorem dX4_countReading_1 : decode cX4_countReading 1 = .ok (.dup, 1) := by decide +kernel
theorem dX4_countReading_2 : decode cX4_countReading 2 = .ok (.getfield 21, 3) := by decide +kernel
theorem dX4_countReading_5 : decode cX4_countReading 5 = .ok (.iload_n 1, 1) := by decide +kernel
theorem dX4_countReading_6 : decode cX4_countReading 6 = .ok (.iload_n 2, 1) := by decide +kernel
theorem dX4_countReading_7 : decode cX4_countReading 7 = .ok (.isub, 1) := by decide +kernel
theorem dX4_countReading_8 : decode cX4_countReading 8 = .ok (.invokestatic 31, 3) := by decide +kernel
theorem dX4_countReading_11 : decode cX4_countReading 11 = .ok (.iadd, 1) := by decide +kernel
theorem dX4_countReading_12 : decode cX4_countReading 12 = .ok (.putfield 21, 3) := by decide +kernel
theorem dX4_countReading_15 : decode cX4_countReading 15 = .ok (.aload_n 0, 1) := by decide +kernel
theorem dX4_countReading_16 : decode cX4_countReading 16 = .ok (.dup, 1) := by decide +kernel
theorem dX4_countReading_17 : decode cX4_countReading 17 = .ok (.getfield 24, 3) := by decide +kernel
theorem dX4_countReading_20 : decode cX4_countReading 20 = .ok (.iconst 1, 1) := by decide +kernel
theorem dX4_countReading_21 : decode cX4_countReading 21 = .ok (.iadd, 1) := by decide +kernel
theorem dX4_countReading_22 : decode cX4_countReading 22 = .ok (.putfield 24, 3) := by decide +kernel
theorem dX4_countReading_25 : decode cX4_countReading 25 = .ok (.return_, 1) := by decide +kernel
theorem dX4_tire_0 : decode cX4_tire 0 = .ok (.aload_n 0, 1) := by decide +kernel
theorem dX4_tire_1 : decode cX4_tire 1 = .ok (.aload_n 0, 1) := by decide +kernel
theorem dX4_tire_2 : decode cX4_tire 2 = .ok (.getfield 9, 3) := by decide +kernel
theorem dX4_tire_5 : decode cX4_tire 5 = .ok (.iconst (-1), 1) := by decide +kernel
theorem dX4_tire_6 : decode cX4_tire 6 = .ok (.if_icmp .ne 7, 3) := by decide +kernel
theorem dX4_tire_9 : decode cX4_tire 9 = .ok (.iconst 0, 1) := by decide +kernel
theorem dX4_tire_10 : decode cX4_tire 10 = .ok (.goto 9, 3) := by decide +kernel
theorem dX4_tire_13 : decode cX4_tire 13 = .ok (.aload_n 0, 1) := by decide +kernel
theorem dX4_tire_14 : decode cX4_tire 14 = .ok (.getfield 18, 3) := by decide +kernel
theorem dX4_tire_17 : decode cX4_tire 17 = .ok (.iconst 1, 1) := by decide +kernel
theorem dX4_tire_18 : decode cX4_tire 18 = .ok (.iadd, 1) := by decide +kernel
theorem dX4_tire_19 : decode cX4_tire 19 = .ok (.putfield 18, 3) := by decide +kernel
theorem dX4_tire_22 : decode cX4_tire 22 = .ok (.return_, 1) := by decide +kernel
theorem dX5_init_0 : decode cX5_init 0 = .ok (.aload_n 0, 1) := by decide +kernel
theorem dX5_init_1 : decode cX5_init 1 = .ok (.invokespecial 3, 3) := by decide +kernel
theorem dX5_init_4 : decode cX5_init 4 = .ok (.aload_n 0, 1) := by decide +kernel
theorem dX5_init_5 : decode cX5_init 5 = .ok (.bipush 60, 2) := by decide +kernel
theorem dX5_init_7 : decode cX5_init 7 = .ok (.newarray .char, 2) := by decide +kernel
theorem dX5_init_9 : decode cX5_init 9 = .ok (.putfield 9, 3) := by decide +kernel
theorem dX5_init_12 : decode cX5_init 12 = .ok (.aload_n 0, 1) := by decide +kernel
theorem dX5_init_13 : decode cX5_init 13 = .ok (.iconst 0, 1) := by decide +kernel
theorem dX5_init_14 : decode cX5_init 14 = .ok (.putfield 15, 3) := by decide +kernel
theorem dX5_init_17 : decode cX5_init 17 = .ok (.aload_n 0, 1) := by decide +kernel
theorem dX5_init_18 : decode cX5_init 18 = .ok (.iconst 0, 1) := by decide +kernel
theorem dX5_init_19 : decode cX5_init 19 = .ok (.putfield 19, 3) := by decide +kernel
theorem dX5_init_22 : decode cX5_init 22 = .ok (.aload_n 0, 1) := by decide +kernel
theorem dX5_init_23 : decode cX5_init 23 = .ok (.iconst 0, 1) := by decide +kernel
theorem dX5_init_24 : decode cX5_init 24 = .ok (.putfield 22, 3) := by decide +kernel
theorem dX5_init_27 : decode cX5_init 27 = .ok (.aload_n 0, 1) := by decide +kernel
theorem dX5_init_28 : decode cX5_init 28 = .ok (.iconst (-1), 1) := by decide +kernel
theorem dX5_init_29 : decode cX5_init 29 = .ok (.putfield 26, 3) := by decide +kernel
theorem dX5_init_32 : decode cX5_init 32 = .ok (.aload_n 0, 1) := by decide +kernel
theorem dX5_init_33 : decode cX5_init 33 = .ok (.iconst (-1), 1) := by decide +kernel
theorem dX5_init_34 : decode cX5_init 34 = .ok (.putfield 29, 3) := by decide +kernel
theorem dX5_init_37 : decode cX5_init 37 = .ok (.return_, 1) := by decide +kernel
theorem dX6_init_0 : decode cX6_init 0 = .ok (.aload_n 0, 1) := by decide +kernel
theorem dX6_init_1 : decode cX6_init 1 = .ok (.invokespecial 3, 3) := by decide +kernel
theorem dX6_init_4 : decode cX6_init 4 = .ok (.aload_n 0, 1) := by decide +kernel
theorem dX6_init_5 : decode cX6_init 5 = .ok (.bipush 8, 2) := by decide +kernel
theorem dX6_init_7 : decode cX6_init 7 = .ok (.anewarray 9, 3) := by decide +kernel
theorem dX6_init_10 : decode cX6_init 10 = .ok (.putfield 11, 3) := by decide +kernel
theorem dX6_init_13 : decode cX6_init 13 = .ok (.aload_n 0, 1) := by decide +kernel
theorem dX6_init_14 : decode cX6_init 14 = .ok (.iconst 3, 1) := by decide +kernel
theorem dX6_init_15 : decode cX6_init 15 = .ok (.anewarray 17, 3) := by decide +kernel
theorem dX6_init_18 : decode cX6_init 18 = .ok (.putfield 19, 3) := by decide +kernel
theorem dX6_init_21 : decode cX6_init 21 = .ok (.aload_n 0, 1) := by decide +kernel
theorem dX6_init_22 : decode cX6_init 22 = .ok (.bipush 20, 2) := by decide +kernel
theorem dX6_init_24 : decode cX6_init 24 = .ok (.anewarray 23, 3) := by decide +kernel
theorem dX6_init_27 : decode cX6_init 27 = .ok (.putfield 25, 3) := by decide +kernel
theorem dX6_init_30 : decode cX6_init 30 = .ok (.aload_n 0, 1) := by decide +kernel
theorem dX6_init_31 : decode cX6_init 31 = .ok (.bipush 24, 2) := by decide +kernel
theorem dX6_init_33 : decode cX6_init 33 = .ok (.newarray .int, 2) := by decide +kernel
theorem dX6_init_35 : decode cX6_init 35 = .ok (.putfield 29, 3) := by decide +kernel
theorem dX6_init_38 : decode cX6_init 38 = .ok (.aload_n 0, 1) := by decide +kernel
theorem dX6_init_39 : decode cX6_init 39 = .ok (.new 33, 3) := by decide +kernel
theorem dX6_init_42 : decode cX6_init 42 = .ok (.dup, 1) := by decide +kernel
theorem dX6_init_43 : decode cX6_init 43 = .ok (.invokespecial 35, 3) := by decide +kernel
theorem dX6_init_46 : decode cX6_init 46 = .ok (.putfield 36, 3) := by decide +kernel
theorem dX6_init_49 : decode cX6_init 49 = .ok (.aload_n 0, 1) := by decide +kernel
theorem dX6_init_50 : decode cX6_init 50 = .ok (.iconst 0, 1) := by decide +kernel
theorem dX6_init_51 : decode cX6_init 51 = .ok (.putfield 40, 3) := by decide +kernel
theorem dX6_init_54 : decode cX6_init 54 = .ok (.aload_n 0, 1) := by decide +kernel
theorem dX6_init_55 : decode cX6_init 55 = .ok (.iconst 3, 1) := by decide +kernel
theorem dX6_init_56 : decode cX6_init 56 = .ok (.putfield 44, 3) := by decide +kernel
theorem dX6_init_59 : decode cX6_init 59 = .ok (.aload_n 0, 1) := by decide +kernel
theorem dX6_init_60 : decode cX6_init 60 = .ok (.iconst 3, 1) := by decide +kernel
theorem dX6_init_61 : decode cX6_init 61 = .ok (.putfield 47, 3) := by decide +kernel
theorem dX6_init_64 : decode cX6_init 64 = .ok (.aload_n 0, 1) := by decide +kernel
theorem dX6_init_65 : decode cX6_init 65 = .ok (.iconst 0, 1) := by decide +kernel
theorem dX6_init_66 : decode cX6_init 66 = .ok (.putfield 50, 3) := by decide +kernel
theorem dX6_init_69 : decode cX6_init 69 = .ok (.aload_n 0, 1) := by decide +kernel
theorem dX6_init_70 : decode cX6_init 70 = .ok (.iconst 0, 1) := by decide +kernel
theorem dX6_init_71 : decode cX6_init 71 = .ok (.putfield 53, 3) := by decide +kernel
theorem dX6_init_74 : decode cX6_init 74 = .ok (.iconst 0, 1) := by decide +kernel
theorem dX6_init_75 : decode cX6_init 75 = .ok (.istore_n 1, 1) := by decide +kernel
theorem dX6_init_76 : decode cX6_init 76 = .ok (.iload_n 1, 1) := by decide +kernel
theorem dX6_init_77 : decode cX6_init 77 = .ok (.bipush 8, 2) := by decide +kernel
theorem dX6_init_79 : decode cX6_init 79 = .ok (.if_icmp .ge 25, 3) := by decide +kernel
theorem dX6_init_82 : decode cX6_init 82 = .ok (.aload_n 0, 1) := by decide +kernel
theorem dX6_init_83 : decode cX6_init 83 = .ok (.getfield 11, 3) := by decide +kernel
theorem dX6_init_86 : decode cX6_init 86 = .ok (.iload_n 1, 1) := by decide +kernel
theorem dX6_init_87 : decode cX6_init 87 = .ok (.new 9, 3) := by decide +kernel
theorem dX6_init_90 : decode cX6_init 90 = .ok (.dup, 1) := by decide +kernel
theorem dX6_init_91 : decode cX6_init 91 = .ok (.iload_n 1, 1) := by decide +kernel
theorem dX6_init_92 : decode cX6_init 92 = .ok (.iconst 4, 1) := by decide +kernel
theorem dX6_init_93 : decode cX6_init 93 = .ok (.irem, 1) := by decide +kernel
theorem dX6_init_94 : decode cX6_init 94 = .ok (.invokespecial 56, 3) := by decide +kernel
theorem dX6_init_97 : decode cX6_init 97 = .ok (.aastore, 1) := by decide +kernel
theorem dX6_init_98 : decode cX6_init 98 = .ok (.iinc 1 1, 3) := by decide +kernel
theorem dX6_init_101 : decode cX6_init 101 = .ok (.goto (-25), 3) := by decide +kernel
theorem dX6_init_104 : decode cX6_init 104 = .ok (.iconst 0, 1) := by decide +kernel
theorem dX6_init_105 : decode cX6_init 105 = .ok (.istore_n 1, 1) := by decide +kernel
theorem dX6_init_106 : decode cX6_init 106 = .ok (.iload_n 1, 1) := by decide +kernel
theorem dX6_init_107 : decode cX6_init 107 = .ok (.iconst 3, 1) := by decide +kernel
theorem dX6_init_108 : decode cX6_init 108 = .ok (.if_icmp .ge 22, 3) := by decide +kernel
theorem dX6_init_111 : decode cX6_init 111 = .ok (.aload_n 0, 1) := by decide +kernel
theorem dX6_init_112 : decode cX6_init 112 = .ok (.getfield 19, 3) := by decide +kernel
theorem dX6_init_115 : decode cX6_init 115 = .ok (.iload_n 1, 1) := by decide +kernel
theorem dX6_init_116 : decode cX6_init 116 = .ok (.new 17, 3) := by decide +kernel
theorem dX6_init_119 : decode cX6_init 119 = .ok (.dup, 1) := by decide +kernel
theorem dX6_init_120 : decode cX6_init 120 = .ok (.invokespecial 59, 3) := by decide +kernel
theorem dX6_init_123 : decode cX6_init 123 = .ok (.aastore, 1) := by decide +kernel
theorem dX6_init_124 : decode cX6_init 124 = .ok (.iinc 1 1, 3) := by decide +kernel
theorem dX6_init_127 : decode cX6_init 127 = .ok (.goto (-21), 3) := by decide +kernel
theorem dX6_init_130 : decode cX6_init 130 = .ok (.iconst 0, 1) := by decide +kernel
theorem dX6_init_131 : decode cX6_init 131 = .ok (.istore_n 1, 1) := by decide +kernel
theorem dX6_init_132 : decode cX6_init 132 = .ok (.iload_n 1, 1) := by decide +kernel
theorem dX6_init_133 : decode cX6_init 133 = .ok (.bipush 20, 2) := by decide +kernel
theorem dX6_init_135 : decode cX6_init 135 = .ok (.if_icmp .ge 22, 3) := by decide +kernel
theorem dX6_init_138 : decode cX6_init 138 = .ok (.aload_n 0, 1) := by decide +kernel
theorem dX6_init_139 : decode cX6_init 139 = .ok (.getfield 25, 3) := by decide +kernel
theorem dX6_init_142 : decode cX6_init 142 = .ok (.iload_n 1, 1) := by decide +kernel
theorem dX6_init_143 : decode cX6_init 143 = .ok (.new 23, 3) := by decide +kernel
theorem dX6_init_146 : decode cX6_init 146 = .ok (.dup, 1) := by decide +kernel
theorem dX6_init_147 : decode cX6_init 147 = .ok (.invokespecial 60, 3) := by decide +kernel
theorem dX6_init_150 : decode cX6_init 150 = .ok (.aastore, 1) := by decide +kernel
theorem dX6_init_151 : decode cX6_init 151 = .ok (.iinc 1 1, 3) := by decide +kernel
theorem dX6_init_154 : decode cX6_init 154 = .ok (.goto (-22), 3) := by decide +kernel
theorem dX6_init_157 : decode cX6_init 157 = .ok (.return_, 1) := by decide +kernel
theorem dX6_copyFrom_0 : decode cX6_copyFrom 0 = .ok (.iconst 0, 1) := by decide +kernel
theorem dX6_copyFrom_1 : decode cX6_copyFrom 1 = .ok (.istore_n 2, 1) := by decide +kernel
theorem dX6_copyFrom_2 : decode cX6_copyFrom 2 = .ok (.iload_n 2, 1) := by decide +kernel
theorem dX6_copyFrom_3 : decode cX6_copyFrom 3 = .ok (.bipush 8, 2) := by decide +kernel
theorem dX6_copyFrom_5 : decode cX6_copyFrom 5 = .ok (.if_icmp .ge 24, 3) := by decide +kernel
theorem dX6_copyFrom_8 : decode cX6_copyFrom 8 = .ok (.aload_n 0, 1) := by decide +kernel
theorem dX6_copyFrom_9 : decode cX6_copyFrom 9 = .ok (.getfield 11, 3) := by decide +kernel
theorem dX6_copyFrom_12 : decode cX6_copyFrom 12 = .ok (.iload_n 2, 1) := by decide +kernel
theorem dX6_copyFrom_13 : decode cX6_copyFrom 13 = .ok (.aaload, 1) := by decide +kernel
theorem dX6_copyFrom_14 : decode cX6_copyFrom 14 = .ok (.aload_n 1, 1) := by decide +kernel
theorem dX6_copyFrom_15 : decode cX6_copyFrom 15 = .ok (.getfield 11, 3) := by decide +kernel
theorem dX6_copyFrom_18 : decode cX6_copyFrom 18 = .ok (.iload_n 2, 1) := by decide +kernel
theorem dX6_copyFrom_19 : decode cX6_copyFrom 19 = .ok (.aaload, 1) := by decide +kernel
theorem dX6_copyFrom_20 : decode cX6_copyFrom 20 = .ok (.invokevirtual 61, 3) := by decide +kernel
theorem dX6_copyFrom_23 : decode cX6_copyFrom 23 = .ok (.iinc 2 1, 3) := by decide +kernel
theorem dX6_copyFrom_26 : decode cX6_copyFrom 26 = .ok (.goto (-24), 3) := by decide +kernel
theorem dX6_copyFrom_29 : decode cX6_copyFrom 29 = .ok (.iconst 0, 1) := by decide +kernel
theorem dX6_copyFrom_30 : decode cX6_copyFrom 30 = .ok (.istore_n 2, 1) := by decide +kernel
theorem dX6_copyFrom_31 : decode cX6_copyFrom 31 = .ok (.iload_n 2, 1) := by decide +kernel
theorem dX6_copyFrom_32 : decode cX6_copyFrom 32 = .ok (.iconst 3, 1) := by decide +kernel
theorem dX6_copyFrom_33 : decode cX6_copyFrom 33 = .ok (.if_icmp .ge 24, 3) := by decide +kernel
theorem dX6_copyFrom_36 : decode cX6_copyFrom 36 = .ok (.aload_n 0, 1) := by decide +kernel
theorem dX6_copyFrom_37 : decode cX6_copyFrom 37 = .ok (.getfield 19, 3) := by decide +kernel
theorem dX6_copyFrom_40 : decode cX6_copyFrom 40 = .ok (.iload_n 2, 1) := by decide +kernel
theorem dX6_copyFrom_41 : decode cX6_copyFrom 41 = .ok (.aaload, 1) := by decide +kernel
theorem dX6_copyFrom_42 : decode cX6_copyFrom 42 = .ok (.aload_n 1, 1) := by decide +kernel
theorem dX6_copyFrom_43 : decode cX6_copyFrom 43 = .ok (.getfield 19, 3) := by decide +kernel
theorem dX6_copyFrom_46 : decode cX6_copyFrom 46 = .ok (.iload_n 2, 1) := by decide +kernel
theorem dX6_copyFrom_47 : decode cX6_copyFrom 47 = .ok (.aaload, 1) := by decide +kernel
theorem dX6_copyFrom_48 : decode cX6_copyFrom 48 = .ok (.invokevirtual 65, 3) := by decide +kernel
theorem dX6_copyFrom_51 : decode cX6_copyFrom 51 = .ok (.iinc 2 1, 3) := by decide +kernel
theorem dX6_copyFrom_54 : decode cX6_copyFrom 54 = .ok (.goto (-23), 3) := by decide +kernel
theorem dX6_copyFrom_57 : decode cX6_copyFrom 57 = .ok (.iconst 0, 1) := by decide +kernel
theorem dX6_copyFrom_58 : decode cX6_copyFrom 58 = .ok (.istore_n 2, 1) := by decide +kernel
theorem dX6_copyFrom_59 : decode cX6_copyFrom 59 = .ok (.iload_n 2, 1) := by decide +kernel
theorem dX6_copyFrom_60 : decode cX6_copyFrom 60 = .ok (.bipush 20, 2) := by decide +kernel
theorem dX6_copyFrom_62 : decode cX6_copyFrom 62 = .ok (.if_icmp .ge 24, 3) := by decide +kernel
theorem dX6_copyFrom_65 : decode cX6_copyFrom 65 = .ok (.aload_n 0, 1) := by decide +kernel
theorem dX6_copyFrom_66 : decode cX6_copyFrom 66 = .ok (.getfield 25, 3) := by decide +kernel
theorem dX6_copyFrom_69 : decode cX6_copyFrom 69 = .ok (.iload_n 2, 1) := by decide +kernel
theorem dX6_copyFrom_70 : decode cX6_copyFrom 70 = .ok (.aaload, 1) := by decide +kernel
theorem dX6_copyFrom_71 : decode cX6_copyFrom 71 = .ok (.aload_n 1, 1) := by decide +kernel
theorem dX6_copyFrom_72 : decode cX6_copyFrom 72 = .ok (.getfield 25, 3) := by decide +kernel
theorem dX6_copyFrom_75 : decode cX6_copyFrom 75 = .ok (.iload_n 2, 1) := by decide +kernel
theorem dX6_copyFrom_76 : decode cX6_copyFrom 76 = .ok (.aaload, 1) := by decide +kernel
theorem dX6_copyFrom_77 : decode cX6_copyFrom 77 = .ok (.invokevirtual 68, 3) := by decide +kernel
theorem dX6_copyFrom_80 : decode cX6_copyFrom 80 = .ok (.iinc 2 1, 3) := by decide +kernel
theorem dX6_copyFrom_83 : decode cX6_copyFrom 83 = .ok (.goto (-24), 3) := by decide +kernel
theorem dX6_copyFrom_86 : decode cX6_copyFrom 86 = .ok (.aload_n 1, 1) := by decide +kernel
theorem dX6_copyFrom_87 : decode cX6_copyFrom 87 = .ok (.getfield 29, 3) := by decide +kernel
theorem dX6_copyFrom_90 : decode cX6_copyFrom 90 = .ok (.iconst 0, 1) := by decide +kernel
theorem dX6_copyFrom_91 : decode cX6_copyFrom 91 = .ok (.aload_n 0, 1) := by decide +kernel
theorem dX6_copyFrom_92 : decode cX6_copyFrom 92 = .ok (.getfield 29, 3) := by decide +kernel
theorem dX6_copyFrom_95 : decode cX6_copyFrom 95 = .ok (.iconst 0, 1) := by decide +kernel
theorem dX6_copyFrom_96 : decode cX6_copyFrom 96 = .ok (.bipush 24, 2) := by decide +kernel
theorem dX6_copyFrom_98 : decode cX6_copyFrom 98 = .ok (.invokestatic 71, 3) := by decide +kernel
theorem dX6_copyFrom_101 : decode cX6_copyFrom 101 = .ok (.aload_n 0, 1) := by decide +kernel
theorem dX6_copyFrom_102 : decode cX6_copyFrom 102 = .ok (.getfield 36, 3) := by decide +kernel
theorem dX6_copyFrom_105 : decode cX6_copyFrom 105 = .ok (.aload_n 1, 1) := by decide +kernel
theorem dX6_copyFrom_106 : decode cX6_copyFrom 106 = .ok (.getfield 36, 3) := by decide +kernel
theorem dX6_copyFrom_109 : decode cX6_copyFrom 109 = .ok (.invokevirtual 77, 3) := by decide +kernel
theorem dX6_copyFrom_112 : decode cX6_copyFrom 112 = .ok (.aload_n 0, 1) := by decide +kernel
theorem dX6_copyFrom_113 : decode cX6_copyFrom 113 = .ok (.aload_n 1, 1) := by decide +kernel
theorem dX6_copyFrom_114 : decode cX6_copyFrom 114 = .ok (.getfield 40, 3) := by decide +kernel
theorem dX6_copyFrom_117 : decode cX6_copyFrom 117 = .ok (.putfield 40, 3) := by decide +kernel
theorem dX6_copyFrom_120 : decode cX6_copyFrom 120 = .ok (.aload_n 0, 1) := by decide +kernel
theorem dX6_copyFrom_121 : decode cX6_copyFrom 121 = .ok (.aload_n 1, 1) := by decide +kernel
theorem dX6_copyFrom_122 : decode cX6_copyFrom 122 = .ok (.getfield 44, 3) := by decide +kernel
theorem dX6_copyFrom_125 : decode cX6_copyFrom 125 = .ok (.putfield 44, 3) := by decide +kernel
theorem dX6_copyFrom_128 : decode cX6_copyFrom 128 = .ok (.aload_n 0, 1) := by decide +kernel
theorem dX6_copyFrom_129 : decode cX6_copyFrom 129 = .ok (.aload_n 1, 1) := by decide +kernel
theorem dX6_copyFrom_130 : decode cX6_copyFrom 130 = .ok (.getfield 47, 3) := by decide +kernel
theorem dX6_copyFrom_133 : decode cX6_copyFrom 133 = .ok (.putfield 47, 3) := by decide +kernel
theorem dX6_copyFrom_136 : decode cX6_copyFrom 136 = .ok (.aload_n 0, 1) := by decide +kernel
theorem dX6_copyFrom_137 : decode cX6_copyFrom 137 = .ok (.aload_n 1, 1) := by decide +kernel
theorem dX6_copyFrom_138 : decode cX6_copyFrom 138 = .ok (.getfield 50, 3) := by decide +kernel
theorem dX6_copyFrom_141 : decode cX6_copyFrom 141 = .ok (.putfield 50, 3) := by decide +kernel
theorem dX6_copyFrom_144 : decode cX6_copyFrom 144 = .ok (.aload_n 0, 1) := by decide +kernel
theorem dX6_copyFrom_145 : decode cX6_copyFrom 145 = .ok (.aload_n 1, 1) := by decide +kernel
theorem dX6_copyFrom_146 : decode cX6_copyFrom 146 = .ok (.getfield 53, 3) := by decide +kernel
theorem dX6_copyFrom_149 : decode cX6_copyFrom 149 = .ok (.putfield 53, 3) := by decide +kernel
theorem dX6_copyFrom_152 : decode cX6_copyFrom 152 = .ok (.return_, 1) := by decide +kernel
theorem dX6_greyInHour_0 : decode cX6_greyInHour 0 = .ok (.iload_n 1, 1) := by decide +kernel
theorem dX6_greyInHour_1 : decode cX6_greyInHour 1 = .ok (.ifCond .lt 18, 3) := by decide +kernel
theorem dX6_greyInHour_4 : decode cX6_greyInHour 4 = .ok (.iload_n 1, 1) := by decide +kernel
theorem dX6_greyInHour_5 : decode cX6_greyInHour 5 = .ok (.bipush 24, 2) := by decide +kernel
theorem dX6_greyInHour_7 : decode cX6_greyInHour 7 = .ok (.if_icmp .ge 12, 3) := by decide +kernel
theorem dX6_greyInHour_10 : decode cX6_greyInHour 10 = .ok (.aload_n 0, 1) := by decide +kernel
theorem dX6_greyInHour_11 : decode cX6_greyInHour 11 = .ok (.getfield 29, 3) := by decide +kernel
theorem dX6_greyInHour_14 : decode cX6_greyInHour 14 = .ok (.iload_n 1, 1) := by decide +kernel
theorem dX6_greyInHour_15 : decode cX6_greyInHour 15 = .ok (.iaload, 1) := by decide +kernel
theorem dX6_greyInHour_16 : decode cX6_greyInHour 16 = .ok (.goto 4, 3) := by decide +kernel
theorem dX6_greyInHour_19 : decode cX6_greyInHour 19 = .ok (.iconst 0, 1) := by decide +kernel
theorem dX6_greyInHour_20 : decode cX6_greyInHour 20 = .ok (.ireturn, 1) := by decide +kernel
theorem dX6_greyAtTick_0 : decode cX6_greyAtTick 0 = .ok (.aload_n 0, 1) := by decide +kernel
theorem dX6_greyAtTick_1 : decode cX6_greyAtTick 1 = .ok (.iload_n 1, 1) := by decide +kernel
theorem dX6_greyAtTick_2 : decode cX6_greyAtTick 2 = .ok (.iconst 4, 1) := by decide +kernel
theorem dX6_greyAtTick_3 : decode cX6_greyAtTick 3 = .ok (.idiv, 1) := by decide +kernel
theorem dX6_greyAtTick_4 : decode cX6_greyAtTick 4 = .ok (.invokevirtual 80, 3) := by decide +kernel
theorem dX6_greyAtTick_7 : decode cX6_greyAtTick 7 = .ok (.ireturn, 1) := by decide +kernel
theorem dX6_changeGrey_0 : decode cX6_changeGrey 0 = .ok (.iload_n 1, 1) := by decide +kernel
theorem dX6_changeGrey_1 : decode cX6_changeGrey 1 = .ok (.ifCond .lt 16, 3) := by decide +kernel
theorem dX6_changeGrey_4 : decode cX6_changeGrey 4 = .ok (.iload_n 1, 1) := by decide +kernel
theorem dX6_changeGrey_5 : decode cX6_changeGrey 5 = .ok (.bipush 24, 2) := by decide +kernel
theorem dX6_changeGrey_7 : decode cX6_changeGrey 7 = .ok (.if_icmp .ge 10, 3) := by decide +kernel
theorem dX6_changeGrey_10 : decode cX6_changeGrey 10 = .ok (.aload_n 0, 1) := by decide +kernel
theorem dX6_changeGrey_11 : decode cX6_changeGrey 11 = .ok (.getfield 29, 3) := by decide +kernel
theorem dX6_changeGrey_14 : decode cX6_changeGrey 14 = .ok (.iload_n 1, 1) := by decide +kernel
theorem dX6_changeGrey_15 : decode cX6_changeGrey 15 = .ok (.iload_n 2, 1) := by decide +kernel
theorem dX6_changeGrey_16 : decode cX6_changeGrey 16 = .ok (.iastore, 1) := by decide +kernel
theorem dX6_changeGrey_17 : decode cX6_changeGrey 17 = .ok (.return_, 1) := by decide +kernel
theorem dX6_passTicks_0 : decode cX6_passTicks 0 = .ok (.aload_n 0, 1) := by decide +kernel
theorem dX6_passTicks_1 : decode cX6_passTicks 1 = .ok (.getfield 40, 3) := by decide +kernel
theorem dX6_passTicks_4 : decode cX6_passTicks 4 = .ok (.istore_n 2, 1) := by decide +kernel
theorem dX6_passTicks_5 : decode cX6_passTicks 5 = .ok (.iconst 0, 1) := by decide +kernel
theorem dX6_passTicks_6 : decode cX6_passTicks 6 = .ok (.istore_n 3, 1) := by decide +kernel
theorem dX6_passTicks_7 : decode cX6_passTicks 7 = .ok (.iload_n 3, 1) := by decide +kernel
theorem dX6_passTicks_8 : decode cX6_passTicks 8 = .ok (.iload_n 1, 1) := by decide +kernel
theorem dX6_passTicks_9 : decode cX6_passTicks 9 = .ok (.if_icmp .ge 13, 3) := by decide +kernel
theorem dX6_passTicks_12 : decode cX6_passTicks 12 = .ok (.aload_n 0, 1) := by decide +kernel
theorem dX6_passTicks_13 : decode cX6_passTicks 13 = .ok (.invokevirtual 84, 3) := by decide +kernel
theorem dX6_passTicks_16 : decode cX6_passTicks 16 = .ok (.iinc 3 1, 3) := by decide +kernel
theorem dX6_passTicks_19 : decode cX6_passTicks 19 = .ok (.goto (-12), 3) := by decide +kernel
theorem dX6_passTicks_22 : decode cX6_passTicks 22 = .ok (.aload_n 0, 1) := by decide +kernel
theorem dX6_passTicks_23 : decode cX6_passTicks 23 = .ok (.getfield 40, 3) := by decide +kernel
theorem dX6_passTicks_26 : decode cX6_passTicks 26 = .ok (.iload_n 2, 1) := by decide +kernel
theorem dX6_passTicks_27 : decode cX6_passTicks 27 = .ok (.isub, 1) := by decide +kernel
theorem dX6_passTicks_28 : decode cX6_passTicks 28 = .ok (.ireturn, 1) := by decide +kernel
theorem dX6_passTick_0 : decode cX6_passTick 0 = .ok (.aload_n 0, 1) := by decide +kernel
theorem dX6_passTick_1 : decode cX6_passTick 1 = .ok (.invokevirtual 87, 3) := by decide +kernel
theorem dX6_passTick_4 : decode cX6_passTick 4 = .ok (.aload_n 0, 1) := by decide +kernel
theorem dX6_passTick_5 : decode cX6_passTick 5 = .ok (.getfield 19, 3) := by decide +kernel
theorem dX6_passTick_8 : decode cX6_passTick 8 = .ok (.astore_n 1, 1) := by decide +kernel
theorem dX6_passTick_9 : decode cX6_passTick 9 = .ok (.aload_n 1, 1) := by decide +kernel
theorem dX6_passTick_10 : decode cX6_passTick 10 = .ok (.arraylength, 1) := by decide +kernel
theorem dX6_passTick_11 : decode cX6_passTick 11 = .ok (.istore_n 2, 1) := by decide +kernel
theorem dX6_passTick_12 : decode cX6_passTick 12 = .ok (.iconst 0, 1) := by decide +kernel
theorem dX6_passTick_13 : decode cX6_passTick 13 = .ok (.istore_n 3, 1) := by decide +kernel
theorem dX6_passTick_14 : decode cX6_passTick 14 = .ok (.iload_n 3, 1) := by decide +kernel
theorem dX6_passTick_15 : decode cX6_passTick 15 = .ok (.iload_n 2, 1) := by decide +kernel
theorem dX6_passTick_16 : decode cX6_passTick 16 = .ok (.if_icmp .ge 19, 3) := by decide +kernel
theorem dX6_passTick_19 : decode cX6_passTick 19 = .ok (.aload_n 1, 1) := by decide +kernel
theorem dX6_passTick_20 : decode cX6_passTick 20 = .ok (.iload_n 3, 1) := by decide +kernel
theorem dX6_passTick_21 : decode cX6_passTick 21 = .ok (.aaload, 1) := by decide +kernel
theorem dX6_passTick_22 : decode cX6_passTick 22 = .ok (.astore 4, 2) := by decide +kernel
theorem dX6_passTick_24 : decode cX6_passTick 24 = .ok (.aload 4, 2) := by decide +kernel
theorem dX6_passTick_26 : decode cX6_passTick 26 = .ok (.invokevirtual 90, 3) := by decide +kernel
theorem dX6_passTick_29 : decode cX6_passTick 29 = .ok (.iinc 3 1, 3) := by decide +kernel
theorem dX6_passTick_32 : decode cX6_passTick 32 = .ok (.goto (-18), 3) := by decide +kernel
theorem dX6_passTick_35 : decode cX6_passTick 35 = .ok (.aload_n 0, 1) := by decide +kernel
theorem dX6_passTick_36 : decode cX6_passTick 36 = .ok (.invokevirtual 93, 3) := by decide +kernel
theorem dX6_passTick_39 : decode cX6_passTick 39 = .ok (.aload_n 0, 1) := by decide +kernel
theorem dX6_passTick_40 : decode cX6_passTick 40 = .ok (.invokevirtual 96, 3) := by decide +kernel
theorem dX6_passTick_43 : decode cX6_passTick 43 = .ok (.return_, 1) := by decide +kernel
theorem dX6_takeReadings_0 : decode cX6_takeReadings 0 = .ok (.aload_n 0, 1) := by decide +kernel
theorem dX6_takeReadings_1 : decode cX6_takeReadings 1 = .ok (.aload_n 0, 1) := by decide +kernel
theorem dX6_takeReadings_2 : decode cX6_takeReadings 2 = .ok (.getfield 53, 3) := by decide +kernel
theorem dX6_takeReadings_5 : decode cX6_takeReadings 5 = .ok (.invokevirtual 99, 3) := by decide +kernel
theorem dX6_takeReadings_8 : decode cX6_takeReadings 8 = .ok (.istore_n 1, 1) := by decide +kernel
theorem dX6_takeReadings_9 : decode cX6_takeReadings 9 = .ok (.aload_n 0, 1) := by decide +kernel
theorem dX6_takeReadings_10 : decode cX6_takeReadings 10 = .ok (.getfield 36, 3) := by decide +kernel
theorem dX6_takeReadings_13 : decode cX6_takeReadings 13 = .ok (.aload_n 0, 1) := by decide +kernel
theorem dX6_takeReadings_14 : decode cX6_takeReadings 14 = .ok (.getfield 53, 3) := by decide +kernel
theorem dX6_takeReadings_17 : decode cX6_takeReadings 17 = .ok (.iload_n 1, 1) := by decide +kernel
theorem dX6_takeReadings_18 : decode cX6_takeReadings 18 = .ok (.invokevirtual 102, 3) := by decide +kernel
theorem dX6_takeReadings_21 : decode cX6_takeReadings 21 = .ok (.aload_n 0, 1) := by decide +kernel
theorem dX6_takeReadings_22 : decode cX6_takeReadings 22 = .ok (.getfield 19, 3) := by decide +kernel
theorem dX6_takeReadings_25 : decode cX6_takeReadings 25 = .ok (.astore_n 2, 1) := by decide +kernel
theorem dX6_takeReadings_26 : decode cX6_takeReadings 26 = .ok (.aload_n 2, 1) := by decide +kernel
theorem dX6_takeReadings_27 : decode cX6_takeReadings 27 = .ok (.arraylength, 1) := by decide +kernel
theorem dX6_takeReadings_28 : decode cX6_takeReadings 28 = .ok (.istore_n 3, 1) := by decide +kernel
theorem dX6_takeReadings_29 : decode cX6_takeReadings 29 = .ok (.iconst 0, 1) := by decide +kernel
theorem dX6_takeReadings_30 : decode cX6_takeReadings 30 = .ok (.istore 4, 2) := by decide +kernel
theorem dX6_takeReadings_32 : decode cX6_takeReadings 32 = .ok (.iload 4, 2) := by decide +kernel
theorem dX6_takeReadings_34 : decode cX6_takeReadings 34 = .ok (.iload_n 3, 1) := by decide +kernel
theorem dX6_takeReadings_35 : decode cX6_takeReadings 35 = .ok (.if_icmp .ge 84, 3) := by decide +kernel
theorem dX6_takeReadings_38 : decode cX6_takeReadings 38 = .ok (.aload_n 2, 1) := by decide +kernel
theorem dX6_takeReadings_39 : decode cX6_takeReadings 39 = .ok (.iload 4, 2) := by decide +kernel
theorem dX6_takeReadings_41 : decode cX6_takeReadings 41 = .ok (.aaload, 1) := by decide +kernel
theorem dX6_takeReadings_42 : decode cX6_takeReadings 42 = .ok (.astore 5, 2) := by decide +kernel
theorem dX6_takeReadings_44 : decode cX6_takeReadings 44 = .ok (.aload 5, 2) := by decide +kernel
theorem dX6_takeReadings_46 : decode cX6_takeReadings 46 = .ok (.getfield 106, 3) := by decide +kernel
theorem dX6_takeReadings_49 : decode cX6_takeReadings 49 = .ok (.iconst 0, 1) := by decide +kernel
theorem dX6_takeReadings_50 : decode cX6_takeReadings 50 = .ok (.bipush 7, 2) := by decide +kernel
theorem dX6_takeReadings_52 : decode cX6_takeReadings 52 = .ok (.invokestatic 109, 3) := by decide +kernel
theorem dX6_takeReadings_55 : decode cX6_takeReadings 55 = .ok (.ifCond .eq 58, 3) := by decide +kernel
theorem dX6_takeReadings_58 : decode cX6_takeReadings 58 = .ok (.aload_n 0, 1) := by decide +kernel
theorem dX6_takeReadings_59 : decode cX6_takeReadings 59 = .ok (.getfield 11, 3) := by decide +kernel
theorem dX6_takeReadings_62 : decode cX6_takeReadings 62 = .ok (.aload 5, 2) := by decide +kernel
theorem dX6_takeReadings_64 : decode cX6_takeReadings 64 = .ok (.getfield 106, 3) := by decide +kernel
theorem dX6_takeReadings_67 : decode cX6_takeReadings 67 = .ok (.aaload, 1) := by decide +kernel
theorem dX6_takeReadings_68 : decode cX6_takeReadings 68 = .ok (.astore 6, 2) := by decide +kernel
theorem dX6_takeReadings_70 : decode cX6_takeReadings 70 = .ok (.aload 6, 2) := by decide +kernel
theorem dX6_takeReadings_72 : decode cX6_takeReadings 72 = .ok (.aload_n 0, 1) := by decide +kernel
theorem dX6_takeReadings_73 : decode cX6_takeReadings 73 = .ok (.getfield 53, 3) := by decide +kernel
theorem dX6_takeReadings_76 : decode cX6_takeReadings 76 = .ok (.invokevirtual 113, 3) := by decide +kernel
theorem dX6_takeReadings_79 : decode cX6_takeReadings 79 = .ok (.istore 7, 2) := by decide +kernel
theorem dX6_takeReadings_81 : decode cX6_takeReadings 81 = .ok (.aload 5, 2) := by decide +kernel
theorem dX6_takeReadings_83 : decode cX6_takeReadings 83 = .ok (.iload 7, 2) := by decide +kernel
theorem dX6_takeReadings_85 : decode cX6_takeReadings 85 = .ok (.iload_n 1, 1) := by decide +kernel
theorem dX6_takeReadings_86 : decode cX6_takeReadings 86 = .ok (.invokevirtual 116, 3) := by decide +kernel
theorem dX6_takeReadings_89 : decode cX6_takeReadings 89 = .ok (.istore 8, 2) := by decide +kernel
theorem dX6_takeReadings_91 : decode cX6_takeReadings 91 = .ok (.aload 6, 2) := by decide +kernel
theorem dX6_takeReadings_93 : decode cX6_takeReadings 93 = .ok (.aload_n 0, 1) := by decide +kernel
theorem dX6_takeReadings_94 : decode cX6_takeReadings 94 = .ok (.getfield 53, 3) := by decide +kernel
theorem dX6_takeReadings_97 : decode cX6_takeReadings 97 = .ok (.iload 8, 2) := by decide +kernel
theorem dX6_takeReadings_99 : decode cX6_takeReadings 99 = .ok (.iload 7, 2) := by decide +kernel
theorem dX6_takeReadings_101 : decode cX6_takeReadings 101 = .ok (.invokevirtual 120, 3) := by decide +kernel
theorem dX6_takeReadings_104 : decode cX6_takeReadings 104 = .ok (.aload 5, 2) := by decide +kernel
theorem dX6_takeReadings_106 : decode cX6_takeReadings 106 = .ok (.iload 8, 2) := by decide +kernel
theorem dX6_takeReadings_108 : decode cX6_takeReadings 108 = .ok (.iload 7, 2) := by decide +kernel
