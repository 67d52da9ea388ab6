theorem dX0_init_0 : decode cX0_init 0 = .ok (.aload_n 0, 1) := by decide +kernel
theorem dX0_init_1 : decode cX0_init 1 = .ok (.invokespecial 3, 3) := by decide +kernel
theorem dX0_init_4 : decode cX0_init 4 = .ok (.aload_n 0, 1) := by decide +kernel
theorem dX0_init_5 : decode cX0_init 5 = .ok (.iconst 3, 1) := by decide +kernel
theorem dX0_init_6 : decode cX0_init 6 = .ok (.putfield 9, 3) := by decide +kernel
theorem dX0_init_9 : decode cX0_init 9 = .ok (.aload_n 0, 1) := by decide +kernel
theorem dX0_init_10 : decode cX0_init 10 = .ok (.iconst 0, 1) := by decide +kernel
theorem dX0_init_11 : decode cX0_init 11 = .ok (.putfield 15, 3) := by decide +kernel
theorem dX0_init_14 : decode cX0_init 14 = .ok (.aload_n 0, 1) := by decide +kernel
theorem dX0_init_15 : decode cX0_init 15 = .ok (.iconst 4, 1) := by decide +kernel
theorem dX0_init_16 : decode cX0_init 16 = .ok (.putfield 18, 3) := by decide +kernel
theorem dX0_init_19 : decode cX0_init 19 = .ok (.aload_n 0, 1) := by decide +kernel
theorem dX0_init_20 : decode cX0_init 20 = .ok (.iconst 0, 1) := by decide +kernel
theorem dX0_init_21 : decode cX0_init 21 = .ok (.putfield 21, 3) := by decide +kernel
theorem dX0_init_24 : decode cX0_init 24 = .ok (.aload_n 0, 1) := by decide +kernel
theorem dX0_init_25 : decode cX0_init 25 = .ok (.iconst 0, 1) := by decide +kernel
theorem dX0_init_26 : decode cX0_init 26 = .ok (.putfield 24, 3) := by decide +kernel
theorem dX0_init_29 : decode cX0_init 29 = .ok (.aload_n 0, 1) := by decide +kernel
theorem dX0_init_30 : decode cX0_init 30 = .ok (.new 27, 3) := by decide +kernel
theorem dX0_init_33 : decode cX0_init 33 = .ok (.dup, 1) := by decide +kernel
theorem dX0_init_34 : decode cX0_init 34 = .ok (.invokespecial 29, 3) := by decide +kernel
theorem dX0_init_37 : decode cX0_init 37 = .ok (.putfield 30, 3) := by decide +kernel
theorem dX0_init_40 : decode cX0_init 40 = .ok (.aload_n 0, 1) := by decide +kernel
theorem dX0_init_41 : decode cX0_init 41 = .ok (.new 27, 3) := by decide +kernel
theorem dX0_init_44 : decode cX0_init 44 = .ok (.dup, 1) := by decide +kernel
theorem dX0_init_45 : decode cX0_init 45 = .ok (.invokespecial 29, 3) := by decide +kernel
theorem dX0_init_48 : decode cX0_init 48 = .ok (.putfield 34, 3) := by decide +kernel
theorem dX0_init_51 : decode cX0_init 51 = .ok (.aload_n 0, 1) := by decide +kernel
theorem dX0_init_52 : decode cX0_init 52 = .ok (.iload_n 1, 1) := by decide +kernel
theorem dX0_init_53 : decode cX0_init 53 = .ok (.putfield 37, 3) := by decide +kernel
theorem dX0_init_56 : decode cX0_init 56 = .ok (.return_, 1) := by decide +kernel
theorem dX0_copyFrom_0 : decode cX0_copyFrom 0 = .ok (.aload_n 0, 1) := by decide +kernel
theorem dX0_copyFrom_1 : decode cX0_copyFrom 1 = .ok (.aload_n 1, 1) := by decide +kernel
theorem dX0_copyFrom_2 : decode cX0_copyFrom 2 = .ok (.getfield 9, 3) := by decide +kernel
theorem dX0_copyFrom_5 : decode cX0_copyFrom 5 = .ok (.putfield 9, 3) := by decide +kernel
theorem dX0_copyFrom_8 : decode cX0_copyFrom 8 = .ok (.aload_n 0, 1) := by decide +kernel
theorem dX0_copyFrom_9 : decode cX0_copyFrom 9 = .ok (.aload_n 1, 1) := by decide +kernel
theorem dX0_copyFrom_10 : decode cX0_copyFrom 10 = .ok (.getfield 15, 3) := by decide +kernel
theorem dX0_copyFrom_13 : decode cX0_copyFrom 13 = .ok (.putfield 15, 3) := by decide +kernel
theorem dX0_copyFrom_16 : decode cX0_copyFrom 16 = .ok (.aload_n 0, 1) := by decide +kernel
theorem dX0_copyFrom_17 : decode cX0_copyFrom 17 = .ok (.aload_n 1, 1) := by decide +kernel
theorem dX0_copyFrom_18 : decode cX0_copyFrom 18 = .ok (.getfield 18, 3) := by decide +kernel
theorem dX0_copyFrom_21 : decode cX0_copyFrom 21 = .ok (.putfield 18, 3) := by decide +kernel
theorem dX0_copyFrom_24 : decode cX0_copyFrom 24 = .ok (.aload_n 0, 1) := by decide +kernel
theorem dX0_copyFrom_25 : decode cX0_copyFrom 25 = .ok (.aload_n 1, 1) := by decide +kernel
theorem dX0_copyFrom_26 : decode cX0_copyFrom 26 = .ok (.getfield 37, 3) := by decide +kernel
theorem dX0_copyFrom_29 : decode cX0_copyFrom 29 = .ok (.putfield 37, 3) := by decide +kernel
theorem dX0_copyFrom_32 : decode cX0_copyFrom 32 = .ok (.aload_n 0, 1) := by decide +kernel
theorem dX0_copyFrom_33 : decode cX0_copyFrom 33 = .ok (.aload_n 1, 1) := by decide +kernel
theorem dX0_copyFrom_34 : decode cX0_copyFrom 34 = .ok (.getfield 21, 3) := by decide +kernel
theorem dX0_copyFrom_37 : decode cX0_copyFrom 37 = .ok (.putfield 21, 3) := by decide +kernel
theorem dX0_copyFrom_40 : decode cX0_copyFrom 40 = .ok (.aload_n 0, 1) := by decide +kernel
theorem dX0_copyFrom_41 : decode cX0_copyFrom 41 = .ok (.aload_n 1, 1) := by decide +kernel
theorem dX0_copyFrom_42 : decode cX0_copyFrom 42 = .ok (.getfield 24, 3) := by decide +kernel
theorem dX0_copyFrom_45 : decode cX0_copyFrom 45 = .ok (.putfield 24, 3) := by decide +kernel
theorem dX0_copyFrom_48 : decode cX0_copyFrom 48 = .ok (.aload_n 0, 1) := by decide +kernel
theorem dX0_copyFrom_49 : decode cX0_copyFrom 49 = .ok (.getfield 30, 3) := by decide +kernel
theorem dX0_copyFrom_52 : decode cX0_copyFrom 52 = .ok (.aload_n 1, 1) := by decide +kernel
theorem dX0_copyFrom_53 : decode cX0_copyFrom 53 = .ok (.getfield 30, 3) := by decide +kernel
theorem dX0_copyFrom_56 : decode cX0_copyFrom 56 = .ok (.invokevirtual 40, 3) := by decide +kernel
theorem dX0_copyFrom_59 : decode cX0_copyFrom 59 = .ok (.aload_n 0, 1) := by decide +kernel
theorem dX0_copyFrom_60 : decode cX0_copyFrom 60 = .ok (.getfield 34, 3) := by decide +kernel
theorem dX0_copyFrom_63 : decode cX0_copyFrom 63 = .ok (.aload_n 1, 1) := by decide +kernel
theorem dX0_copyFrom_64 : decode cX0_copyFrom 64 = .ok (.getfield 34, 3) := by decide +kernel
theorem dX0_copyFrom_67 : decode cX0_copyFrom 67 = .ok (.invokevirtual 40, 3) := by decide +kernel
theorem dX0_copyFrom_70 : decode cX0_copyFrom 70 = .ok (.return_, 1) := by decide +kernel
theorem dX0_shadeAt_0 : decode cX0_shadeAt 0 = .ok (.iload_n 1, 1) := by decide +kernel
theorem dX0_shadeAt_1 : decode cX0_shadeAt 1 = .ok (.aload_n 0, 1) := by decide +kernel
theorem dX0_shadeAt_2 : decode cX0_shadeAt 2 = .ok (.getfield 37, 3) := by decide +kernel
theorem dX0_shadeAt_5 : decode cX0_shadeAt 5 = .ok (.if_icmp .ge 5, 3) := by decide +kernel
theorem dX0_shadeAt_8 : decode cX0_shadeAt 8 = .ok (.iconst 0, 1) := by decide +kernel
theorem dX0_shadeAt_9 : decode cX0_shadeAt 9 = .ok (.ireturn, 1) := by decide +kernel
theorem dX0_shadeAt_10 : decode cX0_shadeAt 10 = .ok (.aload_n 0, 1) := by decide +kernel
theorem dX0_shadeAt_11 : decode cX0_shadeAt 11 = .ok (.iload_n 1, 1) := by decide +kernel
theorem dX0_shadeAt_12 : decode cX0_shadeAt 12 = .ok (.aload_n 0, 1) := by decide +kernel
theorem dX0_shadeAt_13 : decode cX0_shadeAt 13 = .ok (.getfield 37, 3) := by decide +kernel
theorem dX0_shadeAt_16 : decode cX0_shadeAt 16 = .ok (.isub, 1) := by decide +kernel
theorem dX0_shadeAt_17 : decode cX0_shadeAt 17 = .ok (.invokevirtual 44, 3) := by decide +kernel
theorem dX0_shadeAt_20 : decode cX0_shadeAt 20 = .ok (.istore_n 2, 1) := by decide +kernel
theorem dX0_shadeAt_21 : decode cX0_shadeAt 21 = .ok (.aload_n 0, 1) := by decide +kernel
theorem dX0_shadeAt_22 : decode cX0_shadeAt 22 = .ok (.getfield 9, 3) := by decide +kernel
theorem dX0_shadeAt_25 : decode cX0_shadeAt 25 = .ok (.iconst 1, 1) := by decide +kernel
theorem dX0_shadeAt_26 : decode cX0_shadeAt 26 = .ok (.iadd, 1) := by decide +kernel
theorem dX0_shadeAt_27 : decode cX0_shadeAt 27 = .ok (.iconst 2, 1) := by decide +kernel
theorem dX0_shadeAt_28 : decode cX0_shadeAt 28 = .ok (.idiv, 1) := by decide +kernel
theorem dX0_shadeAt_29 : decode cX0_shadeAt 29 = .ok (.aload_n 0, 1) := by decide +kernel
theorem dX0_shadeAt_30 : decode cX0_shadeAt 30 = .ok (.getfield 15, 3) := by decide +kernel
theorem dX0_shadeAt_33 : decode cX0_shadeAt 33 = .ok (.iadd, 1) := by decide +kernel
theorem dX0_shadeAt_34 : decode cX0_shadeAt 34 = .ok (.iload_n 2, 1) := by decide +kernel
theorem dX0_shadeAt_35 : decode cX0_shadeAt 35 = .ok (.isub, 1) := by decide +kernel
theorem dX0_shadeAt_36 : decode cX0_shadeAt 36 = .ok (.invokestatic 48, 3) := by decide +kernel
theorem dX0_shadeAt_39 : decode cX0_shadeAt 39 = .ok (.ireturn, 1) := by decide +kernel
theorem dX0_stokedFrom_0 : decode cX0_stokedFrom 0 = .ok (.iload_n 1, 1) := by decide +kernel
theorem dX0_stokedFrom_1 : decode cX0_stokedFrom 1 = .ok (.aload_n 0, 1) := by decide +kernel
theorem dX0_stokedFrom_2 : decode cX0_stokedFrom 2 = .ok (.getfield 37, 3) := by decide +kernel
theorem dX0_stokedFrom_5 : decode cX0_stokedFrom 5 = .ok (.if_icmp .gt 8, 3) := by decide +kernel
theorem dX0_stokedFrom_8 : decode cX0_stokedFrom 8 = .ok (.aload_n 0, 1) := by decide +kernel
theorem dX0_stokedFrom_9 : decode cX0_stokedFrom 9 = .ok (.getfield 37, 3) := by decide +kernel
theorem dX0_stokedFrom_12 : decode cX0_stokedFrom 12 = .ok (.ireturn, 1) := by decide +kernel
theorem dX0_stokedFrom_13 : decode cX0_stokedFrom 13 = .ok (.aload_n 0, 1) := by decide +kernel
theorem dX0_stokedFrom_14 : decode cX0_stokedFrom 14 = .ok (.iload_n 1, 1) := by decide +kernel
theorem dX0_stokedFrom_15 : decode cX0_stokedFrom 15 = .ok (.aload_n 0, 1) := by decide +kernel
theorem dX0_stokedFrom_16 : decode cX0_stokedFrom 16 = .ok (.getfield 37, 3) := by decide +kernel
theorem dX0_stokedFrom_19 : decode cX0_stokedFrom 19 = .ok (.isub, 1) := by decide +kernel
theorem dX0_stokedFrom_20 : decode cX0_stokedFrom 20 = .ok (.invokevirtual 44, 3) := by decide +kernel
theorem dX0_stokedFrom_23 : decode cX0_stokedFrom 23 = .ok (.istore_n 2, 1) := by decide +kernel
theorem dX0_stokedFrom_24 : decode cX0_stokedFrom 24 = .ok (.iload_n 2, 1) := by decide +kernel
theorem dX0_stokedFrom_25 : decode cX0_stokedFrom 25 = .ok (.ifCond .ne 7, 3) := by decide +kernel
theorem dX0_stokedFrom_28 : decode cX0_stokedFrom 28 = .ok (.iload_n 1, 1) := by decide +kernel
theorem dX0_stokedFrom_29 : decode cX0_stokedFrom 29 = .ok (.goto 11, 3) := by decide +kernel
theorem dX0_stokedFrom_32 : decode cX0_stokedFrom 32 = .ok (.iload_n 1, 1) := by decide +kernel
theorem dX0_stokedFrom_33 : decode cX0_stokedFrom 33 = .ok (.iload_n 2, 1) := by decide +kernel
theorem dX0_stokedFrom_34 : decode cX0_stokedFrom 34 = .ok (.isub, 1) := by decide +kernel
theorem dX0_stokedFrom_35 : decode cX0_stokedFrom 35 = .ok (.aload_n 0, 1) := by decide +kernel
theorem dX0_stokedFrom_36 : decode cX0_stokedFrom 36 = .ok (.getfield 18, 3) := by decide +kernel
theorem dX0_stokedFrom_39 : decode cX0_stokedFrom 39 = .ok (.iadd, 1) := by decide +kernel
theorem dX0_stokedFrom_40 : decode cX0_stokedFrom 40 = .ok (.istore_n 3, 1) := by decide +kernel
theorem dX0_stokedFrom_41 : decode cX0_stokedFrom 41 = .ok (.iload_n 3, 1) := by decide +kernel
theorem dX0_stokedFrom_42 : decode cX0_stokedFrom 42 = .ok (.invokestatic 51, 3) := by decide +kernel
theorem dX0_stokedFrom_45 : decode cX0_stokedFrom 45 = .ok (.ifCond .eq 7, 3) := by decide +kernel
theorem dX0_stokedFrom_48 : decode cX0_stokedFrom 48 = .ok (.iload_n 3, 1) := by decide +kernel
theorem dX0_stokedFrom_49 : decode cX0_stokedFrom 49 = .ok (.goto 4, 3) := by decide +kernel
theorem dX0_stokedFrom_52 : decode cX0_stokedFrom 52 = .ok (.iconst (-1), 1) := by decide +kernel
theorem dX0_stokedFrom_53 : decode cX0_stokedFrom 53 = .ok (.ireturn, 1) := by decide +kernel
theorem dX0_smokeByTicks_0 : decode cX0_smokeByTicks 0 = .ok (.iconst 0, 1) := by decide +kernel
theorem dX0_smokeByTicks_1 : decode cX0_smokeByTicks 1 = .ok (.istore_n 3, 1) := by decide +kernel
theorem dX0_smokeByTicks_2 : decode cX0_smokeByTicks 2 = .ok (.iload_n 1, 1) := by decide +kernel
theorem dX0_smokeByTicks_3 : decode cX0_smokeByTicks 3 = .ok (.istore 4, 2) := by decide +kernel
theorem dX0_smokeByTicks_5 : decode cX0_smokeByTicks 5 = .ok (.iload 4, 2) := by decide +kernel
theorem dX0_smokeByTicks_7 : decode cX0_smokeByTicks 7 = .ok (.iload_n 2, 1) := by decide +kernel
theorem dX0_smokeByTicks_8 : decode cX0_smokeByTicks 8 = .ok (.if_icmp .gt 18, 3) := by decide +kernel
theorem dX0_smokeByTicks_11 : decode cX0_smokeByTicks 11 = .ok (.iload_n 3, 1) := by decide +kernel
theorem dX0_smokeByTicks_12 : decode cX0_smokeByTicks 12 = .ok (.aload_n 0, 1) := by decide +kernel
theorem dX0_smokeByTicks_13 : decode cX0_smokeByTicks 13 = .ok (.iload 4, 2) := by decide +kernel
theorem dX0_smokeByTicks_15 : decode cX0_smokeByTicks 15 = .ok (.invokevirtual 55, 3) := by decide +kernel
theorem dX0_smokeByTicks_18 : decode cX0_smokeByTicks 18 = .ok (.iadd, 1) := by decide +kernel
theorem dX0_smokeByTicks_19 : decode cX0_smokeByTicks 19 = .ok (.istore_n 3, 1) := by decide +kernel
theorem dX0_smokeByTicks_20 : decode cX0_smokeByTicks 20 = .ok (.iinc 4 1, 3) := by decide +kernel
theorem dX0_smokeByTicks_23 : decode cX0_smokeByTicks 23 = .ok (.goto (-18), 3) := by decide +kernel
theorem dX0_smokeByTicks_26 : decode cX0_smokeByTicks 26 = .ok (.iload_n 3, 1) := by decide +kernel
theorem dX0_smokeByTicks_27 : decode cX0_smokeByTicks 27 = .ok (.ireturn, 1) := by decide +kernel
theorem dX0_smokeByTurns_0 : decode cX0_smokeByTurns 0 = .ok (.iload_n 1, 1) := by decide +kernel
theorem dX0_smokeByTurns_1 : decode cX0_smokeByTurns 1 = .ok (.aload_n 0, 1) := by decide +kernel
theorem dX0_smokeByTurns_2 : decode cX0_smokeByTurns 2 = .ok (.getfield 37, 3) := by decide +kernel
theorem dX0_smokeByTurns_5 : decode cX0_smokeByTurns 5 = .ok (.invokestatic 58, 3) := by decide +kernel
theorem dX0_smokeByTurns_8 : decode cX0_smokeByTurns 8 = .ok (.istore_n 3, 1) := by decide +kernel
theorem dX0_smokeByTurns_9 : decode cX0_smokeByTurns 9 = .ok (.iload_n 3, 1) := by decide +kernel
theorem dX0_smokeByTurns_10 : decode cX0_smokeByTurns 10 = .ok (.iload_n 2, 1) := by decide +kernel
theorem dX0_smokeByTurns_11 : decode cX0_smokeByTurns 11 = .ok (.if_icmp .le 5, 3) := by decide +kernel
theorem dX0_smokeByTurns_14 : decode cX0_smokeByTurns 14 = .ok (.iconst 0, 1) := by decide +kernel
theorem dX0_smokeByTurns_15 : decode cX0_smokeByTurns 15 = .ok (.ireturn, 1) := by decide +kernel
theorem dX0_smokeByTurns_16 : decode cX0_smokeByTurns 16 = .ok (.iload_n 2, 1) := by decide +kernel
theorem dX0_smokeByTurns_17 : decode cX0_smokeByTurns 17 = .ok (.iload_n 3, 1) := by decide +kernel
theorem dX0_smokeByTurns_18 : decode cX0_smokeByTurns 18 = .ok (.isub, 1) := by decide +kernel
theorem dX0_smokeByTurns_19 : decode cX0_smokeByTurns 19 = .ok (.iconst 1, 1) := by decide +kernel
theorem dX0_smokeByTurns_20 : decode cX0_smokeByTurns 20 = .ok (.iadd, 1) := by decide +kernel
theorem dX0_smokeByTurns_21 : decode cX0_smokeByTurns 21 = .ok (.istore 4, 2) := by decide +kernel
theorem dX0_smokeByTurns_23 : decode cX0_smokeByTurns 23 = .ok (.aload_n 0, 1) := by decide +kernel
theorem dX0_smokeByTurns_24 : decode cX0_smokeByTurns 24 = .ok (.aload_n 0, 1) := by decide +kernel
theorem dX0_smokeByTurns_25 : decode cX0_smokeByTurns 25 = .ok (.getfield 37, 3) := by decide +kernel
theorem dX0_smokeByTurns_28 : decode cX0_smokeByTurns 28 = .ok (.aload_n 0, 1) := by decide +kernel
theorem dX0_smokeByTurns_29 : decode cX0_smokeByTurns 29 = .ok (.getfield 37, 3) := by decide +kernel
theorem dX0_smokeByTurns_32 : decode cX0_smokeByTurns 32 = .ok (.aload_n 0, 1) := by decide +kernel
theorem dX0_smokeByTurns_33 : decode cX0_smokeByTurns 33 = .ok (.getfield 18, 3) := by decide +kernel
theorem dX0_smokeByTurns_36 : decode cX0_smokeByTurns 36 = .ok (.iadd, 1) := by decide +kernel
theorem dX0_smokeByTurns_37 : decode cX0_smokeByTurns 37 = .ok (.iconst 1, 1) := by decide +kernel
theorem dX0_smokeByTurns_38 : decode cX0_smokeByTurns 38 = .ok (.isub, 1) := by decide +kernel
theorem dX0_smokeByTurns_39 : decode cX0_smokeByTurns 39 = .ok (.invokevirtual 64, 3) := by decide +kernel
theorem dX0_smokeByTurns_42 : decode cX0_smokeByTurns 42 = .ok (.istore 5, 2) := by decide +kernel
theorem dX0_smokeByTurns_44 : decode cX0_smokeByTurns 44 = .ok (.aload_n 0, 1) := by decide +kernel
theorem dX0_smokeByTurns_45 : decode cX0_smokeByTurns 45 = .ok (.iload 4, 2) := by decide +kernel
theorem dX0_smokeByTurns_47 : decode cX0_smokeByTurns 47 = .ok (.invokevirtual 67, 3) := by decide +kernel
theorem dX0_smokeByTurns_50 : decode cX0_smokeByTurns 50 = .ok (.iload 5, 2) := by decide +kernel
theorem dX0_smokeByTurns_52 : decode cX0_smokeByTurns 52 = .ok (.imul, 1) := by decide +kernel
theorem dX0_smokeByTurns_53 : decode cX0_smokeByTurns 53 = .ok (.aload_n 0, 1) := by decide +kernel
theorem dX0_smokeByTurns_54 : decode cX0_smokeByTurns 54 = .ok (.iload_n 2, 1) := by decide +kernel
theorem dX0_smokeByTurns_55 : decode cX0_smokeByTurns 55 = .ok (.aload_n 0, 1) := by decide +kernel
theorem dX0_smokeByTurns_56 : decode cX0_smokeByTurns 56 = .ok (.iload 4, 2) := by decide +kernel
theorem dX0_smokeByTurns_58 : decode cX0_smokeByTurns 58 = .ok (.invokevirtual 44, 3) := by decide +kernel
theorem dX0_smokeByTurns_61 : decode cX0_smokeByTurns 61 = .ok (.isub, 1) := by decide +kernel
theorem dX0_smokeByTurns_62 : decode cX0_smokeByTurns 62 = .ok (.iconst 1, 1) := by decide +kernel
theorem dX0_smokeByTurns_63 : decode cX0_smokeByTurns 63 = .ok (.iadd, 1) := by decide +kernel
theorem dX0_smokeByTurns_64 : decode cX0_smokeByTurns 64 = .ok (.iload_n 2, 1) := by decide +kernel
theorem dX0_smokeByTurns_65 : decode cX0_smokeByTurns 65 = .ok (.invokevirtual 64, 3) := by decide +kernel
theorem dX0_smokeByTurns_68 : decode cX0_smokeByTurns 68 = .ok (.iadd, 1) := by decide +kernel
theorem dX0_smokeByTurns_69 : decode cX0_smokeByTurns 69 = .ok (.ireturn, 1) := by decide +kernel
theorem dX0_noteReading_0 : decode cX0_noteReading 0 = .ok (.aload_n 0, 1) := by decide +kernel
theorem dX0_noteReading_1 : decode cX0_noteReading 1 = .ok (.getfield 30, 3) := by decide +kernel
theorem dX0_noteReading_4 : decode cX0_noteReading 4 = .ok (.iload_n 1, 1) := by decide +kernel
theorem dX0_noteReading_5 : decode cX0_noteReading 5 = .ok (.iload_n 2, 1) := by decide +kernel
theorem dX0_noteReading_6 : decode cX0_noteReading 6 = .ok (.aload_n 0, 1) := by decide +kernel
theorem dX0_noteReading_7 : decode cX0_noteReading 7 = .ok (.getfield 30, 3) := by decide +kernel
theorem dX0_noteReading_10 : decode cX0_noteReading 10 = .ok (.iload_n 1, 1) := by decide +kernel
theorem dX0_noteReading_11 : decode cX0_noteReading 11 = .ok (.invokevirtual 70, 3) := by decide +kernel
theorem dX0_noteReading_14 : decode cX0_noteReading 14 = .ok (.invokestatic 58, 3) := by decide +kernel
theorem dX0_noteReading_17 : decode cX0_noteReading 17 = .ok (.invokevirtual 73, 3) := by decide +kernel
theorem dX0_noteReading_20 : decode cX0_noteReading 20 = .ok (.aload_n 0, 1) := by decide +kernel
theorem dX0_noteReading_21 : decode cX0_noteReading 21 = .ok (.getfield 34, 3) := by decide +kernel
theorem dX0_noteReading_24 : decode cX0_noteReading 24 = .ok (.iload_n 1, 1) := by decide +kernel
theorem dX0_noteReading_25 : decode cX0_noteReading 25 = .ok (.iload_n 3, 1) := by decide +kernel
theorem dX0_noteReading_26 : decode cX0_noteReading 26 = .ok (.invokevirtual 73, 3) := by decide +kernel
theorem dX0_noteReading_29 : decode cX0_noteReading 29 = .ok (.return_, 1) := by decide +kernel
theorem dX0_finesByAccounts_0 : decode cX0_finesByAccounts 0 = .ok (.aload_n 0, 1) := by decide +kernel
theorem dX0_finesByAccounts_1 : decode cX0_finesByAccounts 1 = .ok (.getfield 21, 3) := by decide +kernel
theorem dX0_finesByAccounts_4 : decode cX0_finesByAccounts 4 = .ok (.aload_n 0, 1) := by decide +kernel
theorem dX0_finesByAccounts_5 : decode cX0_finesByAccounts 5 = .ok (.getfield 24, 3) := by decide +kernel
theorem dX0_finesByAccounts_8 : decode cX0_finesByAccounts 8 = .ok (.isub, 1) := by decide +kernel
theorem dX0_finesByAccounts_9 : decode cX0_finesByAccounts 9 = .ok (.ireturn, 1) := by decide +kernel
theorem dX0_turnsIn_0 : decode cX0_turnsIn 0 = .ok (.aload_n 0, 1) := by decide +kernel
theorem dX0_turnsIn_1 : decode cX0_turnsIn 1 = .ok (.getfield 18, 3) := by decide +kernel
theorem dX0_turnsIn_4 : decode cX0_turnsIn 4 = .ok (.ifCond .le 12, 3) := by decide +kernel
theorem dX0_turnsIn_7 : decode cX0_turnsIn 7 = .ok (.iload_n 1, 1) := by decide +kernel
theorem dX0_turnsIn_8 : decode cX0_turnsIn 8 = .ok (.aload_n 0, 1) := by decide +kernel
theorem dX0_turnsIn_9 : decode cX0_turnsIn 9 = .ok (.getfield 18, 3) := by decide +kernel
theorem dX0_turnsIn_12 : decode cX0_turnsIn 12 = .ok (.idiv, 1) := by decide +kernel
theorem dX0_turnsIn_13 : decode cX0_turnsIn 13 = .ok (.goto 4, 3) := by decide +kernel
theorem dX0_turnsIn_16 : decode cX0_turnsIn 16 = .ok (.iconst 0, 1) := by decide +kernel
theorem dX0_turnsIn_17 : decode cX0_turnsIn 17 = .ok (.ireturn, 1) := by decide +kernel
theorem dX0_leftOf_0 : decode cX0_leftOf 0 = .ok (.aload_n 0, 1) := by decide +kernel
theorem dX0_leftOf_1 : decode cX0_leftOf 1 = .ok (.getfield 18, 3) := by decide +kernel
theorem dX0_leftOf_4 : decode cX0_leftOf 4 = .ok (.ifCond .le 12, 3) := by decide +kernel
theorem dX0_leftOf_7 : decode cX0_leftOf 7 = .ok (.iload_n 1, 1) := by decide +kernel
theorem dX0_leftOf_8 : decode cX0_leftOf 8 = .ok (.aload_n 0, 1) := by decide +kernel
theorem dX0_leftOf_9 : decode cX0_leftOf 9 = .ok (.getfield 18, 3) := by decide +kernel
theorem dX0_leftOf_12 : decode cX0_leftOf 12 = .ok (.irem, 1) := by decide +kernel
theorem dX0_leftOf_13 : decode cX0_leftOf 13 = .ok (.goto 4, 3) := by decide +kernel
theorem dX0_leftOf_16 : decode cX0_leftOf 16 = .ok (.iconst 0, 1) := by decide +kernel
theorem dX0_leftOf_17 : decode cX0_leftOf 17 = .ok (.ireturn, 1) := by decide +kernel
theorem dX1_init_0 : decode cX1_init 0 = .ok (.aload_n 0, 1) := by decide +kernel
theorem dX1_init_1 : decode cX1_init 1 = .ok (.invokespecial 3, 3) := by decide +kernel
theorem dX1_init_4 : decode cX1_init 4 = .ok (.aload_n 0, 1) := by decide +kernel
theorem dX1_init_5 : decode cX1_init 5 = .ok (.bipush 96, 2) := by decide +kernel
theorem dX1_init_7 : decode cX1_init 7 = .ok (.newarray .int, 2) := by decide +kernel
theorem dX1_init_9 : decode cX1_init 9 = .ok (.putfield 9, 3) := by decide +kernel
theorem dX1_init_12 : decode cX1_init 12 = .ok (.aload_n 0, 1) := by decide +kernel
theorem dX1_init_13 : decode cX1_init 13 = .ok (.getfield 9, 3) := by decide +kernel
theorem dX1_init_16 : decode cX1_init 16 = .ok (.iconst (-1), 1) := by decide +kernel
theorem dX1_init_17 : decode cX1_init 17 = .ok (.invokestatic 15, 3) := by decide +kernel
theorem dX1_init_20 : decode cX1_init 20 = .ok (.return_, 1) := by decide +kernel
theorem dX1_copyFrom_0 : decode cX1_copyFrom 0 = .ok (.aload_n 1, 1) := by decide +kernel
theorem dX1_copyFrom_1 : decode cX1_copyFrom 1 = .ok (.getfield 9, 3) := by decide +kernel
theorem dX1_copyFrom_4 : decode cX1_copyFrom 4 = .ok (.iconst 0, 1) := by decide +kernel
theorem dX1_copyFrom_5 : decode cX1_copyFrom 5 = .ok (.aload_n 0, 1) := by decide +kernel
theorem dX1_copyFrom_6 : decode cX1_copyFrom 6 = .ok (.getfield 9, 3) := by decide +kernel
theorem dX1_copyFrom_9 : decode cX1_copyFrom 9 = .ok (.iconst 0, 1) := by decide +kernel
theorem dX1_copyFrom_10 : decode cX1_copyFrom 10 = .ok (.bipush 96, 2) := by decide +kernel
theorem dX1_copyFrom_12 : decode cX1_copyFrom 12 = .ok (.invokestatic 21, 3) := by decide +kernel
theorem dX1_copyFrom_15 : decode cX1_copyFrom 15 = .ok (.return_, 1) := by decide +kernel
theorem dX1_clear_0 : decode cX1_clear 0 = .ok (.aload_n 0, 1) := by decide +kernel
theorem dX1_clear_1 : decode cX1_clear 1 = .ok (.getfield 9, 3) := by decide +kernel
theorem dX1_clear_4 : decode cX1_clear 4 = .ok (.iconst (-1), 1) := by decide +kernel
theorem dX1_clear_5 : decode cX1_clear 5 = .ok (.invokestatic 15, 3) := by decide +kernel
theorem dX1_clear_8 : decode cX1_clear 8 = .ok (.return_, 1) := by decide +kernel
theorem dX1_at_0 : decode cX1_at 0 = .ok (.iload_n 1, 1) := by decide +kernel
theorem dX1_at_1 : decode cX1_at 1 = .ok (.ifCond .lt 18, 3) := by decide +kernel
theorem dX1_at_4 : decode cX1_at 4 = .ok (.iload_n 1, 1) := by decide +kernel
theorem dX1_at_5 : decode cX1_at 5 = .ok (.bipush 96, 2) := by decide +kernel
theorem dX1_at_7 : decode cX1_at 7 = .ok (.if_icmp .ge 12, 3) := by decide +kernel
theorem dX1_at_10 : decode cX1_at 10 = .ok (.aload_n 0, 1) := by decide +kernel
theorem dX1_at_11 : decode cX1_at 11 = .ok (.getfield 9, 3) := by decide +kernel
theorem dX1_at_14 : decode cX1_at 14 = .ok (.iload_n 1, 1) := by decide +kernel
theorem dX1_at_15 : decode cX1_at 15 = .ok (.iaload, 1) := by decide +kernel
theorem dX1_at_16 : decode cX1_at 16 = .ok (.goto 4, 3) := by decide +kernel
theorem dX1_at_19 : decode cX1_at 19 = .ok (.iconst (-1), 1) := by decide +kernel
theorem dX1_at_20 : decode cX1_at 20 = .ok (.ireturn, 1) := by decide +kernel
theorem dX1_note_0 : decode cX1_note 0 = .ok (.iload_n 1, 1) := by decide +kernel
theorem dX1_note_1 : decode cX1_note 1 = .ok (.ifCond .lt 16, 3) := by decide +kernel
theorem dX1_note_4 : decode cX1_note 4 = .ok (.iload_n 1, 1) := by decide +kernel
theorem dX1_note_5 : decode cX1_note 5 = .ok (.bipush 96, 2) := by decide +kernel
theorem dX1_note_7 : decode cX1_note 7 = .ok (.if_icmp .ge 10, 3) := by decide +kernel
theorem dX1_note_10 : decode cX1_note 10 = .ok (.aload_n 0, 1) := by decide +kernel
theorem dX1_note_11 : decode cX1_note 11 = .ok (.getfield 9, 3) := by decide +kernel
theorem dX1_note_14 : decode cX1_note 14 = .ok (.iload_n 1, 1) := by decide +kernel
theorem dX1_note_15 : decode cX1_note 15 = .ok (.iload_n 2, 1) := by decide +kernel
theorem dX1_note_16 : decode cX1_note 16 = .ok (.iastore, 1) := by decide +kernel
theorem dX1_note_17 : decode cX1_note 17 = .ok (.return_, 1) := by decide +kernel
theorem dX1_countFrom_0 : decode cX1_countFrom 0 = .ok (.iconst 0, 1) := by decide +kernel
theorem dX1_countFrom_1 : decode cX1_countFrom 1 = .ok (.istore_n 2, 1) := by decide +kernel
theorem dX1_countFrom_2 : decode cX1_countFrom 2 = .ok (.aload_n 0, 1) := by decide +kernel
theorem dX1_countFrom_3 : decode cX1_countFrom 3 = .ok (.getfield 9, 3) := by decide +kernel
theorem dX1_countFrom_6 : decode cX1_countFrom 6 = .ok (.astore_n 3, 1) := by decide +kernel
theorem dX1_countFrom_7 : decode cX1_countFrom 7 = .ok (.aload_n 3, 1) := by decide +kernel
theorem dX1_countFrom_8 : decode cX1_countFrom 8 = .ok (.arraylength, 1) := by decide +kernel
theorem dX1_countFrom_9 : decode cX1_countFrom 9 = .ok (.istore 4, 2) := by decide +kernel
theorem dX1_countFrom_11 : decode cX1_countFrom 11 = .ok (.iconst 0, 1) := by decide +kernel
theorem dX1_countFrom_12 : decode cX1_countFrom 12 = .ok (.istore 5, 2) := by decide +kernel
theorem dX1_countFrom_14 : decode cX1_countFrom 14 = .ok (.iload 5, 2) := by decide +kernel
theorem dX1_countFrom_16 : decode cX1_countFrom 16 = .ok (.iload 4, 2) := by decide +kernel
theorem dX1_countFrom_18 : decode cX1_countFrom 18 = .ok (.if_icmp .ge 24, 3) := by decide +kernel
theorem dX1_countFrom_21 : decode cX1_countFrom 21 = .ok (.aload_n 3, 1) := by decide +kernel
theorem dX1_countFrom_22 : decode cX1_countFrom 22 = .ok (.iload 5, 2) := by decide +kernel
theorem dX1_countFrom_24 : decode cX1_countFrom 24 = .ok (.iaload, 1) := by decide +kernel
theorem dX1_countFrom_25 : decode cX1_countFrom 25 = .ok (.istore 6, 2) := by decide +kernel
theorem dX1_countFrom_27 : decode cX1_countFrom 27 = .ok (.iload 6, 2) := by decide +kernel
theorem dX1_countFrom_29 : decode cX1_countFrom 29 = .ok (.iload_n 1, 1) := by decide +kernel
theorem dX1_countFrom_30 : decode cX1_countFrom 30 = .ok (.if_icmp .lt 6, 3) := by decide +kernel
theorem dX1_countFrom_33 : decode cX1_countFrom 33 = .ok (.iinc 2 1, 3) := by decide +kernel
theorem dX1_countFrom_36 : decode cX1_countFrom 36 = .ok (.iinc 5 1, 3) := by decide +kernel
theorem dX1_countFrom_39 : decode cX1_countFrom 39 = .ok (.goto (-25), 3) := by decide +kernel
theorem dX1_countFrom_42 : decode cX1_countFrom 42 = .ok (.iload_n 2, 1) := by decide +kernel
theorem dX1_countFrom_43 : decode cX1_countFrom 43 = .ok (.ireturn, 1) := by decide +kernel
theorem dX1_longestByTicks_0 : decode cX1_longestByTicks 0 = .ok (.iconst 0, 1) := by decide +kernel
theorem dX1_longestByTicks_1 : decode cX1_longestByTicks 1 = .ok (.istore_n 2, 1) := by decide +kernel
theorem dX1_longestByTicks_2 : decode cX1_longestByTicks 2 = .ok (.iconst 0, 1) := by decide +kernel
theorem dX1_longestByTicks_3 : decode cX1_longestByTicks 3 = .ok (.istore_n 3, 1) := by decide +kernel
theorem dX1_longestByTicks_4 : decode cX1_longestByTicks 4 = .ok (.aload_n 0, 1) := by decide +kernel
theorem dX1_longestByTicks_5 : decode cX1_longestByTicks 5 = .ok (.getfield 9, 3) := by decide +kernel
theorem dX1_longestByTicks_8 : decode cX1_longestByTicks 8 = .ok (.astore 4, 2) := by decide +kernel
theorem dX1_longestByTicks_10 : decode cX1_longestByTicks 10 = .ok (.aload 4, 2) := by decide +kernel
theorem dX1_longestByTicks_12 : decode cX1_longestByTicks 12 = .ok (.arraylength, 1) := by decide +kernel
theorem dX1_longestByTicks_13 : decode cX1_longestByTicks 13 = .ok (.istore 5, 2) := by decide +kernel
theorem dX1_longestByTicks_15 : decode cX1_longestByTicks 15 = .ok (.iconst 0, 1) := by decide +kernel
theorem dX1_longestByTicks_16 : decode cX1_longestByTicks 16 = .ok (.istore 6, 2) := by decide +kernel
theorem dX1_longestByTicks_18 : decode cX1_longestByTicks 18 = .ok (.iload 6, 2) := by decide +kernel
theorem dX1_longestByTicks_20 : decode cX1_longestByTicks 20 = .ok (.iload 5, 2) := by decide +kernel
theorem dX1_longestByTicks_22 : decode cX1_longestByTicks 22 = .ok (.if_icmp .ge 36, 3) := by decide +kernel
theorem dX1_longestByTicks_25 : decode cX1_longestByTicks 25 = .ok (.aload 4, 2) := by decide +kernel
theorem dX1_longestByTicks_27 : decode cX1_longestByTicks 27 = .ok (.iload 6, 2) := by decide +kernel
theorem dX1_longestByTicks_29 : decode cX1_longestByTicks 29 = .ok (.iaload, 1) := by decide +kernel
theorem dX1_longestByTicks_30 : decode cX1_longestByTicks 30 = .ok (.istore 7, 2) := by decide +kernel
theorem dX1_longestByTicks_32 : decode cX1_longestByTicks 32 = .ok (.iload 7, 2) := by decide +kernel
theorem dX1_longestByTicks_34 : decode cX1_longestByTicks 34 = .ok (.iload_n 1, 1) := by decide +kernel
theorem dX1_longestByTicks_35 : decode cX1_longestByTicks 35 = .ok (.if_icmp .lt 9, 3) := by decide +kernel
theorem dX1_longestByTicks_38 : decode cX1_longestByTicks 38 = .ok (.iload_n 3, 1) := by decide +kernel
theorem dX1_longestByTicks_39 : decode cX1_longestByTicks 39 = .ok (.iconst 1, 1) := by decide +kernel
theorem dX1_longestByTicks_40 : decode cX1_longestByTicks 40 = .ok (.iadd, 1) := by decide +kernel
theorem dX1_longestByTicks_41 : decode cX1_longestByTicks 41 = .ok (.goto 4, 3) := by decide +kernel
theorem dX1_longestByTicks_44 : decode cX1_longestByTicks 44 = .ok (.iconst 0, 1) := by decide +kernel
theorem dX1_longestByTicks_45 : decode cX1_longestByTicks 45 = .ok (.istore_n 3, 1) := by decide +kernel
theorem dX1_longestByTicks_46 : decode cX1_longestByTicks 46 = .ok (.iload_n 2, 1) := by decide +kernel
theorem dX1_longestByTicks_47 : decode cX1_longestByTicks 47 = .ok (.iload_n 3, 1) := by decide +kernel
theorem dX1_longestByTicks_48 : decode cX1_longestByTicks 48 = .ok (.invokestatic 27, 3) := by decide +kernel
theorem dX1_longestByTicks_51 : decode cX1_longestByTicks 51 = .ok (.istore_n 2, 1) := by decide +kernel
theorem dX1_longestByTicks_52 : decode cX1_longestByTicks 52 = .ok (.iinc 6 1, 3) := by decide +kernel
theorem dX1_longestByTicks_55 : decode cX1_longestByTicks 55 = .ok (.goto (-37), 3) := by decide +kernel
theorem dX1_longestByTicks_58 : decode cX1_longestByTicks 58 = .ok (.iload_n 2, 1) := by decide +kernel
theorem dX1_longestByTicks_59 : decode cX1_longestByTicks 59 = .ok (.ireturn, 1) := by decide +kernel
theorem dX1_longestByRows_0 : decode cX1_longestByRows 0 = .ok (.iconst 0, 1) := by decide +kernel
theorem dX1_longestByRows_1 : decode cX1_longestByRows 1 = .ok (.istore_n 2, 1) := by decide +kernel
theorem dX1_longestByRows_2 : decode cX1_longestByRows 2 = .ok (.iconst 0, 1) := by decide +kernel
theorem dX1_longestByRows_3 : decode cX1_longestByRows 3 = .ok (.istore_n 3, 1) := by decide +kernel
theorem dX1_longestByRows_4 : decode cX1_longestByRows 4 = .ok (.iload_n 3, 1) := by decide +kernel
theorem dX1_longestByRows_5 : decode cX1_longestByRows 5 = .ok (.bipush 96, 2) := by decide +kernel
theorem dX1_longestByRows_7 : decode cX1_longestByRows 7 = .ok (.if_icmp .ge 47, 3) := by decide +kernel
theorem dX1_longestByRows_10 : decode cX1_longestByRows 10 = .ok (.iload_n 3, 1) := by decide +kernel
theorem dX1_longestByRows_11 : decode cX1_longestByRows 11 = .ok (.istore 4, 2) := by decide +kernel
theorem dX1_longestByRows_13 : decode cX1_longestByRows 13 = .ok (.iload 4, 2) := by decide +kernel
theorem dX1_longestByRows_15 : decode cX1_longestByRows 15 = .ok (.bipush 96, 2) := by decide +kernel
theorem dX1_longestByRows_17 : decode cX1_longestByRows 17 = .ok (.if_icmp .ge 31, 3) := by decide +kernel
theorem dX1_longestByRows_20 : decode cX1_longestByRows 20 = .ok (.aload_n 0, 1) := by decide +kernel
theorem dX1_longestByRows_21 : decode cX1_longestByRows 21 = .ok (.getfield 9, 3) := by decide +kernel
theorem dX1_longestByRows_24 : decode cX1_longestByRows 24 = .ok (.iload 4, 2) := by decide +kernel
theorem dX1_longestByRows_26 : decode cX1_longestByRows 26 = .ok (.iaload, 1) := by decide +kernel
theorem dX1_longestByRows_27 : decode cX1_longestByRows 27 = .ok (.iload_n 1, 1) := by decide +kernel
theorem dX1_longestByRows_28 : decode cX1_longestByRows 28 = .ok (.if_icmp .lt 20, 3) := by decide +kernel
theorem dX1_longestByRows_31 : decode cX1_longestByRows 31 = .ok (.iload_n 2, 1) := by decide +kernel
theorem dX1_longestByRows_32 : decode cX1_longestByRows 32 = .ok (.iload 4, 2) := by decide +kernel
theorem dX1_longestByRows_34 : decode cX1_longestByRows 34 = .ok (.iload_n 3, 1) := by decide +kernel
theorem dX1_longestByRows_35 : decode cX1_longestByRows 35 = .ok (.isub, 1) := by decide +kernel
theorem dX1_longestByRows_36 : decode cX1_longestByRows 36 = .ok (.iconst 1, 1) := by decide +kernel
theorem dX1_longestByRows_37 : decode cX1_longestByRows 37 = .ok (.iadd, 1) := by decide +kernel
theorem dX1_longestByRows_38 : decode cX1_longestByRows 38 = .ok (.invokestatic 27, 3) := by decide +kernel
theorem dX1_longestByRows_41 : decode cX1_longestByRows 41 = .ok (.istore_n 2, 1) := by decide +kernel
theorem dX1_longestByRows_42 : decode cX1_longestByRows 42 = .ok (.iinc 4 1, 3) := by decide +kernel
theorem dX1_longestByRows_45 : decode cX1_longestByRows 45 = .ok (.goto (-32), 3) := by decide +kernel
theorem dX1_longestByRows_48 : decode cX1_longestByRows 48 = .ok (.iinc 3 1, 3) := by decide +kernel
theorem dX1_longestByRows_51 : decode cX1_longestByRows 51 = .ok (.goto (-47), 3) := by decide +kernel
theorem dX1_longestByRows_54 : decode cX1_longestByRows 54 = .ok (.iload_n 2, 1) := by decide +kernel
theorem dX1_longestByRows_55 : decode cX1_longestByRows 55 = .ok (.ireturn, 1) := by decide +kernel
theorem dX1_rowUpTo_0 : decode cX1_rowUpTo 0 = .ok (.iconst 0, 1) := by decide +kernel
theorem dX1_rowUpTo_1 : decode cX1_rowUpTo 1 = .ok (.istore 4, 2) := by decide +kernel
theorem dX1_rowUpTo_3 : decode cX1_rowUpTo 3 = .ok (.iload 4, 2) := by decide +kernel
theorem dX1_rowUpTo_5 : decode cX1_rowUpTo 5 = .ok (.iload_n 3, 1) := by decide +kernel
theorem dX1_rowUpTo_6 : decode cX1_rowUpTo 6 = .ok (.if_icmp .ge 21, 3) := by decide +kernel
theorem dX1_rowUpTo_9 : decode cX1_rowUpTo 9 = .ok (.aload_n 0, 1) := by decide +kernel
theorem dX1_rowUpTo_10 : decode cX1_rowUpTo 10 = .ok (.iload_n 1, 1) := by decide +kernel
theorem dX1_rowUpTo_11 : decode cX1_rowUpTo 11 = .ok (.iload 4, 2) := by decide +kernel
theorem dX1_rowUpTo_13 : decode cX1_rowUpTo 13 = .ok (.isub, 1) := by decide +kernel
theorem dX1_rowUpTo_14 : decode cX1_rowUpTo 14 = .ok (.invokevirtual 33, 3) := by decide +kernel
theorem dX1_rowUpTo_17 : decode cX1_rowUpTo 17 = .ok (.iload_n 2, 1) := by decide +kernel
theorem dX1_rowUpTo_18 : decode cX1_rowUpTo 18 = .ok (.if_icmp .lt 9, 3) := by decide +kernel
theorem dX1_rowUpTo_21 : decode cX1_rowUpTo 21 = .ok (.iinc 4 1, 3) := by decide +kernel
theorem dX1_rowUpTo_24 : decode cX1_rowUpTo 24 = .ok (.goto (-21), 3) := by decide +kernel
theorem dX1_rowUpTo_27 : decode cX1_rowUpTo 27 = .ok (.iload 4, 2) := by decide +kernel
theorem dX1_rowUpTo_29 : decode cX1_rowUpTo 29 = .ok (.ireturn, 1) := by decide +kernel
theorem dX2_init_0 : decode cX2_init 0 = .ok (.aload_n 0, 1) := by decide +kernel
theorem dX2_init_1 : decode cX2_init 1 = .ok (.invokespecial 3, 3) := by decide +kernel
theorem dX2_init_4 : decode cX2_init 4 = .ok (.aload_n 0, 1) := by decide +kernel
theorem dX2_init_5 : decode cX2_init 5 = .ok (.bipush 6, 2) := by decide +kernel
theorem dX2_init_7 : decode cX2_init 7 = .ok (.anewarray 9, 3) := by decide +kernel
theorem dX2_init_10 : decode cX2_init 10 = .ok (.putfield 11, 3) := by decide +kernel
theorem dX2_init_13 : decode cX2_init 13 = .ok (.aload_n 0, 1) := by decide +kernel
theorem dX2_init_14 : decode cX2_init 14 = .ok (.iconst 0, 1) := by decide +kernel
theorem dX2_init_15 : decode cX2_init 15 = .ok (.putfield 17, 3) := by decide +kernel
theorem dX2_init_18 : decode cX2_init 18 = .ok (.iconst 0, 1) := by decide +kernel
theorem dX2_init_19 : decode cX2_init 19 = .ok (.istore_n 1, 1) := by decide +kernel
theorem dX2_init_20 : decode cX2_init 20 = .ok (.iload_n 1, 1) := by decide +kernel
theorem dX2_init_21 : decode cX2_init 21 = .ok (.bipush 6, 2) := by decide +kernel
theorem dX2_init_23 : decode cX2_init 23 = .ok (.if_icmp .ge 22, 3) := by decide +kernel
theorem dX2_init_26 : decode cX2_init 26 = .ok (.aload_n 0, 1) := by decide +kernel
theorem dX2_init_27 : decode cX2_init 27 = .ok (.getfield 11, 3) := by decide +kernel
theorem dX2_init_30 : decode cX2_init 30 = .ok (.iload_n 1, 1) := by decide +kernel
theorem dX2_init_31 : decode cX2_init 31 = .ok (.new 9, 3) := by decide +kernel
theorem dX2_init_34 : decode cX2_init 34 = .ok (.dup, 1) := by decide +kernel
theorem dX2_init_35 : decode cX2_init 35 = .ok (.invokespecial 21, 3) := by decide +kernel
theorem dX2_init_38 : decode cX2_init 38 = .ok (.aastore, 1) := by decide +kernel
theorem dX2_init_39 : decode cX2_init 39 = .ok (.iinc 1 1, 3) := by decide +kernel
theorem dX2_init_42 : decode cX2_init 42 = .ok (.goto (-22), 3) := by decide +kernel
theorem dX2_init_45 : decode cX2_init 45 = .ok (.return_, 1) := by decide +kernel
theorem dX2_record_0 : decode cX2_record 0 = .ok (.aload_n 0, 1) := by decide +kernel
theorem dX2_record_1 : decode cX2_record 1 = .ok (.getfield 17, 3) := by decide +kernel
theorem dX2_record_4 : decode cX2_record 4 = .ok (.bipush 6, 2) := by decide +kernel
theorem dX2_record_6 : decode cX2_record 6 = .ok (.if_icmp .lt 7, 3) := by decide +kernel
theorem dX2_record_9 : decode cX2_record 9 = .ok (.aload_n 0, 1) := by decide +kernel
theorem dX2_record_10 : decode cX2_record 10 = .ok (.invokevirtual 22, 3) := by decide +kernel
theorem dX2_record_13 : decode cX2_record 13 = .ok (.aload_n 0, 1) := by decide +kernel
theorem dX2_record_14 : decode cX2_record 14 = .ok (.getfield 17, 3) := by decide +kernel
theorem dX2_record_17 : decode cX2_record 17 = .ok (.iconst 0, 1) := by decide +kernel
theorem dX2_record_18 : decode cX2_record 18 = .ok (.iconst 5, 1) := by decide +kernel
theorem dX2_record_19 : decode cX2_record 19 = .ok (.invokestatic 25, 3) := by decide +kernel
theorem dX2_record_22 : decode cX2_record 22 = .ok (.ifCond .eq 26, 3) := by decide +kernel
theorem dX2_record_25 : decode cX2_record 25 = .ok (.aload_n 0, 1) := by decide +kernel
theorem dX2_record_26 : decode cX2_record 26 = .ok (.getfield 11, 3) := by decide +kernel
theorem dX2_record_29 : decode cX2_record 29 = .ok (.aload_n 0, 1) := by decide +kernel
theorem dX2_record_30 : decode cX2_record 30 = .ok (.getfield 17, 3) := by decide +kernel
theorem dX2_record_33 : decode cX2_record 33 = .ok (.aaload, 1) := by decide +kernel
theorem dX2_record_34 : decode cX2_record 34 = .ok (.aload_n 1, 1) := by decide +kernel
theorem dX2_record_35 : decode cX2_record 35 = .ok (.invokevirtual 29, 3) := by decide +kernel
theorem dX2_record_38 : decode cX2_record 38 = .ok (.aload_n 0, 1) := by decide +kernel
theorem dX2_record_39 : decode cX2_record 39 = .ok (.dup, 1) := by decide +kernel
theorem dX2_record_40 : decode cX2_record 40 = .ok (.getfield 17, 3) := by decide +kernel
theorem dX2_record_43 : decode cX2_record 43 = .ok (.iconst 1, 1) := by decide +kernel
theorem dX2_record_44 : decode cX2_record 44 = .ok (.iadd, 1) := by decide +kernel
theorem dX2_record_45 : decode cX2_record 45 = .ok (.putfield 17, 3) := by decide +kernel
theorem dX2_record_48 : decode cX2_record 48 = .ok (.return_, 1) := by decide +kernel
theorem dX2_giveBack_0 : decode cX2_giveBack 0 = .ok (.aload_n 0, 1) := by decide +kernel
theorem dX2_giveBack_1 : decode cX2_giveBack 1 = .ok (.getfield 17, 3) := by decide +kernel
theorem dX2_giveBack_4 : decode cX2_giveBack 4 = .ok (.iconst 1, 1) := by decide +kernel
theorem dX2_giveBack_5 : decode cX2_giveBack 5 = .ok (.bipush 6, 2) := by decide +kernel
theorem dX2_giveBack_7 : decode cX2_giveBack 7 = .ok (.invokestatic 25, 3) := by decide +kernel
theorem dX2_giveBack_10 : decode cX2_giveBack 10 = .ok (.ifCond .eq 26, 3) := by decide +kernel
theorem dX2_giveBack_13 : decode cX2_giveBack 13 = .ok (.aload_n 0, 1) := by decide +kernel
theorem dX2_giveBack_14 : decode cX2_giveBack 14 = .ok (.dup, 1) := by decide +kernel
theorem dX2_giveBack_15 : decode cX2_giveBack 15 = .ok (.getfield 17, 3) := by decide +kernel
theorem dX2_giveBack_18 : decode cX2_giveBack 18 = .ok (.iconst 1, 1) := by decide +kernel
theorem dX2_giveBack_19 : decode cX2_giveBack 19 = .ok (.isub, 1) := by decide +kernel
theorem dX2_giveBack_20 : decode cX2_giveBack 20 = .ok (.putfield 17, 3) := by decide +kernel
theorem dX2_giveBack_23 : decode cX2_giveBack 23 = .ok (.aload_n 1, 1) := by decide +kernel
theorem dX2_giveBack_24 : decode cX2_giveBack 24 = .ok (.aload_n 0, 1) := by decide +kernel
theorem dX2_giveBack_25 : decode cX2_giveBack 25 = .ok (.getfield 11, 3) := by decide +kernel
theorem dX2_giveBack_28 : decode cX2_giveBack 28 = .ok (.aload_n 0, 1) := by decide +kernel
theorem dX2_giveBack_29 : decode cX2_giveBack 29 = .ok (.getfield 17, 3) := by decide +kernel
theorem dX2_giveBack_32 : decode cX2_giveBack 32 = .ok (.aaload, 1) := by decide +kernel
theorem dX2_giveBack_33 : decode cX2_giveBack 33 = .ok (.invokevirtual 29, 3) := by decide +kernel
theorem dX2_giveBack_36 : decode cX2_giveBack 36 = .ok (.return_, 1) := by decide +kernel
theorem dX2_dropOldest_0 : decode cX2_dropOldest 0 = .ok (.aload_n 0, 1) := by decide +kernel
theorem dX2_dropOldest_1 : decode cX2_dropOldest 1 = .ok (.getfield 11, 3) := by decide +kernel
theorem dX2_dropOldest_4 : decode cX2_dropOldest 4 = .ok (.iconst 0, 1) := by decide +kernel
theorem dX2_dropOldest_5 : decode cX2_dropOldest 5 = .ok (.aaload, 1) := by decide +kernel
theorem dX2_dropOldest_6 : decode cX2_dropOldest 6 = .ok (.astore_n 1, 1) := by decide +kernel
theorem dX2_dropOldest_7 : decode cX2_dropOldest 7 = .ok (.iconst 1, 1) := by decide +kernel
theorem dX2_dropOldest_8 : decode cX2_dropOldest 8 = .ok (.istore_n 2, 1) := by decide +kernel
theorem dX2_dropOldest_9 : decode cX2_dropOldest 9 = .ok (.iload_n 2, 1) := by decide +kernel
theorem dX2_dropOldest_10 : decode cX2_dropOldest 10 = .ok (.bipush 6, 2) := by decide +kernel
theorem dX2_dropOldest_12 : decode cX2_dropOldest 12 = .ok (.if_icmp .ge 23, 3) := by decide +kernel
theorem dX2_dropOldest_15 : decode cX2_dropOldest 15 = .ok (.aload_n 0, 1) := by decide +kernel
theorem dX2_dropOldest_16 : decode cX2_dropOldest 16 = .ok (.getfield 11, 3) := by decide +kernel
theorem dX2_dropOldest_19 : decode cX2_dropOldest 19 = .ok (.iload_n 2, 1) := by decide +kernel
theorem dX2_dropOldest_20 : decode cX2_dropOldest 20 = .ok (.iconst 1, 1) := by decide +kernel
theorem dX2_dropOldest_21 : decode cX2_dropOldest 21 = .ok (.isub, 1) := by decide +kernel
theorem dX2_dropOldest_22 : decode cX2_dropOldest 22 = .ok (.aload_n 0, 1) := by decide +kernel
theorem dX2_dropOldest_23 : decode cX2_dropOldest 23 = .ok (.getfield 11, 3) := by decide +kernel
theorem dX2_dropOldest_26 : decode cX2_dropOldest 26 = .ok (.iload_n 2, 1) := by decide +kernel
theorem dX2_dropOldest_27 : decode cX2_dropOldest 27 = .ok (.aaload, 1) := by decide +kernel
theorem dX2_dropOldest_28 : decode cX2_dropOldest 28 = .ok (.aastore, 1) := by decide +kernel
theorem dX2_dropOldest_29 : decode cX2_dropOldest 29 = .ok (.iinc 2 1, 3) := by decide +kernel
theorem dX2_dropOldest_32 : decode cX2_dropOldest 32 = .ok (.goto (-23), 3) := by decide +kernel
theorem dX2_dropOldest_35 : decode cX2_dropOldest 35 = .ok (.aload_n 0, 1) := by decide +kernel
theorem dX2_dropOldest_36 : decode cX2_dropOldest 36 = .ok (.getfield 11, 3) := by decide +kernel
theorem dX2_dropOldest_39 : decode cX2_dropOldest 39 = .ok (.iconst 5, 1) := by decide +kernel
theorem dX2_dropOldest_40 : decode cX2_dropOldest 40 = .ok (.aload_n 1, 1) := by decide +kernel
theorem dX2_dropOldest_41 : decode cX2_dropOldest 41 = .ok (.aastore, 1) := by decide +kernel
theorem dX2_dropOldest_42 : decode cX2_dropOldest 42 = .ok (.aload_n 0, 1) := by decide +kernel
theorem dX2_dropOldest_43 : decode cX2_dropOldest 43 = .ok (.iconst 5, 1) := by decide +kernel
theorem dX2_dropOldest_44 : decode cX2_dropOldest 44 = .ok (.putfield 17, 3) := by decide +kernel
theorem dX2_dropOldest_47 : decode cX2_dropOldest 47 = .ok (.return_, 1) := by decide +kernel
theorem dX3_init_0 : decode cX3_init 0 = .ok (.aload_n 0, 1) := by decide +kernel
theorem dX3_init_1 : decode cX3_init 1 = .ok (.invokespecial 3, 3) := by decide +kernel
theorem dX3_init_4 : decode cX3_init 4 = .ok (.aload_n 0, 1) := by decide +kernel
theorem dX3_init_5 : decode cX3_init 5 = .ok (.iconst (-1), 1) := by decide +kernel
theorem dX3_init_6 : decode cX3_init 6 = .ok (.putfield 9, 3) := by decide +kernel
theorem dX3_init_9 : decode cX3_init 9 = .ok (.aload_n 0, 1) := by decide +kernel
theorem dX3_init_10 : decode cX3_init 10 = .ok (.iconst 0, 1) := by decide +kernel
theorem dX3_init_11 : decode cX3_init 11 = .ok (.putfield 15, 3) := by decide +kernel
theorem dX3_init_14 : decode cX3_init 14 = .ok (.aload_n 0, 1) := by decide +kernel
theorem dX3_init_15 : decode cX3_init 15 = .ok (.iconst 0, 1) := by decide +kernel
theorem dX3_init_16 : decode cX3_init 16 = .ok (.putfield 18, 3) := by decide +kernel
theorem dX3_init_19 : decode cX3_init 19 = .ok (.aload_n 0, 1) := by decide +kernel
theorem dX3_init_20 : decode cX3_init 20 = .ok (.iconst 0, 1) := by decide +kernel
theorem dX3_init_21 : decode cX3_init 21 = .ok (.putfield 22, 3) := by decide +kernel
theorem dX3_init_24 : decode cX3_init 24 = .ok (.aload_n 0, 1) := by decide +kernel
theorem dX3_init_25 : decode cX3_init 25 = .ok (.iconst 0, 1) := by decide +kernel
theorem dX3_init_26 : decode cX3_init 26 = .ok (.putfield 25, 3) := by decide +kernel
theorem dX3_init_29 : decode cX3_init 29 = .ok (.aload_n 0, 1) := by decide +kernel
theorem dX3_init_30 : decode cX3_init 30 = .ok (.iconst 0, 1) := by decide +kernel
theorem dX3_init_31 : decode cX3_init 31 = .ok (.putfield 28, 3) := by decide +kernel
theorem dX3_init_34 : decode cX3_init 34 = .ok (.return_, 1) := by decide +kernel
theorem dX3_copyFrom_0 : decode cX3_copyFrom 0 = .ok (.aload_n 0, 1) := by decide +kernel
theorem dX3_copyFrom_1 : decode cX3_copyFrom 1 = .ok (.aload_n 1, 1) := by decide +kernel
theorem dX3_copyFrom_2 : decode cX3_copyFrom 2 = .ok (.getfield 9, 3) := by decide +kernel
theorem dX3_copyFrom_5 : decode cX3_copyFrom 5 = .ok (.putfield 9, 3) := by decide +kernel
theorem dX3_copyFrom_8 : decode cX3_copyFrom 8 = .ok (.aload_n 0, 1) := by decide +kernel
theorem dX3_copyFrom_9 : decode cX3_copyFrom 9 = .ok (.aload_n 1, 1) := by decide +kernel
theorem dX3_copyFrom_10 : decode cX3_copyFrom 10 = .ok (.getfield 15, 3) := by decide +kernel
theorem dX3_copyFrom_13 : decode cX3_copyFrom 13 = .ok (.putfield 15, 3) := by decide +kernel
theorem dX3_copyFrom_16 : decode cX3_copyFrom 16 = .ok (.aload_n 0, 1) := by decide +kernel
theorem dX3_copyFrom_17 : decode cX3_copyFrom 17 = .ok (.aload_n 1, 1) := by decide +kernel
theorem dX3_copyFrom_18 : decode cX3_copyFrom 18 = .ok (.getfield 18, 3) := by decide +kernel
theorem dX3_copyFrom_21 : decode cX3_copyFrom 21 = .ok (.putfield 18, 3) := by decide +kernel
theorem dX3_copyFrom_24 : decode cX3_copyFrom 24 = .ok (.aload_n 0, 1) := by decide +kernel
theorem dX3_copyFrom_25 : decode cX3_copyFrom 25 = .ok (.aload_n 1, 1) := by decide +kernel
theorem dX3_copyFrom_26 : decode cX3_copyFrom 26 = .ok (.getfield 22, 3) := by decide +kernel
theorem dX3_copyFrom_29 : decode cX3_copyFrom 29 = .ok (.putfield 22, 3) := by decide +kernel
theorem dX3_copyFrom_32 : decode cX3_copyFrom 32 = .ok (.aload_n 0, 1) := by decide +kernel
theorem dX3_copyFrom_33 : decode cX3_copyFrom 33 = .ok (.aload_n 1, 1) := by decide +kernel
theorem dX3_copyFrom_34 : decode cX3_copyFrom 34 = .ok (.getfield 25, 3) := by decide +kernel
theorem dX3_copyFrom_37 : decode cX3_copyFrom 37 = .ok (.putfield 25, 3) := by decide +kernel
theorem dX3_copyFrom_40 : decode cX3_copyFrom 40 = .ok (.aload_n 0, 1) := by decide +kernel
theorem dX3_copyFrom_41 : decode cX3_copyFrom 41 = .ok (.aload_n 1, 1) := by decide +kernel
theorem dX3_copyFrom_42 : decode cX3_copyFrom 42 = .ok (.getfield 28, 3) := by decide +kernel
theorem dX3_copyFrom_45 : decode cX3_copyFrom 45 = .ok (.putfield 28, 3) := by decide +kernel
theorem dX3_copyFrom_48 : decode cX3_copyFrom 48 = .ok (.return_, 1) := by decide +kernel
theorem dX3_outcome_0 : decode cX3_outcome 0 = .ok (.aload_n 0, 1) := by decide +kernel
theorem dX3_outcome_1 : decode cX3_outcome 1 = .ok (.getfield 25, 3) := by decide +kernel
theorem dX3_outcome_4 : decode cX3_outcome 4 = .ok (.ifCond .eq 5, 3) := by decide +kernel
theorem dX3_outcome_7 : decode cX3_outcome 7 = .ok (.iconst 3, 1) := by decide +kernel
theorem dX3_outcome_8 : decode cX3_outcome 8 = .ok (.ireturn, 1) := by decide +kernel
theorem dX3_outcome_9 : decode cX3_outcome 9 = .ok (.aload_n 0, 1) := by decide +kernel
theorem dX3_outcome_10 : decode cX3_outcome 10 = .ok (.getfield 18, 3) := by decide +kernel
theorem dX3_outcome_13 : decode cX3_outcome 13 = .ok (.ifCond .eq 5, 3) := by decide +kernel
theorem dX3_outcome_16 : decode cX3_outcome 16 = .ok (.iconst 0, 1) := by decide +kernel
theorem dX3_outcome_17 : decode cX3_outcome 17 = .ok (.ireturn, 1) := by decide +kernel
theorem dX3_outcome_18 : decode cX3_outcome 18 = .ok (.aload_n 0, 1) := by decide +kernel
theorem dX3_outcome_19 : decode cX3_outcome 19 = .ok (.getfield 22, 3) := by decide +kernel
theorem dX3_outcome_22 : decode cX3_outcome 22 = .ok (.ifCond .eq 7, 3) := by decide +kernel
theorem dX3_outcome_25 : decode cX3_outcome 25 = .ok (.iconst 1, 1) := by decide +kernel
theorem dX3_outcome_26 : decode cX3_outcome 26 = .ok (.goto 4, 3) := by decide +kernel
theorem dX3_outcome_29 : decode cX3_outcome 29 = .ok (.iconst 2, 1) := by decide +kernel
theorem dX3_outcome_30 : decode cX3_outcome 30 = .ok (.ireturn, 1) := by decide +kernel
theorem dX4_init_0 : decode cX4_init 0 = .ok (.aload_n 0, 1) := by decide +kernel
theorem dX4_init_1 : decode cX4_init 1 = .ok (.invokespecial 3, 3) := by decide +kernel
theorem dX4_init_4 : decode cX4_init 4 = .ok (.aload_n 0, 1) := by decide +kernel
theorem dX4_init_5 : decode cX4_init 5 = .ok (.iconst (-1), 1) := by decide +kernel
theorem dX4_init_6 : decode cX4_init 6 = .ok (.putfield 9, 3) := by decide +kernel
theorem dX4_init_9 : decode cX4_init 9 = .ok (.aload_n 0, 1) := by decide +kernel
theorem dX4_init_10 : decode cX4_init 10 = .ok (.iconst 0, 1) := by decide +kernel
theorem dX4_init_11 : decode cX4_init 11 = .ok (.putfield 15, 3) := by decide +kernel
theorem dX4_init_14 : decode cX4_init 14 = .ok (.aload_n 0, 1) := by decide +kernel
theorem dX4_init_15 : decode cX4_init 15 = .ok (.iconst 0, 1) := by decide +kernel
theorem dX4_init_16 : decode cX4_init 16 = .ok (.putfield 18, 3) := by decide +kernel
theorem dX4_init_19 : decode cX4_init 19 = .ok (.aload_n 0, 1) := by decide +kernel
theorem dX4_init_20 : decode cX4_init 20 = .ok (.iconst 0, 1) := by decide +kernel
theorem dX4_init_21 : decode cX4_init 21 = .ok (.putfield 21, 3) := by decide +kernel
theorem dX4_init_24 : decode cX4_init 24 = .ok (.aload_n 0, 1) := by decide +kernel
theorem dX4_init_25 : decode cX4_init 25 = .ok (.iconst 0, 1) := by decide +kernel
theorem dX4_init_26 : decode cX4_init 26 = .ok (.putfield 24, 3) := by decide +kernel
theorem dX4_init_29 : decode cX4_init 29 = .ok (.return_, 1) := by decide +kernel
theorem dX4_copyFrom_0 : decode cX4_copyFrom 0 = .ok (.aload_n 0, 1) := by decide +kernel
theorem dX4_copyFrom_1 : decode cX4_copyFrom 1 = .ok (.aload_n 1, 1) := by decide +kernel
theorem dX4_copyFrom_2 : decode cX4_copyFrom 2 = .ok (.getfield 9, 3) := by decide +kernel
theorem dX4_copyFrom_5 : decode cX4_copyFrom 5 = .ok (.putfield 9, 3) := by decide +kernel
theorem dX4_copyFrom_8 : decode cX4_copyFrom 8 = .ok (.aload_n 0, 1) := by decide +kernel
theorem dX4_copyFrom_9 : decode cX4_copyFrom 9 = .ok (.aload_n 1, 1) := by decide +kernel
theorem dX4_copyFrom_10 : decode cX4_copyFrom 10 = .ok (.getfield 15, 3) := by decide +kernel
theorem dX4_copyFrom_13 : decode cX4_copyFrom 13 = .ok (.putfield 15, 3) := by decide +kernel
theorem dX4_copyFrom_16 : decode cX4_copyFrom 16 = .ok (.aload_n 0, 1) := by decide +kernel
theorem dX4_copyFrom_17 : decode cX4_copyFrom 17 = .ok (.aload_n 1, 1) := by decide +kernel
theorem dX4_copyFrom_18 : decode cX4_copyFrom 18 = .ok (.getfield 18, 3) := by decide +kernel
theorem dX4_copyFrom_21 : decode cX4_copyFrom 21 = .ok (.putfield 18, 3) := by decide +kernel
theorem dX4_copyFrom_24 : decode cX4_copyFrom 24 = .ok (.aload_n 0, 1) := by decide +kernel
theorem dX4_copyFrom_25 : decode cX4_copyFrom 25 = .ok (.aload_n 1, 1) := by decide +kernel
theorem dX4_copyFrom_26 : decode cX4_copyFrom 26 = .ok (.getfield 21, 3) := by decide +kernel
theorem dX4_copyFrom_29 : decode cX4_copyFrom 29 = .ok (.putfield 21, 3) := by decide +kernel
theorem dX4_copyFrom_32 : decode cX4_copyFrom 32 = .ok (.aload_n 0, 1) := by decide +kernel
theorem dX4_copyFrom_33 : decode cX4_copyFrom 33 = .ok (.aload_n 1, 1) := by decide +kernel
theorem dX4_copyFrom_34 : decode cX4_copyFrom 34 = .ok (.getfield 24, 3) := by decide +kernel
theorem dX4_copyFrom_37 : decode cX4_copyFrom 37 = .ok (.putfield 24, 3) := by decide +kernel
theorem dX4_copyFrom_40 : decode cX4_copyFrom 40 = .ok (.return_, 1) := by decide +kernel
theorem dX4_readingFor_0 : decode cX4_readingFor 0 = .ok (.iload_n 2, 1) := by decide +kernel
theorem dX4_readingFor_1 : decode cX4_readingFor 1 = .ok (.iconst 3, 1) := by decide +kernel
theorem dX4_readingFor_2 : decode cX4_readingFor 2 = .ok (.if_icmp .lt 10, 3) := by decide +kernel
theorem dX4_readingFor_5 : decode cX4_readingFor 5 = .ok (.iload_n 1, 1) := by decide +kernel
theorem dX4_readingFor_6 : decode cX4_readingFor 6 = .ok (.iconst 2, 1) := by decide +kernel
theorem dX4_readingFor_7 : decode cX4_readingFor 7 = .ok (.if_icmp .gt 5, 3) := by decide +kernel
theorem dX4_readingFor_10 : decode cX4_readingFor 10 = .ok (.iconst 0, 1) := by decide +kernel
theorem dX4_readingFor_11 : decode cX4_readingFor 11 = .ok (.ireturn, 1) := by decide +kernel
theorem dX4_readingFor_12 : decode cX4_readingFor 12 = .ok (.aload_n 0, 1) := by decide +kernel
theorem dX4_readingFor_13 : decode cX4_readingFor 13 = .ok (.getfield 18, 3) := by decide +kernel
theorem dX4_readingFor_16 : decode cX4_readingFor 16 = .ok (.bipush 12, 2) := by decide +kernel
theorem dX4_readingFor_18 : decode cX4_readingFor 18 = .ok (.if_icmp .lt 7, 3) := by decide +kernel
theorem dX4_readingFor_21 : decode cX4_readingFor 21 = .ok (.iconst 1, 1) := by decide +kernel
theorem dX4_readingFor_22 : decode cX4_readingFor 22 = .ok (.goto 4, 3) := by decide +kernel
theorem dX4_readingFor_25 : decode cX4_readingFor 25 = .ok (.iconst 0, 1) := by decide +kernel
theorem dX4_readingFor_26 : decode cX4_readingFor 26 = .ok (.istore_n 3, 1) := by decide +kernel
theorem dX4_readingFor_27 : decode cX4_readingFor 27 = .ok (.iload_n 1, 1) := by decide +kernel
theorem dX4_readingFor_28 : decode cX4_readingFor 28 = .ok (.aload_n 0, 1) := by decide +kernel
theorem dX4_readingFor_29 : decode cX4_readingFor 29 = .ok (.getfield 15, 3) := by decide +kernel
theorem dX4_readingFor_32 : decode cX4_readingFor 32 = .ok (.iadd, 1) := by decide +kernel
theorem dX4_readingFor_33 : decode cX4_readingFor 33 = .ok (.iload_n 3, 1) := by decide +kernel
theorem dX4_readingFor_34 : decode cX4_readingFor 34 = .ok (.isub, 1) := by decide +kernel
theorem dX4_readingFor_35 : decode cX4_readingFor 35 = .ok (.invokestatic 27, 3) := by decide +kernel
theorem dX4_readingFor_38 : decode cX4_readingFor 38 = .ok (.ireturn, 1) := by decide +kernel
theorem dX4_countReading_0 : decode cX4_countReading 0 = .ok (.aload_n 0, 1) := by decide +kernel
theorem dX4_countReading_1 : decode cX4_countReading 1 = .ok (.dup, 1) := by decide +kernel
theorem dX4_countReading_2 : decode cX4_countReading 2 = .ok (.getfield 21, 3) := by decide +kernel
theorem dX4_countReading_5 : decode cX4_countReading 5 = .ok (.iload_n 1, 1) := by decide +kernel
theorem dX4_countReading_6 : decode cX4_countReading 6 = .ok (.iload_n 2, 1) := by decide +kernel
theorem dX4_countReading_7 : decode cX4_countReading 7 = .ok (.isub, 1) := by decide +kernel
theorem dX4_countReading_8 : decode cX4_countReading 8 = .ok (.invokestatic 31, 3) := by decide +kernel
theorem dX4_countReading_11 : decode cX4_countReading 11 = .ok (.iadd, 1) := by decide +kernel
theorem dX4_countReading_12 : decode cX4_countReading 12 = .ok (.putfield 21, 3) := by decide +kernel
theorem dX4_countReading_15 : decode cX4_countReading 15 = .ok (.aload_n 0, 1) := by decide +kernel
theorem dX4_countReading_16 : decode cX4_countReading 16 = .ok (.dup, 1) := by decide +kernel
theorem dX4_countReading_17 : decode cX4_countReading 17 = .ok (.getfield 24, 3) := by decide +kernel
theorem dX4_countReading_20 : decode cX4_countReading 20 = .ok (.iconst 1, 1) := by decide +kernel
theorem dX4_countReading_21 : decode cX4_countReading 21 = .ok (.iadd, 1) := by decide +kernel
theorem dX4_countReading_22 : decode cX4_countReading 22 = .ok (.putfield 24, 3) := by decide +kernel
theorem dX4_countReading_25 : decode cX4_countReading 25 = .ok (.return_, 1) := by decide +kernel
theorem dX4_tire_0 : decode cX4_tire 0 = .ok (.aload_n 0, 1) := by decide +kernel
theorem dX4_tire_1 : decode cX4_tire 1 = .ok (.aload_n 0, 1) := by decide +kernel
theorem dX4_tire_2 : decode cX4_tire 2 = .ok (.getfield 9, 3) := by decide +kernel
theorem dX4_tire_5 : decode cX4_tire 5 = .ok (.iconst (-1), 1) := by decide +kernel
theorem dX4_tire_6 : decode cX4_tire 6 = .ok (.if_icmp .ne 7, 3) := by decide +kernel
theorem dX4_tire_9 : decode cX4_tire 9 = .ok (.iconst 0, 1) := by decide +kernel
theorem dX4_tire_10 : decode cX4_tire 10 = .ok (.goto 9, 3) := by decide +kernel
theorem dX4_tire_13 : decode cX4_tire 13 = .ok (.aload_n 0, 1) := by decide +kernel
theorem dX4_tire_14 : decode cX4_tire 14 = .ok (.getfield 18, 3) := by decide +kernel
theorem dX4_tire_17 : decode cX4_tire 17 = .ok (.iconst 1, 1) := by decide +kernel
theorem dX4_tire_18 : decode cX4_tire 18 = .ok (.iadd, 1) := by decide +kernel
theorem dX4_tire_19 : decode cX4_tire 19 = .ok (.putfield 18, 3) := by decide +kernel
theorem dX4_tire_22 : decode cX4_tire 22 = .ok (.return_, 1) := by decide +kernel
theorem dX4_errsLessThan_0 : decode cX4_errsLessThan 0 = .ok (.aload_n 0, 1) := by decide +kernel
theorem dX4_errsLessThan_1 : decode cX4_errsLessThan 1 = .ok (.getfield 21, 3) := by decide +kernel
theorem dX4_errsLessThan_4 : decode cX4_errsLessThan 4 = .ok (.i2l, 1) := by decide +kernel
theorem dX4_errsLessThan_5 : decode cX4_errsLessThan 5 = .ok (.aload_n 1, 1) := by decide +kernel
theorem dX4_errsLessThan_6 : decode cX4_errsLessThan 6 = .ok (.getfield 24, 3) := by decide +kernel
theorem dX4_errsLessThan_9 : decode cX4_errsLessThan 9 = .ok (.i2l, 1) := by decide +kernel
theorem dX4_errsLessThan_10 : decode cX4_errsLessThan 10 = .ok (.lmul, 1) := by decide +kernel
theorem dX4_errsLessThan_11 : decode cX4_errsLessThan 11 = .ok (.aload_n 1, 1) := by decide +kernel
theorem dX4_errsLessThan_12 : decode cX4_errsLessThan 12 = .ok (.getfield 21, 3) := by decide +kernel
theorem dX4_errsLessThan_15 : decode cX4_errsLessThan 15 = .ok (.i2l, 1) := by decide +kernel
theorem dX4_errsLessThan_16 : decode cX4_errsLessThan 16 = .ok (.aload_n 0, 1) := by decide +kernel
theorem dX4_errsLessThan_17 : decode cX4_errsLessThan 17 = .ok (.getfield 24, 3) := by decide +kernel
theorem dX4_errsLessThan_20 : decode cX4_errsLessThan 20 = .ok (.i2l, 1) := by decide +kernel
theorem dX4_errsLessThan_21 : decode cX4_errsLessThan 21 = .ok (.lmul, 1) := by decide +kernel
theorem dX4_errsLessThan_22 : decode cX4_errsLessThan 22 = .ok (.lcmp, 1) := by decide +kernel
theorem dX4_errsLessThan_23 : decode cX4_errsLessThan 23 = .ok (.ifCond .ge 7, 3) := by decide +kernel
theorem dX4_errsLessThan_26 : decode cX4_errsLessThan 26 = .ok (.iconst 1, 1) := by decide +kernel
theorem dX4_errsLessThan_27 : decode cX4_errsLessThan 27 = .ok (.goto 4, 3) := by decide +kernel
theorem dX4_errsLessThan_30 : decode cX4_errsLessThan 30 = .ok (.iconst 0, 1) := by decide +kernel
theorem dX4_errsLessThan_31 : decode cX4_errsLessThan 31 = .ok (.ireturn, 1) := by decide +kernel
theorem dX5_init_0 : decode cX5_init 0 = .ok (.aload_n 0, 1) := by decide +kernel
theorem dX5_init_1 : decode cX5_init 1 = .ok (.invokespecial 3, 3) := by decide +kernel
theorem dX5_init_4 : decode cX5_init 4 = .ok (.aload_n 0, 1) := by decide +kernel
theorem dX5_init_5 : decode cX5_init 5 = .ok (.bipush 60, 2) := by decide +kernel
theorem dX5_init_7 : decode cX5_init 7 = .ok (.newarray .char, 2) := by decide +kernel
theorem dX5_init_9 : decode cX5_init 9 = .ok (.putfield 9, 3) := by decide +kernel
theorem dX5_init_12 : decode cX5_init 12 = .ok (.aload_n 0, 1) := by decide +kernel
theorem dX5_init_13 : decode cX5_init 13 = .ok (.iconst 0, 1) := by decide +kernel
theorem dX5_init_14 : decode cX5_init 14 = .ok (.putfield 15, 3) := by decide +kernel
theorem dX5_init_17 : decode cX5_init 17 = .ok (.aload_n 0, 1) := by decide +kernel
theorem dX5_init_18 : decode cX5_init 18 = .ok (.iconst 0, 1) := by decide +kernel
theorem dX5_init_19 : decode cX5_init 19 = .ok (.putfield 19, 3) := by decide +kernel
theorem dX5_init_22 : decode cX5_init 22 = .ok (.aload_n 0, 1) := by decide +kernel
theorem dX5_init_23 : decode cX5_init 23 = .ok (.iconst 0, 1) := by decide +kernel
theorem dX5_init_24 : decode cX5_init 24 = .ok (.putfield 22, 3) := by decide +kernel
theorem dX5_init_27 : decode cX5_init 27 = .ok (.aload_n 0, 1) := by decide +kernel
theorem dX5_init_28 : decode cX5_init 28 = .ok (.iconst (-1), 1) := by decide +kernel
theorem dX5_init_29 : decode cX5_init 29 = .ok (.putfield 26, 3) := by decide +kernel
theorem dX5_init_32 : decode cX5_init 32 = .ok (.aload_n 0, 1) := by decide +kernel
theorem dX5_init_33 : decode cX5_init 33 = .ok (.iconst (-1), 1) := by decide +kernel
theorem dX5_init_34 : decode cX5_init 34 = .ok (.putfield 29, 3) := by decide +kernel
theorem dX5_init_37 : decode cX5_init 37 = .ok (.return_, 1) := by decide +kernel
theorem dX5_countOf_0 : decode cX5_countOf 0 = .ok (.lload_n 0, 1) := by decide +kernel
theorem dX5_countOf_1 : decode cX5_countOf 1 = .ok (.lstore_n 2, 1) := by decide +kernel
theorem dX5_countOf_2 : decode cX5_countOf 2 = .ok (.iconst 0, 1) := by decide +kernel
theorem dX5_countOf_3 : decode cX5_countOf 3 = .ok (.istore 4, 2) := by decide +kernel
theorem dX5_countOf_5 : decode cX5_countOf 5 = .ok (.iload 4, 2) := by decide +kernel
theorem dX5_countOf_7 : decode cX5_countOf 7 = .ok (.bipush 8, 2) := by decide +kernel
theorem dX5_countOf_9 : decode cX5_countOf 9 = .ok (.if_icmp .ge 42, 3) := by decide +kernel
theorem dX5_countOf_12 : decode cX5_countOf 12 = .ok (.lload_n 2, 1) := by decide +kernel
theorem dX5_countOf_13 : decode cX5_countOf 13 = .ok (.ldc2_w 32, 3) := by decide +kernel
theorem dX5_countOf_16 : decode cX5_countOf 16 = .ok (.land, 1) := by decide +kernel
theorem dX5_countOf_17 : decode cX5_countOf 17 = .ok (.lconst 0, 1) := by decide +kernel
theorem dX5_countOf_18 : decode cX5_countOf 18 = .ok (.lcmp, 1) := by decide +kernel
theorem dX5_countOf_19 : decode cX5_countOf 19 = .ok (.ifCond .eq 32, 3) := by decide +kernel
theorem dX5_countOf_22 : decode cX5_countOf 22 = .ok (.lload_n 2, 1) := by decide +kernel
theorem dX5_countOf_23 : decode cX5_countOf 23 = .ok (.ldc2_w 32, 3) := by decide +kernel
theorem dX5_countOf_26 : decode cX5_countOf 26 = .ok (.land, 1) := by decide +kernel
theorem dX5_countOf_27 : decode cX5_countOf 27 = .ok (.l2i, 1) := by decide +kernel
theorem dX5_countOf_28 : decode cX5_countOf 28 = .ok (.bipush 33, 2) := by decide +kernel
theorem dX5_countOf_30 : decode cX5_countOf 30 = .ok (.bipush 126, 2) := by decide +kernel
theorem dX5_countOf_32 : decode cX5_countOf 32 = .ok (.invokestatic 34, 3) := by decide +kernel
theorem dX5_countOf_35 : decode cX5_countOf 35 = .ok (.ifCond .ne 5, 3) := by decide +kernel
theorem dX5_countOf_38 : decode cX5_countOf 38 = .ok (.iconst (-1), 1) := by decide +kernel
theorem dX5_countOf_39 : decode cX5_countOf 39 = .ok (.ireturn, 1) := by decide +kernel
theorem dX5_countOf_40 : decode cX5_countOf 40 = .ok (.lload_n 2, 1) := by decide +kernel
theorem dX5_countOf_41 : decode cX5_countOf 41 = .ok (.bipush 8, 2) := by decide +kernel
theorem dX5_countOf_43 : decode cX5_countOf 43 = .ok (.lushr, 1) := by decide +kernel
theorem dX5_countOf_44 : decode cX5_countOf 44 = .ok (.lstore_n 2, 1) := by decide +kernel
theorem dX5_countOf_45 : decode cX5_countOf 45 = .ok (.iinc 4 1, 3) := by decide +kernel
theorem dX5_countOf_48 : decode cX5_countOf 48 = .ok (.goto (-43), 3) := by decide +kernel
theorem dX5_countOf_51 : decode cX5_countOf 51 = .ok (.lload_n 2, 1) := by decide +kernel
theorem dX5_countOf_52 : decode cX5_countOf 52 = .ok (.lconst 0, 1) := by decide +kernel
theorem dX5_countOf_53 : decode cX5_countOf 53 = .ok (.lcmp, 1) := by decide +kernel
theorem dX5_countOf_54 : decode cX5_countOf 54 = .ok (.ifCond .ne 8, 3) := by decide +kernel
theorem dX5_countOf_57 : decode cX5_countOf 57 = .ok (.iload 4, 2) := by decide +kernel
theorem dX5_countOf_59 : decode cX5_countOf 59 = .ok (.goto 4, 3) := by decide +kernel
theorem dX5_countOf_62 : decode cX5_countOf 62 = .ok (.iconst (-1), 1) := by decide +kernel
theorem dX5_countOf_63 : decode cX5_countOf 63 = .ok (.ireturn, 1) := by decide +kernel
theorem dX5_room_0 : decode cX5_room 0 = .ok (.bipush 60, 2) := by decide +kernel
theorem dX5_room_2 : decode cX5_room 2 = .ok (.aload_n 0, 1) := by decide +kernel
theorem dX5_room_3 : decode cX5_room 3 = .ok (.getfield 19, 3) := by decide +kernel
theorem dX5_room_6 : decode cX5_room 6 = .ok (.isub, 1) := by decide +kernel
theorem dX5_room_7 : decode cX5_room 7 = .ok (.ireturn, 1) := by decide +kernel
theorem dX5_append_0 : decode cX5_append 0 = .ok (.iload_n 3, 1) := by decide +kernel
theorem dX5_append_1 : decode cX5_append 1 = .ok (.iconst 1, 1) := by decide +kernel
theorem dX5_append_2 : decode cX5_append 2 = .ok (.isub, 1) := by decide +kernel
theorem dX5_append_3 : decode cX5_append 3 = .ok (.istore 4, 2) := by decide +kernel
theorem dX5_append_5 : decode cX5_append 5 = .ok (.iload 4, 2) := by decide +kernel
theorem dX5_append_7 : decode cX5_append 7 = .ok (.ifCond .lt 54, 3) := by decide +kernel
theorem dX5_append_10 : decode cX5_append 10 = .ok (.aload_n 0, 1) := by decide +kernel
theorem dX5_append_11 : decode cX5_append 11 = .ok (.getfield 19, 3) := by decide +kernel
theorem dX5_append_14 : decode cX5_append 14 = .ok (.iconst 0, 1) := by decide +kernel
theorem dX5_append_15 : decode cX5_append 15 = .ok (.bipush 59, 2) := by decide +kernel
theorem dX5_append_17 : decode cX5_append 17 = .ok (.invokestatic 34, 3) := by decide +kernel
theorem dX5_append_20 : decode cX5_append 20 = .ok (.ifCond .eq 35, 3) := by decide +kernel
theorem dX5_append_23 : decode cX5_append 23 = .ok (.aload_n 0, 1) := by decide +kernel
theorem dX5_append_24 : decode cX5_append 24 = .ok (.getfield 9, 3) := by decide +kernel
theorem dX5_append_27 : decode cX5_append 27 = .ok (.aload_n 0, 1) := by decide +kernel
theorem dX5_append_28 : decode cX5_append 28 = .ok (.getfield 19, 3) := by decide +kernel
theorem dX5_append_31 : decode cX5_append 31 = .ok (.lload_n 1, 1) := by decide +kernel
theorem dX5_append_32 : decode cX5_append 32 = .ok (.bipush 8, 2) := by decide +kernel
theorem dX5_append_34 : decode cX5_append 34 = .ok (.iload 4, 2) := by decide +kernel
theorem dX5_append_36 : decode cX5_append 36 = .ok (.imul, 1) := by decide +kernel
theorem dX5_append_37 : decode cX5_append 37 = .ok (.lushr, 1) := by decide +kernel
theorem dX5_append_38 : decode cX5_append 38 = .ok (.ldc2_w 32, 3) := by decide +kernel
theorem dX5_append_41 : decode cX5_append 41 = .ok (.land, 1) := by decide +kernel
theorem dX5_append_42 : decode cX5_append 42 = .ok (.l2i, 1) := by decide +kernel
theorem dX5_append_43 : decode cX5_append 43 = .ok (.i2c, 1) := by decide +kernel
theorem dX5_append_44 : decode cX5_append 44 = .ok (.castore, 1) := by decide +kernel
theorem dX5_append_45 : decode cX5_append 45 = .ok (.aload_n 0, 1) := by decide +kernel
theorem dX5_append_46 : decode cX5_append 46 = .ok (.dup, 1) := by decide +kernel
theorem dX5_append_47 : decode cX5_append 47 = .ok (.getfield 19, 3) := by decide +kernel
theorem dX5_append_50 : decode cX5_append 50 = .ok (.iconst 1, 1) := by decide +kernel
theorem dX5_append_51 : decode cX5_append 51 = .ok (.iadd, 1) := by decide +kernel
theorem dX5_append_52 : decode cX5_append 52 = .ok (.putfield 19, 3) := by decide +kernel
theorem dX5_append_55 : decode cX5_append 55 = .ok (.iinc 4 (-1), 3) := by decide +kernel
theorem dX5_append_58 : decode cX5_append 58 = .ok (.goto (-53), 3) := by decide +kernel
theorem dX5_append_61 : decode cX5_append 61 = .ok (.return_, 1) := by decide +kernel
theorem dX5_empty_0 : decode cX5_empty 0 = .ok (.aload_n 0, 1) := by decide +kernel
theorem dX5_empty_1 : decode cX5_empty 1 = .ok (.iconst 0, 1) := by decide +kernel
theorem dX5_empty_2 : decode cX5_empty 2 = .ok (.putfield 19, 3) := by decide +kernel
theorem dX5_empty_5 : decode cX5_empty 5 = .ok (.return_, 1) := by decide +kernel
theorem dX5_goToStart_0 : decode cX5_goToStart 0 = .ok (.aload_n 0, 1) := by decide +kernel
theorem dX5_goToStart_1 : decode cX5_goToStart 1 = .ok (.iconst 0, 1) := by decide +kernel
theorem dX5_goToStart_2 : decode cX5_goToStart 2 = .ok (.putfield 15, 3) := by decide +kernel
theorem dX5_goToStart_5 : decode cX5_goToStart 5 = .ok (.return_, 1) := by decide +kernel
theorem dX5_findFault_0 : decode cX5_findFault 0 = .ok (.aload_n 0, 1) := by decide +kernel
theorem dX5_findFault_1 : decode cX5_findFault 1 = .ok (.invokevirtual 38, 3) := by decide +kernel
theorem dX5_findFault_4 : decode cX5_findFault 4 = .ok (.iconst 0, 1) := by decide +kernel
theorem dX5_findFault_5 : decode cX5_findFault 5 = .ok (.istore_n 1, 1) := by decide +kernel
theorem dX5_findFault_6 : decode cX5_findFault 6 = .ok (.iload_n 1, 1) := by decide +kernel
theorem dX5_findFault_7 : decode cX5_findFault 7 = .ok (.bipush 60, 2) := by decide +kernel
theorem dX5_findFault_9 : decode cX5_findFault 9 = .ok (.if_icmp .ge 48, 3) := by decide +kernel
theorem dX5_findFault_12 : decode cX5_findFault 12 = .ok (.aload_n 0, 1) := by decide +kernel
theorem dX5_findFault_13 : decode cX5_findFault 13 = .ok (.invokevirtual 41, 3) := by decide +kernel
theorem dX5_findFault_16 : decode cX5_findFault 16 = .ok (.ifCond .ne 8, 3) := by decide +kernel
theorem dX5_findFault_19 : decode cX5_findFault 19 = .ok (.aload_n 0, 1) := by decide +kernel
theorem dX5_findFault_20 : decode cX5_findFault 20 = .ok (.getfield 15, 3) := by decide +kernel
theorem dX5_findFault_23 : decode cX5_findFault 23 = .ok (.ireturn, 1) := by decide +kernel
theorem dX5_findFault_24 : decode cX5_findFault 24 = .ok (.aload_n 0, 1) := by decide +kernel
theorem dX5_findFault_25 : decode cX5_findFault 25 = .ok (.getfield 15, 3) := by decide +kernel
theorem dX5_findFault_28 : decode cX5_findFault 28 = .ok (.aload_n 0, 1) := by decide +kernel
theorem dX5_findFault_29 : decode cX5_findFault 29 = .ok (.getfield 19, 3) := by decide +kernel
theorem dX5_findFault_32 : decode cX5_findFault 32 = .ok (.if_icmp .ne 5, 3) := by decide +kernel
theorem dX5_findFault_35 : decode cX5_findFault 35 = .ok (.iconst (-1), 1) := by decide +kernel
theorem dX5_findFault_36 : decode cX5_findFault 36 = .ok (.ireturn, 1) := by decide +kernel
theorem dX5_findFault_37 : decode cX5_findFault 37 = .ok (.aload_n 0, 1) := by decide +kernel
theorem dX5_findFault_38 : decode cX5_findFault 38 = .ok (.bipush 59, 2) := by decide +kernel
theorem dX5_findFault_40 : decode cX5_findFault 40 = .ok (.invokevirtual 45, 3) := by decide +kernel
theorem dX5_findFault_43 : decode cX5_findFault 43 = .ok (.ifCond .ne 8, 3) := by decide +kernel
theorem dX5_findFault_46 : decode cX5_findFault 46 = .ok (.aload_n 0, 1) := by decide +kernel
theorem dX5_findFault_47 : decode cX5_findFault 47 = .ok (.getfield 15, 3) := by decide +kernel
theorem dX5_findFault_50 : decode cX5_findFault 50 = .ok (.ireturn, 1) := by decide +kernel
theorem dX5_findFault_51 : decode cX5_findFault 51 = .ok (.iinc 1 1, 3) := by decide +kernel
theorem dX5_findFault_54 : decode cX5_findFault 54 = .ok (.goto (-48), 3) := by decide +kernel
theorem dX5_findFault_57 : decode cX5_findFault 57 = .ok (.aload_n 0, 1) := by decide +kernel
theorem dX5_findFault_58 : decode cX5_findFault 58 = .ok (.getfield 15, 3) := by decide +kernel
theorem dX5_findFault_61 : decode cX5_findFault 61 = .ok (.ireturn, 1) := by decide +kernel
theorem dX5_takePart_0 : decode cX5_takePart 0 = .ok (.aload_n 0, 1) := by decide +kernel
theorem dX5_takePart_1 : decode cX5_takePart 1 = .ok (.aload_n 0, 1) := by decide +kernel
theorem dX5_takePart_2 : decode cX5_takePart 2 = .ok (.invokevirtual 49, 3) := by decide +kernel
theorem dX5_takePart_5 : decode cX5_takePart 5 = .ok (.putfield 22, 3) := by decide +kernel
theorem dX5_takePart_8 : decode cX5_takePart 8 = .ok (.aload_n 0, 1) := by decide +kernel
theorem dX5_takePart_9 : decode cX5_takePart 9 = .ok (.getfield 22, 3) := by decide +kernel
theorem dX5_takePart_12 : decode cX5_takePart 12 = .ok (.lookupswitch 289 #[(46, 265), (97, 239), (100, 162), (102, 127), (103, 196), (111, 68), (114, 102)], 68) := by decide +kernel
theorem dX5_takePart_80 : decode cX5_takePart 80 = .ok (.aload_n 0, 1) := by decide +kernel
theorem dX5_takePart_81 : decode cX5_takePart 81 = .ok (.aload_n 0, 1) := by decide +kernel
theorem dX5_takePart_82 : decode cX5_takePart 82 = .ok (.getfield 22, 3) := by decide +kernel
theorem dX5_takePart_85 : decode cX5_takePart 85 = .ok (.invokevirtual 45, 3) := by decide +kernel
theorem dX5_takePart_88 : decode cX5_takePart 88 = .ok (.ifCond .eq 24, 3) := by decide +kernel
theorem dX5_takePart_91 : decode cX5_takePart 91 = .ok (.aload_n 0, 1) := by decide +kernel
theorem dX5_takePart_92 : decode cX5_takePart 92 = .ok (.iconst 2, 1) := by decide +kernel
theorem dX5_takePart_93 : decode cX5_takePart 93 = .ok (.invokevirtual 53, 3) := by decide +kernel
theorem dX5_takePart_96 : decode cX5_takePart 96 = .ok (.ifCond .eq 16, 3) := by decide +kernel
theorem dX5_takePart_99 : decode cX5_takePart 99 = .ok (.aload_n 0, 1) := by decide +kernel
theorem dX5_takePart_100 : decode cX5_takePart 100 = .ok (.bipush 7, 2) := by decide +kernel
theorem dX5_takePart_102 : decode cX5_takePart 102 = .ok (.invokevirtual 57, 3) := by decide +kernel
theorem dX5_takePart_105 : decode cX5_takePart 105 = .ok (.ifCond .eq 7, 3) := by decide +kernel
theorem dX5_takePart_108 : decode cX5_takePart 108 = .ok (.iconst 1, 1) := by decide +kernel
theorem dX5_takePart_109 : decode cX5_takePart 109 = .ok (.goto 4, 3) := by decide +kernel
theorem dX5_takePart_112 : decode cX5_takePart 112 = .ok (.iconst 0, 1) := by decide +kernel
theorem dX5_takePart_113 : decode cX5_takePart 113 = .ok (.ireturn, 1) := by decide +kernel
theorem dX5_takePart_114 : decode cX5_takePart 114 = .ok (.aload_n 0, 1) := by decide +kernel
theorem dX5_takePart_115 : decode cX5_takePart 115 = .ok (.aload_n 0, 1) := by decide +kernel
theorem dX5_takePart_116 : decode cX5_takePart 116 = .ok (.getfield 22, 3) := by decide +kernel
theorem dX5_takePart_119 : decode cX5_takePart 119 = .ok (.invokevirtual 45, 3) := by decide +kernel
theorem dX5_takePart_122 : decode cX5_takePart 122 = .ok (.ifCond .eq 15, 3) := by decide +kernel
theorem dX5_takePart_125 : decode cX5_takePart 125 = .ok (.aload_n 0, 1) := by decide +kernel
theorem dX5_takePart_126 : decode cX5_takePart 126 = .ok (.iconst 2, 1) := by decide +kernel
theorem dX5_takePart_127 : decode cX5_takePart 127 = .ok (.invokevirtual 53, 3) := by decide +kernel
theorem dX5_takePart_130 : decode cX5_takePart 130 = .ok (.ifCond .eq 7, 3) := by decide +kernel
theorem dX5_takePart_133 : decode cX5_takePart 133 = .ok (.iconst 1, 1) := by decide +kernel
theorem dX5_takePart_134 : decode cX5_takePart 134 = .ok (.goto 4, 3) := by decide +kernel
theorem dX5_takePart_137 : decode cX5_takePart 137 = .ok (.iconst 0, 1) := by decide +kernel
theorem dX5_takePart_138 : decode cX5_takePart 138 = .ok (.ireturn, 1) := by decide +kernel
theorem dX5_takePart_139 : decode cX5_takePart 139 = .ok (.aload_n 0, 1) := by decide +kernel
theorem dX5_takePart_140 : decode cX5_takePart 140 = .ok (.aload_n 0, 1) := by decide +kernel
theorem dX5_takePart_141 : decode cX5_takePart 141 = .ok (.getfield 22, 3) := by decide +kernel
theorem dX5_takePart_144 : decode cX5_takePart 144 = .ok (.invokevirtual 45, 3) := by decide +kernel
theorem dX5_takePart_147 : decode cX5_takePart 147 = .ok (.ifCond .eq 25, 3) := by decide +kernel
theorem dX5_takePart_150 : decode cX5_takePart 150 = .ok (.aload_n 0, 1) := by decide +kernel
theorem dX5_takePart_151 : decode cX5_takePart 151 = .ok (.bipush 7, 2) := by decide +kernel
theorem dX5_takePart_153 : decode cX5_takePart 153 = .ok (.invokevirtual 53, 3) := by decide +kernel
theorem dX5_takePart_156 : decode cX5_takePart 156 = .ok (.ifCond .eq 16, 3) := by decide +kernel
theorem dX5_takePart_159 : decode cX5_takePart 159 = .ok (.aload_n 0, 1) := by decide +kernel
theorem dX5_takePart_160 : decode cX5_takePart 160 = .ok (.bipush 9, 2) := by decide +kernel
theorem dX5_takePart_162 : decode cX5_takePart 162 = .ok (.invokevirtual 57, 3) := by decide +kernel
theorem dX5_takePart_165 : decode cX5_takePart 165 = .ok (.ifCond .eq 7, 3) := by decide +kernel
theorem dX5_takePart_168 : decode cX5_takePart 168 = .ok (.iconst 1, 1) := by decide +kernel
theorem dX5_takePart_169 : decode cX5_takePart 169 = .ok (.goto 4, 3) := by decide +kernel
theorem dX5_takePart_172 : decode cX5_takePart 172 = .ok (.iconst 0, 1) := by decide +kernel
theorem dX5_takePart_173 : decode cX5_takePart 173 = .ok (.ireturn, 1) := by decide +kernel
theorem dX5_takePart_174 : decode cX5_takePart 174 = .ok (.aload_n 0, 1) := by decide +kernel
theorem dX5_takePart_175 : decode cX5_takePart 175 = .ok (.aload_n 0, 1) := by decide +kernel
theorem dX5_takePart_176 : decode cX5_takePart 176 = .ok (.getfield 22, 3) := by decide +kernel
theorem dX5_takePart_179 : decode cX5_takePart 179 = .ok (.invokevirtual 45, 3) := by decide +kernel
theorem dX5_takePart_182 : decode cX5_takePart 182 = .ok (.ifCond .eq 24, 3) := by decide +kernel
theorem dX5_takePart_185 : decode cX5_takePart 185 = .ok (.aload_n 0, 1) := by decide +kernel
theorem dX5_takePart_186 : decode cX5_takePart 186 = .ok (.bipush 7, 2) := by decide +kernel
theorem dX5_takePart_188 : decode cX5_takePart 188 = .ok (.invokevirtual 53, 3) := by decide +kernel
theorem dX5_takePart_191 : decode cX5_takePart 191 = .ok (.ifCond .eq 15, 3) := by decide +kernel
theorem dX5_takePart_194 : decode cX5_takePart 194 = .ok (.aload_n 0, 1) := by decide +kernel
theorem dX5_takePart_195 : decode cX5_takePart 195 = .ok (.iconst 2, 1) := by decide +kernel
theorem dX5_takePart_196 : decode cX5_takePart 196 = .ok (.invokevirtual 57, 3) := by decide +kernel
theorem dX5_takePart_199 : decode cX5_takePart 199 = .ok (.ifCond .eq 7, 3) := by decide +kernel
theorem dX5_takePart_202 : decode cX5_takePart 202 = .ok (.iconst 1, 1) := by decide +kernel
theorem dX5_takePart_203 : decode cX5_takePart 203 = .ok (.goto 4, 3) := by decide +kernel
theorem dX5_takePart_206 : decode cX5_takePart 206 = .ok (.iconst 0, 1) := by decide +kernel
theorem dX5_takePart_207 : decode cX5_takePart 207 = .ok (.ireturn, 1) := by decide +kernel
theorem dX5_takePart_208 : decode cX5_takePart 208 = .ok (.aload_n 0, 1) := by decide +kernel
theorem dX5_takePart_209 : decode cX5_takePart 209 = .ok (.aload_n 0, 1) := by decide +kernel
theorem dX5_takePart_210 : decode cX5_takePart 210 = .ok (.getfield 22, 3) := by decide +kernel
theorem dX5_takePart_213 : decode cX5_takePart 213 = .ok (.invokevirtual 45, 3) := by decide +kernel
theorem dX5_takePart_216 : decode cX5_takePart 216 = .ok (.ifCond .eq 33, 3) := by decide +kernel
theorem dX5_takePart_219 : decode cX5_takePart 219 = .ok (.aload_n 0, 1) := by decide +kernel
theorem dX5_takePart_220 : decode cX5_takePart 220 = .ok (.bipush 23, 2) := by decide +kernel
theorem dX5_takePart_222 : decode cX5_takePart 222 = .ok (.invokevirtual 60, 3) := by decide +kernel
theorem dX5_takePart_225 : decode cX5_takePart 225 = .ok (.ifCond .eq 24, 3) := by decide +kernel
theorem dX5_takePart_228 : decode cX5_takePart 228 = .ok (.aload_n 0, 1) := by decide +kernel
theorem dX5_takePart_229 : decode cX5_takePart 229 = .ok (.bipush 61, 2) := by decide +kernel
theorem dX5_takePart_231 : decode cX5_takePart 231 = .ok (.invokevirtual 45, 3) := by decide +kernel
theorem dX5_takePart_234 : decode cX5_takePart 234 = .ok (.ifCond .eq 15, 3) := by decide +kernel
theorem dX5_takePart_237 : decode cX5_takePart 237 = .ok (.aload_n 0, 1) := by decide +kernel
theorem dX5_takePart_238 : decode cX5_takePart 238 = .ok (.iconst 4, 1) := by decide +kernel
theorem dX5_takePart_239 : decode cX5_takePart 239 = .ok (.invokevirtual 57, 3) := by decide +kernel
theorem dX5_takePart_242 : decode cX5_takePart 242 = .ok (.ifCond .eq 7, 3) := by decide +kernel
theorem dX5_takePart_245 : decode cX5_takePart 245 = .ok (.iconst 1, 1) := by decide +kernel
theorem dX5_takePart_246 : decode cX5_takePart 246 = .ok (.goto 4, 3) := by decide +kernel
theorem dX5_takePart_249 : decode cX5_takePart 249 = .ok (.iconst 0, 1) := by decide +kernel
theorem dX5_takePart_250 : decode cX5_takePart 250 = .ok (.ireturn, 1) := by decide +kernel
theorem dX5_takePart_251 : decode cX5_takePart 251 = .ok (.aload_n 0, 1) := by decide +kernel
theorem dX5_takePart_252 : decode cX5_takePart 252 = .ok (.aload_n 0, 1) := by decide +kernel
theorem dX5_takePart_253 : decode cX5_takePart 253 = .ok (.getfield 22, 3) := by decide +kernel
theorem dX5_takePart_256 : decode cX5_takePart 256 = .ok (.invokevirtual 45, 3) := by decide +kernel
theorem dX5_takePart_259 : decode cX5_takePart 259 = .ok (.ifCond .eq 16, 3) := by decide +kernel
theorem dX5_takePart_262 : decode cX5_takePart 262 = .ok (.aload_n 0, 1) := by decide +kernel
theorem dX5_takePart_263 : decode cX5_takePart 263 = .ok (.bipush 19, 2) := by decide +kernel
theorem dX5_takePart_265 : decode cX5_takePart 265 = .ok (.invokevirtual 60, 3) := by decide +kernel
theorem dX5_takePart_268 : decode cX5_takePart 268 = .ok (.ifCond .eq 7, 3) := by decide +kernel
theorem dX5_takePart_271 : decode cX5_takePart 271 = .ok (.iconst 1, 1) := by decide +kernel
theorem dX5_takePart_272 : decode cX5_takePart 272 = .ok (.goto 4, 3) := by decide +kernel
theorem dX5_takePart_275 : decode cX5_takePart 275 = .ok (.iconst 0, 1) := by decide +kernel
theorem dX5_takePart_276 : decode cX5_takePart 276 = .ok (.ireturn, 1) := by decide +kernel
theorem dX5_takePart_277 : decode cX5_takePart 277 = .ok (.aload_n 0, 1) := by decide +kernel
theorem dX5_takePart_278 : decode cX5_takePart 278 = .ok (.aload_n 0, 1) := by decide +kernel
theorem dX5_takePart_279 : decode cX5_takePart 279 = .ok (.getfield 22, 3) := by decide +kernel
theorem dX5_takePart_282 : decode cX5_takePart 282 = .ok (.invokevirtual 45, 3) := by decide +kernel
theorem dX5_takePart_285 : decode cX5_takePart 285 = .ok (.ifCond .eq 14, 3) := by decide +kernel
theorem dX5_takePart_288 : decode cX5_takePart 288 = .ok (.aload_n 0, 1) := by decide +kernel
theorem dX5_takePart_289 : decode cX5_takePart 289 = .ok (.invokevirtual 63, 3) := by decide +kernel
theorem dX5_takePart_292 : decode cX5_takePart 292 = .ok (.ifCond .eq 7, 3) := by decide +kernel
theorem dX5_takePart_295 : decode cX5_takePart 295 = .ok (.iconst 1, 1) := by decide +kernel
theorem dX5_takePart_296 : decode cX5_takePart 296 = .ok (.goto 4, 3) := by decide +kernel
theorem dX5_takePart_299 : decode cX5_takePart 299 = .ok (.iconst 0, 1) := by decide +kernel
theorem dX5_takePart_300 : decode cX5_takePart 300 = .ok (.ireturn, 1) := by decide +kernel
theorem dX5_takePart_301 : decode cX5_takePart 301 = .ok (.iconst 0, 1) := by decide +kernel
theorem dX5_takePart_302 : decode cX5_takePart 302 = .ok (.ireturn, 1) := by decide +kernel
theorem dX5_takeSign_0 : decode cX5_takeSign 0 = .ok (.aload_n 0, 1) := by decide +kernel
theorem dX5_takeSign_1 : decode cX5_takeSign 1 = .ok (.getfield 15, 3) := by decide +kernel
theorem dX5_takeSign_4 : decode cX5_takeSign 4 = .ok (.aload_n 0, 1) := by decide +kernel
theorem dX5_takeSign_5 : decode cX5_takeSign 5 = .ok (.getfield 19, 3) := by decide +kernel
theorem dX5_takeSign_8 : decode cX5_takeSign 8 = .ok (.if_icmp .ge 11, 3) := by decide +kernel
theorem dX5_takeSign_11 : decode cX5_takeSign 11 = .ok (.aload_n 0, 1) := by decide +kernel
theorem dX5_takeSign_12 : decode cX5_takeSign 12 = .ok (.invokevirtual 49, 3) := by decide +kernel
theorem dX5_takeSign_15 : decode cX5_takeSign 15 = .ok (.iload_n 1, 1) := by decide +kernel
theorem dX5_takeSign_16 : decode cX5_takeSign 16 = .ok (.if_icmp .eq 5, 3) := by decide +kernel
theorem dX5_takeSign_19 : decode cX5_takeSign 19 = .ok (.iconst 0, 1) := by decide +kernel
theorem dX5_takeSign_20 : decode cX5_takeSign 20 = .ok (.ireturn, 1) := by decide +kernel
theorem dX5_takeSign_21 : decode cX5_takeSign 21 = .ok (.aload_n 0, 1) := by decide +kernel
theorem dX5_takeSign_22 : decode cX5_takeSign 22 = .ok (.dup, 1) := by decide +kernel
theorem dX5_takeSign_23 : decode cX5_takeSign 23 = .ok (.getfield 15, 3) := by decide +kernel
theorem dX5_takeSign_26 : decode cX5_takeSign 26 = .ok (.iconst 1, 1) := by decide +kernel
theorem dX5_takeSign_27 : decode cX5_takeSign 27 = .ok (.iadd, 1) := by decide +kernel
theorem dX5_takeSign_28 : decode cX5_takeSign 28 = .ok (.putfield 15, 3) := by decide +kernel
theorem dX5_takeSign_31 : decode cX5_takeSign 31 = .ok (.iconst 1, 1) := by decide +kernel
theorem dX5_takeSign_32 : decode cX5_takeSign 32 = .ok (.ireturn, 1) := by decide +kernel
theorem dX5_sign_0 : decode cX5_sign 0 = .ok (.aload_n 0, 1) := by decide +kernel
theorem dX5_sign_1 : decode cX5_sign 1 = .ok (.getfield 15, 3) := by decide +kernel
theorem dX5_sign_4 : decode cX5_sign 4 = .ok (.ifCond .lt 35, 3) := by decide +kernel
theorem dX5_sign_7 : decode cX5_sign 7 = .ok (.aload_n 0, 1) := by decide +kernel
theorem dX5_sign_8 : decode cX5_sign 8 = .ok (.getfield 15, 3) := by decide +kernel
theorem dX5_sign_11 : decode cX5_sign 11 = .ok (.aload_n 0, 1) := by decide +kernel
theorem dX5_sign_12 : decode cX5_sign 12 = .ok (.getfield 19, 3) := by decide +kernel
theorem dX5_sign_15 : decode cX5_sign 15 = .ok (.if_icmp .ge 24, 3) := by decide +kernel
theorem dX5_sign_18 : decode cX5_sign 18 = .ok (.aload_n 0, 1) := by decide +kernel
theorem dX5_sign_19 : decode cX5_sign 19 = .ok (.getfield 15, 3) := by decide +kernel
theorem dX5_sign_22 : decode cX5_sign 22 = .ok (.bipush 60, 2) := by decide +kernel
theorem dX5_sign_24 : decode cX5_sign 24 = .ok (.if_icmp .ge 15, 3) := by decide +kernel
theorem dX5_sign_27 : decode cX5_sign 27 = .ok (.aload_n 0, 1) := by decide +kernel
theorem dX5_sign_28 : decode cX5_sign 28 = .ok (.getfield 9, 3) := by decide +kernel
theorem dX5_sign_31 : decode cX5_sign 31 = .ok (.aload_n 0, 1) := by decide +kernel
theorem dX5_sign_32 : decode cX5_sign 32 = .ok (.getfield 15, 3) := by decide +kernel
theorem dX5_sign_35 : decode cX5_sign 35 = .ok (.caload, 1) := by decide +kernel
theorem dX5_sign_36 : decode cX5_sign 36 = .ok (.goto 4, 3) := by decide +kernel
theorem dX5_sign_39 : decode cX5_sign 39 = .ok (.iconst 0, 1) := by decide +kernel
theorem dX5_sign_40 : decode cX5_sign 40 = .ok (.ireturn, 1) := by decide +kernel
theorem dX5_digit_0 : decode cX5_digit 0 = .ok (.aload_n 0, 1) := by decide +kernel
theorem dX5_digit_1 : decode cX5_digit 1 = .ok (.invokevirtual 49, 3) := by decide +kernel
theorem dX5_digit_4 : decode cX5_digit 4 = .ok (.bipush 48, 2) := by decide +kernel
theorem dX5_digit_6 : decode cX5_digit 6 = .ok (.if_icmp .lt 22, 3) := by decide +kernel
theorem dX5_digit_9 : decode cX5_digit 9 = .ok (.aload_n 0, 1) := by decide +kernel
theorem dX5_digit_10 : decode cX5_digit 10 = .ok (.invokevirtual 49, 3) := by decide +kernel
theorem dX5_digit_13 : decode cX5_digit 13 = .ok (.bipush 57, 2) := by decide +kernel
theorem dX5_digit_15 : decode cX5_digit 15 = .ok (.if_icmp .gt 13, 3) := by decide +kernel
theorem dX5_digit_18 : decode cX5_digit 18 = .ok (.aload_n 0, 1) := by decide +kernel
theorem dX5_digit_19 : decode cX5_digit 19 = .ok (.invokevirtual 49, 3) := by decide +kernel
theorem dX5_digit_22 : decode cX5_digit 22 = .ok (.bipush 48, 2) := by decide +kernel
theorem dX5_digit_24 : decode cX5_digit 24 = .ok (.isub, 1) := by decide +kernel
theorem dX5_digit_25 : decode cX5_digit 25 = .ok (.goto 4, 3) := by decide +kernel
theorem dX5_digit_28 : decode cX5_digit 28 = .ok (.iconst (-1), 1) := by decide +kernel
theorem dX5_digit_29 : decode cX5_digit 29 = .ok (.ireturn, 1) := by decide +kernel
theorem dX5_takeFirst_0 : decode cX5_takeFirst 0 = .ok (.aload_n 0, 1) := by decide +kernel
theorem dX5_takeFirst_1 : decode cX5_takeFirst 1 = .ok (.aload_n 0, 1) := by decide +kernel
theorem dX5_takeFirst_2 : decode cX5_takeFirst 2 = .ok (.invokevirtual 66, 3) := by decide +kernel
theorem dX5_takeFirst_5 : decode cX5_takeFirst 5 = .ok (.putfield 26, 3) := by decide +kernel
theorem dX5_takeFirst_8 : decode cX5_takeFirst 8 = .ok (.aload_n 0, 1) := by decide +kernel
theorem dX5_takeFirst_9 : decode cX5_takeFirst 9 = .ok (.aload_n 0, 1) := by decide +kernel
theorem dX5_takeFirst_10 : decode cX5_takeFirst 10 = .ok (.getfield 26, 3) := by decide +kernel
theorem dX5_takeFirst_13 : decode cX5_takeFirst 13 = .ok (.iload_n 1, 1) := by decide +kernel
theorem dX5_takeFirst_14 : decode cX5_takeFirst 14 = .ok (.invokevirtual 70, 3) := by decide +kernel
theorem dX5_takeFirst_17 : decode cX5_takeFirst 17 = .ok (.ireturn, 1) := by decide +kernel
theorem dX5_takeSecond_0 : decode cX5_takeSecond 0 = .ok (.aload_n 0, 1) := by decide +kernel
theorem dX5_takeSecond_1 : decode cX5_takeSecond 1 = .ok (.aload_n 0, 1) := by decide +kernel
theorem dX5_takeSecond_2 : decode cX5_takeSecond 2 = .ok (.invokevirtual 66, 3) := by decide +kernel
theorem dX5_takeSecond_5 : decode cX5_takeSecond 5 = .ok (.putfield 29, 3) := by decide +kernel
theorem dX5_takeSecond_8 : decode cX5_takeSecond 8 = .ok (.aload_n 0, 1) := by decide +kernel
theorem dX5_takeSecond_9 : decode cX5_takeSecond 9 = .ok (.aload_n 0, 1) := by decide +kernel
theorem dX5_takeSecond_10 : decode cX5_takeSecond 10 = .ok (.getfield 29, 3) := by decide +kernel
theorem dX5_takeSecond_13 : decode cX5_takeSecond 13 = .ok (.iload_n 1, 1) := by decide +kernel
theorem dX5_takeSecond_14 : decode cX5_takeSecond 14 = .ok (.invokevirtual 70, 3) := by decide +kernel
theorem dX5_takeSecond_17 : decode cX5_takeSecond 17 = .ok (.ireturn, 1) := by decide +kernel
theorem dX5_takeDigit_0 : decode cX5_takeDigit 0 = .ok (.iload_n 1, 1) := by decide +kernel
theorem dX5_takeDigit_1 : decode cX5_takeDigit 1 = .ok (.iconst 0, 1) := by decide +kernel
theorem dX5_takeDigit_2 : decode cX5_takeDigit 2 = .ok (.iload_n 2, 1) := by decide +kernel
theorem dX5_takeDigit_3 : decode cX5_takeDigit 3 = .ok (.invokestatic 34, 3) := by decide +kernel
theorem dX5_takeDigit_6 : decode cX5_takeDigit 6 = .ok (.ifCond .ne 5, 3) := by decide +kernel
theorem dX5_takeDigit_9 : decode cX5_takeDigit 9 = .ok (.iconst 0, 1) := by decide +kernel
theorem dX5_takeDigit_10 : decode cX5_takeDigit 10 = .ok (.ireturn, 1) := by decide +kernel
theorem dX5_takeDigit_11 : decode cX5_takeDigit 11 = .ok (.aload_n 0, 1) := by decide +kernel
theorem dX5_takeDigit_12 : decode cX5_takeDigit 12 = .ok (.dup, 1) := by decide +kernel
theorem dX5_takeDigit_13 : decode cX5_takeDigit 13 = .ok (.getfield 15, 3) := by decide +kernel
theorem dX5_takeDigit_16 : decode cX5_takeDigit 16 = .ok (.iconst 1, 1) := by decide +kernel
theorem dX5_takeDigit_17 : decode cX5_takeDigit 17 = .ok (.iadd, 1) := by decide +kernel
theorem dX5_takeDigit_18 : decode cX5_takeDigit 18 = .ok (.putfield 15, 3) := by decide +kernel
theorem dX5_takeDigit_21 : decode cX5_takeDigit 21 = .ok (.iconst 1, 1) := by decide +kernel
theorem dX5_takeDigit_22 : decode cX5_takeDigit 22 = .ok (.ireturn, 1) := by decide +kernel
theorem dX5_takeNumber_0 : decode cX5_takeNumber 0 = .ok (.aload_n 0, 1) := by decide +kernel
theorem dX5_takeNumber_1 : decode cX5_takeNumber 1 = .ok (.bipush 9, 2) := by decide +kernel
theorem dX5_takeNumber_3 : decode cX5_takeNumber 3 = .ok (.invokevirtual 53, 3) := by decide +kernel
theorem dX5_takeNumber_6 : decode cX5_takeNumber 6 = .ok (.ifCond .ne 5, 3) := by decide +kernel
theorem dX5_takeNumber_9 : decode cX5_takeNumber 9 = .ok (.iconst 0, 1) := by decide +kernel
theorem dX5_takeNumber_10 : decode cX5_takeNumber 10 = .ok (.ireturn, 1) := by decide +kernel
theorem dX5_takeNumber_11 : decode cX5_takeNumber 11 = .ok (.aload_n 0, 1) := by decide +kernel
theorem dX5_takeNumber_12 : decode cX5_takeNumber 12 = .ok (.invokevirtual 66, 3) := by decide +kernel
theorem dX5_takeNumber_15 : decode cX5_takeNumber 15 = .ok (.istore_n 2, 1) := by decide +kernel
theorem dX5_takeNumber_16 : decode cX5_takeNumber 16 = .ok (.aload_n 0, 1) := by decide +kernel
theorem dX5_takeNumber_17 : decode cX5_takeNumber 17 = .ok (.getfield 26, 3) := by decide +kernel
theorem dX5_takeNumber_20 : decode cX5_takeNumber 20 = .ok (.ifCond .le 44, 3) := by decide +kernel
theorem dX5_takeNumber_23 : decode cX5_takeNumber 23 = .ok (.iload_n 2, 1) := by decide +kernel
theorem dX5_takeNumber_24 : decode cX5_takeNumber 24 = .ok (.iconst (-1), 1) := by decide +kernel
theorem dX5_takeNumber_25 : decode cX5_takeNumber 25 = .ok (.if_icmp .eq 39, 3) := by decide +kernel
theorem dX5_takeNumber_28 : decode cX5_takeNumber 28 = .ok (.bipush 10, 2) := by decide +kernel
theorem dX5_takeNumber_30 : decode cX5_takeNumber 30 = .ok (.aload_n 0, 1) := by decide +kernel
theorem dX5_takeNumber_31 : decode cX5_takeNumber 31 = .ok (.getfield 26, 3) := by decide +kernel
theorem dX5_takeNumber_34 : decode cX5_takeNumber 34 = .ok (.imul, 1) := by decide +kernel
theorem dX5_takeNumber_35 : decode cX5_takeNumber 35 = .ok (.iload_n 2, 1) := by decide +kernel
theorem dX5_takeNumber_36 : decode cX5_takeNumber 36 = .ok (.iadd, 1) := by decide +kernel
theorem dX5_takeNumber_37 : decode cX5_takeNumber 37 = .ok (.iload_n 1, 1) := by decide +kernel
theorem dX5_takeNumber_38 : decode cX5_takeNumber 38 = .ok (.if_icmp .gt 26, 3) := by decide +kernel
theorem dX5_takeNumber_41 : decode cX5_takeNumber 41 = .ok (.aload_n 0, 1) := by decide +kernel
theorem dX5_takeNumber_42 : decode cX5_takeNumber 42 = .ok (.bipush 10, 2) := by decide +kernel
theorem dX5_takeNumber_44 : decode cX5_takeNumber 44 = .ok (.aload_n 0, 1) := by decide +kernel
theorem dX5_takeNumber_45 : decode cX5_takeNumber 45 = .ok (.getfield 26, 3) := by decide +kernel
theorem dX5_takeNumber_48 : decode cX5_takeNumber 48 = .ok (.imul, 1) := by decide +kernel
theorem dX5_takeNumber_49 : decode cX5_takeNumber 49 = .ok (.iload_n 2, 1) := by decide +kernel
theorem dX5_takeNumber_50 : decode cX5_takeNumber 50 = .ok (.iadd, 1) := by decide +kernel
theorem dX5_takeNumber_51 : decode cX5_takeNumber 51 = .ok (.putfield 26, 3) := by decide +kernel
theorem dX5_takeNumber_54 : decode cX5_takeNumber 54 = .ok (.aload_n 0, 1) := by decide +kernel
theorem dX5_takeNumber_55 : decode cX5_takeNumber 55 = .ok (.dup, 1) := by decide +kernel
theorem dX5_takeNumber_56 : decode cX5_takeNumber 56 = .ok (.getfield 15, 3) := by decide +kernel
theorem dX5_takeNumber_59 : decode cX5_takeNumber 59 = .ok (.iconst 1, 1) := by decide +kernel
theorem dX5_takeNumber_60 : decode cX5_takeNumber 60 = .ok (.iadd, 1) := by decide +kernel
theorem dX5_takeNumber_61 : decode cX5_takeNumber 61 = .ok (.putfield 15, 3) := by decide +kernel
theorem dX5_takeNumber_64 : decode cX5_takeNumber 64 = .ok (.iconst 1, 1) := by decide +kernel
theorem dX5_takeNumber_65 : decode cX5_takeNumber 65 = .ok (.ireturn, 1) := by decide +kernel
theorem dX5_takeTicks_0 : decode cX5_takeTicks 0 = .ok (.aload_n 0, 1) := by decide +kernel
theorem dX5_takeTicks_1 : decode cX5_takeTicks 1 = .ok (.invokevirtual 66, 3) := by decide +kernel
theorem dX5_takeTicks_4 : decode cX5_takeTicks 4 = .ok (.istore_n 1, 1) := by decide +kernel
theorem dX5_takeTicks_5 : decode cX5_takeTicks 5 = .ok (.aload_n 0, 1) := by decide +kernel
theorem dX5_takeTicks_6 : decode cX5_takeTicks 6 = .ok (.iconst 1, 1) := by decide +kernel
theorem dX5_takeTicks_7 : decode cX5_takeTicks 7 = .ok (.putfield 26, 3) := by decide +kernel
theorem dX5_takeTicks_10 : decode cX5_takeTicks 10 = .ok (.iload_n 1, 1) := by decide +kernel
theorem dX5_takeTicks_11 : decode cX5_takeTicks 11 = .ok (.ifCond .le 21, 3) := by decide +kernel
theorem dX5_takeTicks_14 : decode cX5_takeTicks 14 = .ok (.aload_n 0, 1) := by decide +kernel
theorem dX5_takeTicks_15 : decode cX5_takeTicks 15 = .ok (.bipush 10, 2) := by decide +kernel
theorem dX5_takeTicks_17 : decode cX5_takeTicks 17 = .ok (.iload_n 1, 1) := by decide +kernel
theorem dX5_takeTicks_18 : decode cX5_takeTicks 18 = .ok (.imul, 1) := by decide +kernel
theorem dX5_takeTicks_19 : decode cX5_takeTicks 19 = .ok (.putfield 26, 3) := by decide +kernel
theorem dX5_takeTicks_22 : decode cX5_takeTicks 22 = .ok (.aload_n 0, 1) := by decide +kernel
theorem dX5_takeTicks_23 : decode cX5_takeTicks 23 = .ok (.dup, 1) := by decide +kernel
theorem dX5_takeTicks_24 : decode cX5_takeTicks 24 = .ok (.getfield 15, 3) := by decide +kernel
theorem dX5_takeTicks_27 : decode cX5_takeTicks 27 = .ok (.iconst 1, 1) := by decide +kernel
theorem dX5_takeTicks_28 : decode cX5_takeTicks 28 = .ok (.iadd, 1) := by decide +kernel
theorem dX5_takeTicks_29 : decode cX5_takeTicks 29 = .ok (.putfield 15, 3) := by decide +kernel
theorem dX5_takeTicks_32 : decode cX5_takeTicks 32 = .ok (.iconst 1, 1) := by decide +kernel
theorem dX5_takeTicks_33 : decode cX5_takeTicks 33 = .ok (.ireturn, 1) := by decide +kernel
theorem dX6_init_0 : decode cX6_init 0 = .ok (.aload_n 0, 1) := by decide +kernel
theorem dX6_init_1 : decode cX6_init 1 = .ok (.invokespecial 3, 3) := by decide +kernel
theorem dX6_init_4 : decode cX6_init 4 = .ok (.aload_n 0, 1) := by decide +kernel
theorem dX6_init_5 : decode cX6_init 5 = .ok (.bipush 8, 2) := by decide +kernel
theorem dX6_init_7 : decode cX6_init 7 = .ok (.anewarray 9, 3) := by decide +kernel
theorem dX6_init_10 : decode cX6_init 10 = .ok (.putfield 11, 3) := by decide +kernel
theorem dX6_init_13 : decode cX6_init 13 = .ok (.aload_n 0, 1) := by decide +kernel
theorem dX6_init_14 : decode cX6_init 14 = .ok (.iconst 3, 1) := by decide +kernel
theorem dX6_init_15 : decode cX6_init 15 = .ok (.anewarray 17, 3) := by decide +kernel
theorem dX6_init_18 : decode cX6_init 18 = .ok (.putfield 19, 3) := by decide +kernel
theorem dX6_init_21 : decode cX6_init 21 = .ok (.aload_n 0, 1) := by decide +kernel
theorem dX6_init_22 : decode cX6_init 22 = .ok (.bipush 20, 2) := by decide +kernel
theorem dX6_init_24 : decode cX6_init 24 = .ok (.anewarray 23, 3) := by decide +kernel
theorem dX6_init_27 : decode cX6_init 27 = .ok (.putfield 25, 3) := by decide +kernel
theorem dX6_init_30 : decode cX6_init 30 = .ok (.aload_n 0, 1) := by decide +kernel
theorem dX6_init_31 : decode cX6_init 31 = .ok (.bipush 24, 2) := by decide +kernel
theorem dX6_init_33 : decode cX6_init 33 = .ok (.newarray .int, 2) := by decide +kernel
theorem dX6_init_35 : decode cX6_init 35 = .ok (.putfield 29, 3) := by decide +kernel
theorem dX6_init_38 : decode cX6_init 38 = .ok (.aload_n 0, 1) := by decide +kernel
theorem dX6_init_39 : decode cX6_init 39 = .ok (.new 33, 3) := by decide +kernel
theorem dX6_init_42 : decode cX6_init 42 = .ok (.dup, 1) := by decide +kernel
theorem dX6_init_43 : decode cX6_init 43 = .ok (.invokespecial 35, 3) := by decide +kernel
theorem dX6_init_46 : decode cX6_init 46 = .ok (.putfield 36, 3) := by decide +kernel
theorem dX6_init_49 : decode cX6_init 49 = .ok (.aload_n 0, 1) := by decide +kernel
theorem dX6_init_50 : decode cX6_init 50 = .ok (.iconst 0, 1) := by decide +kernel
theorem dX6_init_51 : decode cX6_init 51 = .ok (.putfield 40, 3) := by decide +kernel
theorem dX6_init_54 : decode cX6_init 54 = .ok (.aload_n 0, 1) := by decide +kernel
theorem dX6_init_55 : decode cX6_init 55 = .ok (.iconst 3, 1) := by decide +kernel
theorem dX6_init_56 : decode cX6_init 56 = .ok (.putfield 44, 3) := by decide +kernel
theorem dX6_init_59 : decode cX6_init 59 = .ok (.aload_n 0, 1) := by decide +kernel
theorem dX6_init_60 : decode cX6_init 60 = .ok (.iconst 3, 1) := by decide +kernel
theorem dX6_init_61 : decode cX6_init 61 = .ok (.putfield 47, 3) := by decide +kernel
theorem dX6_init_64 : decode cX6_init 64 = .ok (.aload_n 0, 1) := by decide +kernel
theorem dX6_init_65 : decode cX6_init 65 = .ok (.iconst 0, 1) := by decide +kernel
theorem dX6_init_66 : decode cX6_init 66 = .ok (.putfield 50, 3) := by decide +kernel
theorem dX6_init_69 : decode cX6_init 69 = .ok (.aload_n 0, 1) := by decide +kernel
theorem dX6_init_70 : decode cX6_init 70 = .ok (.iconst 0, 1) := by decide +kernel
theorem dX6_init_71 : decode cX6_init 71 = .ok (.putfield 53, 3) := by decide +kernel
theorem dX6_init_74 : decode cX6_init 74 = .ok (.iconst 0, 1) := by decide +kernel
theorem dX6_init_75 : decode cX6_init 75 = .ok (.istore_n 1, 1) := by decide +kernel
theorem dX6_init_76 : decode cX6_init 76 = .ok (.iload_n 1, 1) := by decide +kernel
theorem dX6_init_77 : decode cX6_init 77 = .ok (.bipush 8, 2) := by decide +kernel
theorem dX6_init_79 : decode cX6_init 79 = .ok (.if_icmp .ge 25, 3) := by decide +kernel
theorem dX6_init_82 : decode cX6_init 82 = .ok (.aload_n 0, 1) := by decide +kernel
theorem dX6_init_83 : decode cX6_init 83 = .ok (.getfield 11, 3) := by decide +kernel
theorem dX6_init_86 : decode cX6_init 86 = .ok (.iload_n 1, 1) := by decide +kernel
theorem dX6_init_87 : decode cX6_init 87 = .ok (.new 9, 3) := by decide +kernel
theorem dX6_init_90 : decode cX6_init 90 = .ok (.dup, 1) := by decide +kernel
theorem dX6_init_91 : decode cX6_init 91 = .ok (.iload_n 1, 1) := by decide +kernel
theorem dX6_init_92 : decode cX6_init 92 = .ok (.iconst 4, 1) := by decide +kernel
theorem dX6_init_93 : decode cX6_init 93 = .ok (.irem, 1) := by decide +kernel
theorem dX6_init_94 : decode cX6_init 94 = .ok (.invokespecial 56, 3) := by decide +kernel
theorem dX6_init_97 : decode cX6_init 97 = .ok (.aastore, 1) := by decide +kernel
theorem dX6_init_98 : decode cX6_init 98 = .ok (.iinc 1 1, 3) := by decide +kernel
theorem dX6_init_101 : decode cX6_init 101 = .ok (.goto (-25), 3) := by decide +kernel
theorem dX6_init_104 : decode cX6_init 104 = .ok (.iconst 0, 1) := by decide +kernel
theorem dX6_init_105 : decode cX6_init 105 = .ok (.istore_n 1, 1) := by decide +kernel
theorem dX6_init_106 : decode cX6_init 106 = .ok (.iload_n 1, 1) := by decide +kernel
theorem dX6_init_107 : decode cX6_init 107 = .ok (.iconst 3, 1) := by decide +kernel
theorem dX6_init_108 : decode cX6_init 108 = .ok (.if_icmp .ge 22, 3) := by decide +kernel
theorem dX6_init_111 : decode cX6_init 111 = .ok (.aload_n 0, 1) := by decide +kernel
theorem dX6_init_112 : decode cX6_init 112 = .ok (.getfield 19, 3) := by decide +kernel
theorem dX6_init_115 : decode cX6_init 115 = .ok (.iload_n 1, 1) := by decide +kernel
theorem dX6_init_116 : decode cX6_init 116 = .ok (.new 17, 3) := by decide +kernel
theorem dX6_init_119 : decode cX6_init 119 = .ok (.dup, 1) := by decide +kernel
theorem dX6_init_120 : decode cX6_init 120 = .ok (.invokespecial 59, 3) := by decide +kernel
theorem dX6_init_123 : decode cX6_init 123 = .ok (.aastore, 1) := by decide +kernel
theorem dX6_init_124 : decode cX6_init 124 = .ok (.iinc 1 1, 3) := by decide +kernel
theorem dX6_init_127 : decode cX6_init 127 = .ok (.goto (-21), 3) := by decide +kernel
theorem dX6_init_130 : decode cX6_init 130 = .ok (.iconst 0, 1) := by decide +kernel
theorem dX6_init_131 : decode cX6_init 131 = .ok (.istore_n 1, 1) := by decide +kernel
theorem dX6_init_132 : decode cX6_init 132 = .ok (.iload_n 1, 1) := by decide +kernel
theorem dX6_init_133 : decode cX6_init 133 = .ok (.bipush 20, 2) := by decide +kernel
theorem dX6_init_135 : decode cX6_init 135 = .ok (.if_icmp .ge 22, 3) := by decide +kernel
theorem dX6_init_138 : decode cX6_init 138 = .ok (.aload_n 0, 1) := by decide +kernel
theorem dX6_init_139 : decode cX6_init 139 = .ok (.getfield 25, 3) := by decide +kernel
theorem dX6_init_142 : decode cX6_init 142 = .ok (.iload_n 1, 1) := by decide +kernel
theorem dX6_init_143 : decode cX6_init 143 = .ok (.new 23, 3) := by decide +kernel
theorem dX6_init_146 : decode cX6_init 146 = .ok (.dup, 1) := by decide +kernel
theorem dX6_init_147 : decode cX6_init 147 = .ok (.invokespecial 60, 3) := by decide +kernel
theorem dX6_init_150 : decode cX6_init 150 = .ok (.aastore, 1) := by decide +kernel
theorem dX6_init_151 : decode cX6_init 151 = .ok (.iinc 1 1, 3) := by decide +kernel
theorem dX6_init_154 : decode cX6_init 154 = .ok (.goto (-22), 3) := by decide +kernel
theorem dX6_init_157 : decode cX6_init 157 = .ok (.return_, 1) := by decide +kernel
theorem dX6_copyFrom_0 : decode cX6_copyFrom 0 = .ok (.iconst 0, 1) := by decide +kernel
theorem dX6_copyFrom_1 : decode cX6_copyFrom 1 = .ok (.istore_n 2, 1) := by decide +kernel
theorem dX6_copyFrom_2 : decode cX6_copyFrom 2 = .ok (.iload_n 2, 1) := by decide +kernel
theorem dX6_copyFrom_3 : decode cX6_copyFrom 3 = .ok (.bipush 8, 2) := by decide +kernel
theorem dX6_copyFrom_5 : decode cX6_copyFrom 5 = .ok (.if_icmp .ge 24, 3) := by decide +kernel
theorem dX6_copyFrom_8 : decode cX6_copyFrom 8 = .ok (.aload_n 0, 1) := by decide +kernel
theorem dX6_copyFrom_9 : decode cX6_copyFrom 9 = .ok (.getfield 11, 3) := by decide +kernel
theorem dX6_copyFrom_12 : decode cX6_copyFrom 12 = .ok (.iload_n 2, 1) := by decide +kernel
theorem dX6_copyFrom_13 : decode cX6_copyFrom 13 = .ok (.aaload, 1) := by decide +kernel
theorem dX6_copyFrom_14 : decode cX6_copyFrom 14 = .ok (.aload_n 1, 1) := by decide +kernel
theorem dX6_copyFrom_15 : decode cX6_copyFrom 15 = .ok (.getfield 11, 3) := by decide +kernel
theorem dX6_copyFrom_18 : decode cX6_copyFrom 18 = .ok (.iload_n 2, 1) := by decide +kernel
theorem dX6_copyFrom_19 : decode cX6_copyFrom 19 = .ok (.aaload, 1) := by decide +kernel
theorem dX6_copyFrom_20 : decode cX6_copyFrom 20 = .ok (.invokevirtual 61, 3) := by decide +kernel
theorem dX6_copyFrom_23 : decode cX6_copyFrom 23 = .ok (.iinc 2 1, 3) := by decide +kernel
theorem dX6_copyFrom_26 : decode cX6_copyFrom 26 = .ok (.goto (-24), 3) := by decide +kernel
theorem dX6_copyFrom_29 : decode cX6_copyFrom 29 = .ok (.iconst 0, 1) := by decide +kernel
theorem dX6_copyFrom_30 : decode cX6_copyFrom 30 = .ok (.istore_n 2, 1) := by decide +kernel
theorem dX6_copyFrom_31 : decode cX6_copyFrom 31 = .ok (.iload_n 2, 1) := by decide +kernel
theorem dX6_copyFrom_32 : decode cX6_copyFrom 32 = .ok (.iconst 3, 1) := by decide +kernel
theorem dX6_copyFrom_33 : decode cX6_copyFrom 33 = .ok (.if_icmp .ge 24, 3) := by decide +kernel
theorem dX6_copyFrom_36 : decode cX6_copyFrom 36 = .ok (.aload_n 0, 1) := by decide +kernel
theorem dX6_copyFrom_37 : decode cX6_copyFrom 37 = .ok (.getfield 19, 3) := by decide +kernel
theorem dX6_copyFrom_40 : decode cX6_copyFrom 40 = .ok (.iload_n 2, 1) := by decide +kernel
theorem dX6_copyFrom_41 : decode cX6_copyFrom 41 = .ok (.aaload, 1) := by decide +kernel
theorem dX6_copyFrom_42 : decode cX6_copyFrom 42 = .ok (.aload_n 1, 1) := by decide +kernel
theorem dX6_copyFrom_43 : decode cX6_copyFrom 43 = .ok (.getfield 19, 3) := by decide +kernel
theorem dX6_copyFrom_46 : decode cX6_copyFrom 46 = .ok (.iload_n 2, 1) := by decide +kernel
theorem dX6_copyFrom_47 : decode cX6_copyFrom 47 = .ok (.aaload, 1) := by decide +kernel
theorem dX6_copyFrom_48 : decode cX6_copyFrom 48 = .ok (.invokevirtual 65, 3) := by decide +kernel
theorem dX6_copyFrom_51 : decode cX6_copyFrom 51 = .ok (.iinc 2 1, 3) := by decide +kernel
theorem dX6_copyFrom_54 : decode cX6_copyFrom 54 = .ok (.goto (-23), 3) := by decide +kernel
theorem dX6_copyFrom_57 : decode cX6_copyFrom 57 = .ok (.iconst 0, 1) := by decide +kernel
theorem dX6_copyFrom_58 : decode cX6_copyFrom 58 = .ok (.istore_n 2, 1) := by decide +kernel
theorem dX6_copyFrom_59 : decode cX6_copyFrom 59 = .ok (.iload_n 2, 1) := by decide +kernel
theorem dX6_copyFrom_60 : decode cX6_copyFrom 60 = .ok (.bipush 20, 2) := by decide +kernel
theorem dX6_copyFrom_62 : decode cX6_copyFrom 62 = .ok (.if_icmp .ge 24, 3) := by decide +kernel
theorem dX6_copyFrom_65 : decode cX6_copyFrom 65 = .ok (.aload_n 0, 1) := by decide +kernel
theorem dX6_copyFrom_66 : decode cX6_copyFrom 66 = .ok (.getfield 25, 3) := by decide +kernel
theorem dX6_copyFrom_69 : decode cX6_copyFrom 69 = .ok (.iload_n 2, 1) := by decide +kernel
theorem dX6_copyFrom_70 : decode cX6_copyFrom 70 = .ok (.aaload, 1) := by decide +kernel
theorem dX6_copyFrom_71 : decode cX6_copyFrom 71 = .ok (.aload_n 1, 1) := by decide +kernel
theorem dX6_copyFrom_72 : decode cX6_copyFrom 72 = .ok (.getfield 25, 3) := by decide +kernel
theorem dX6_copyFrom_75 : decode cX6_copyFrom 75 = .ok (.iload_n 2, 1) := by decide +kernel
theorem dX6_copyFrom_76 : decode cX6_copyFrom 76 = .ok (.aaload, 1) := by decide +kernel
theorem dX6_copyFrom_77 : decode cX6_copyFrom 77 = .ok (.invokevirtual 68, 3) := by decide +kernel
theorem dX6_copyFrom_80 : decode cX6_copyFrom 80 = .ok (.iinc 2 1, 3) := by decide +kernel
theorem dX6_copyFrom_83 : decode cX6_copyFrom 83 = .ok (.goto (-24), 3) := by decide +kernel
theorem dX6_copyFrom_86 : decode cX6_copyFrom 86 = .ok (.aload_n 1, 1) := by decide +kernel
theorem dX6_copyFrom_87 : decode cX6_copyFrom 87 = .ok (.getfield 29, 3) := by decide +kernel
theorem dX6_copyFrom_90 : decode cX6_copyFrom 90 = .ok (.iconst 0, 1) := by decide +kernel
theorem dX6_copyFrom_91 : decode cX6_copyFrom 91 = .ok (.aload_n 0, 1) := by decide +kernel
theorem dX6_copyFrom_92 : decode cX6_copyFrom 92 = .ok (.getfield 29, 3) := by decide +kernel
theorem dX6_copyFrom_95 : decode cX6_copyFrom 95 = .ok (.iconst 0, 1) := by decide +kernel
theorem dX6_copyFrom_96 : decode cX6_copyFrom 96 = .ok (.bipush 24, 2) := by decide +kernel
theorem dX6_copyFrom_98 : decode cX6_copyFrom 98 = .ok (.invokestatic 71, 3) := by decide +kernel
theorem dX6_copyFrom_101 : decode cX6_copyFrom 101 = .ok (.aload_n 0, 1) := by decide +kernel
theorem dX6_copyFrom_102 : decode cX6_copyFrom 102 = .ok (.getfield 36, 3) := by decide +kernel
theorem dX6_copyFrom_105 : decode cX6_copyFrom 105 = .ok (.aload_n 1, 1) := by decide +kernel
theorem dX6_copyFrom_106 : decode cX6_copyFrom 106 = .ok (.getfield 36, 3) := by decide +kernel
theorem dX6_copyFrom_109 : decode cX6_copyFrom 109 = .ok (.invokevirtual 77, 3) := by decide +kernel
theorem dX6_copyFrom_112 : decode cX6_copyFrom 112 = .ok (.aload_n 0, 1) := by decide +kernel
theorem dX6_copyFrom_113 : decode cX6_copyFrom 113 = .ok (.aload_n 1, 1) := by decide +kernel
theorem dX6_copyFrom_114 : decode cX6_copyFrom 114 = .ok (.getfield 40, 3) := by decide +kernel
theorem dX6_copyFrom_117 : decode cX6_copyFrom 117 = .ok (.putfield 40, 3) := by decide +kernel
theorem dX6_copyFrom_120 : decode cX6_copyFrom 120 = .ok (.aload_n 0, 1) := by decide +kernel
theorem dX6_copyFrom_121 : decode cX6_copyFrom 121 = .ok (.aload_n 1, 1) := by decide +kernel
theorem dX6_copyFrom_122 : decode cX6_copyFrom 122 = .ok (.getfield 44, 3) := by decide +kernel
theorem dX6_copyFrom_125 : decode cX6_copyFrom 125 = .ok (.putfield 44, 3) := by decide +kernel
theorem dX6_copyFrom_128 : decode cX6_copyFrom 128 = .ok (.aload_n 0, 1) := by decide +kernel
theorem dX6_copyFrom_129 : decode cX6_copyFrom 129 = .ok (.aload_n 1, 1) := by decide +kernel
theorem dX6_copyFrom_130 : decode cX6_copyFrom 130 = .ok (.getfield 47, 3) := by decide +kernel
theorem dX6_copyFrom_133 : decode cX6_copyFrom 133 = .ok (.putfield 47, 3) := by decide +kernel
theorem dX6_copyFrom_136 : decode cX6_copyFrom 136 = .ok (.aload_n 0, 1) := by decide +kernel
theorem dX6_copyFrom_137 : decode cX6_copyFrom 137 = .ok (.aload_n 1, 1) := by decide +kernel
theorem dX6_copyFrom_138 : decode cX6_copyFrom 138 = .ok (.getfield 50, 3) := by decide +kernel
theorem dX6_copyFrom_141 : decode cX6_copyFrom 141 = .ok (.putfield 50, 3) := by decide +kernel
theorem dX6_copyFrom_144 : decode cX6_copyFrom 144 = .ok (.aload_n 0, 1) := by decide +kernel
theorem dX6_copyFrom_145 : decode cX6_copyFrom 145 = .ok (.aload_n 1, 1) := by decide +kernel
theorem dX6_copyFrom_146 : decode cX6_copyFrom 146 = .ok (.getfield 53, 3) := by decide +kernel
theorem dX6_copyFrom_149 : decode cX6_copyFrom 149 = .ok (.putfield 53, 3) := by decide +kernel
theorem dX6_copyFrom_152 : decode cX6_copyFrom 152 = .ok (.return_, 1) := by decide +kernel
theorem dX6_greyInHour_0 : decode cX6_greyInHour 0 = .ok (.iload_n 1, 1) := by decide +kernel
theorem dX6_greyInHour_1 : decode cX6_greyInHour 1 = .ok (.ifCond .lt 18, 3) := by decide +kernel
theorem dX6_greyInHour_4 : decode cX6_greyInHour 4 = .ok (.iload_n 1, 1) := by decide +kernel
theorem dX6_greyInHour_5 : decode cX6_greyInHour 5 = .ok (.bipush 24, 2) := by decide +kernel
theorem dX6_greyInHour_7 : decode cX6_greyInHour 7 = .ok (.if_icmp .ge 12, 3) := by decide +kernel
theorem dX6_greyInHour_10 : decode cX6_greyInHour 10 = .ok (.aload_n 0, 1) := by decide +kernel
theorem dX6_greyInHour_11 : decode cX6_greyInHour 11 = .ok (.getfield 29, 3) := by decide +kernel
theorem dX6_greyInHour_14 : decode cX6_greyInHour 14 = .ok (.iload_n 1, 1) := by decide +kernel
theorem dX6_greyInHour_15 : decode cX6_greyInHour 15 = .ok (.iaload, 1) := by decide +kernel
theorem dX6_greyInHour_16 : decode cX6_greyInHour 16 = .ok (.goto 4, 3) := by decide +kernel
theorem dX6_greyInHour_19 : decode cX6_greyInHour 19 = .ok (.iconst 0, 1) := by decide +kernel
theorem dX6_greyInHour_20 : decode cX6_greyInHour 20 = .ok (.ireturn, 1) := by decide +kernel
theorem dX6_greyAtTick_0 : decode cX6_greyAtTick 0 = .ok (.aload_n 0, 1) := by decide +kernel
theorem dX6_greyAtTick_1 : decode cX6_greyAtTick 1 = .ok (.iload_n 1, 1) := by decide +kernel
theorem dX6_greyAtTick_2 : decode cX6_greyAtTick 2 = .ok (.iconst 4, 1) := by decide +kernel
theorem dX6_greyAtTick_3 : decode cX6_greyAtTick 3 = .ok (.idiv, 1) := by decide +kernel
theorem dX6_greyAtTick_4 : decode cX6_greyAtTick 4 = .ok (.invokevirtual 80, 3) := by decide +kernel
theorem dX6_greyAtTick_7 : decode cX6_greyAtTick 7 = .ok (.ireturn, 1) := by decide +kernel
theorem dX6_changeGrey_0 : decode cX6_changeGrey 0 = .ok (.iload_n 1, 1) := by decide +kernel
theorem dX6_changeGrey_1 : decode cX6_changeGrey 1 = .ok (.ifCond .lt 16, 3) := by decide +kernel
theorem dX6_changeGrey_4 : decode cX6_changeGrey 4 = .ok (.iload_n 1, 1) := by decide +kernel
theorem dX6_changeGrey_5 : decode cX6_changeGrey 5 = .ok (.bipush 24, 2) := by decide +kernel
theorem dX6_changeGrey_7 : decode cX6_changeGrey 7 = .ok (.if_icmp .ge 10, 3) := by decide +kernel
theorem dX6_changeGrey_10 : decode cX6_changeGrey 10 = .ok (.aload_n 0, 1) := by decide +kernel
theorem dX6_changeGrey_11 : decode cX6_changeGrey 11 = .ok (.getfield 29, 3) := by decide +kernel
theorem dX6_changeGrey_14 : decode cX6_changeGrey 14 = .ok (.iload_n 1, 1) := by decide +kernel
theorem dX6_changeGrey_15 : decode cX6_changeGrey 15 = .ok (.iload_n 2, 1) := by decide +kernel
theorem dX6_changeGrey_16 : decode cX6_changeGrey 16 = .ok (.iastore, 1) := by decide +kernel
theorem dX6_changeGrey_17 : decode cX6_changeGrey 17 = .ok (.return_, 1) := by decide +kernel
theorem dX6_passTicks_0 : decode cX6_passTicks 0 = .ok (.aload_n 0, 1) := by decide +kernel
theorem dX6_passTicks_1 : decode cX6_passTicks 1 = .ok (.getfield 40, 3) := by decide +kernel
theorem dX6_passTicks_4 : decode cX6_passTicks 4 = .ok (.istore_n 2, 1) := by decide +kernel
theorem dX6_passTicks_5 : decode cX6_passTicks 5 = .ok (.iconst 0, 1) := by decide +kernel
theorem dX6_passTicks_6 : decode cX6_passTicks 6 = .ok (.istore_n 3, 1) := by decide +kernel
theorem dX6_passTicks_7 : decode cX6_passTicks 7 = .ok (.iload_n 3, 1) := by decide +kernel
theorem dX6_passTicks_8 : decode cX6_passTicks 8 = .ok (.iload_n 1, 1) := by decide +kernel
theorem dX6_passTicks_9 : decode cX6_passTicks 9 = .ok (.if_icmp .ge 13, 3) := by decide +kernel
theorem dX6_passTicks_12 : decode cX6_passTicks 12 = .ok (.aload_n 0, 1) := by decide +kernel
theorem dX6_passTicks_13 : decode cX6_passTicks 13 = .ok (.invokevirtual 84, 3) := by decide +kernel
theorem dX6_passTicks_16 : decode cX6_passTicks 16 = .ok (.iinc 3 1, 3) := by decide +kernel
theorem dX6_passTicks_19 : decode cX6_passTicks 19 = .ok (.goto (-12), 3) := by decide +kernel
theorem dX6_passTicks_22 : decode cX6_passTicks 22 = .ok (.aload_n 0, 1) := by decide +kernel
theorem dX6_passTicks_23 : decode cX6_passTicks 23 = .ok (.getfield 40, 3) := by decide +kernel
theorem dX6_passTicks_26 : decode cX6_passTicks 26 = .ok (.iload_n 2, 1) := by decide +kernel
theorem dX6_passTicks_27 : decode cX6_passTicks 27 = .ok (.isub, 1) := by decide +kernel
theorem dX6_passTicks_28 : decode cX6_passTicks 28 = .ok (.ireturn, 1) := by decide +kernel
theorem dX6_getsNoticeIn_0 : decode cX6_getsNoticeIn 0 = .ok (.aload_n 0, 1) := by decide +kernel
theorem dX6_getsNoticeIn_1 : decode cX6_getsNoticeIn 1 = .ok (.getfield 40, 3) := by decide +kernel
theorem dX6_getsNoticeIn_4 : decode cX6_getsNoticeIn 4 = .ok (.istore_n 2, 1) := by decide +kernel
theorem dX6_getsNoticeIn_5 : decode cX6_getsNoticeIn 5 = .ok (.iconst 0, 1) := by decide +kernel
theorem dX6_getsNoticeIn_6 : decode cX6_getsNoticeIn 6 = .ok (.istore_n 3, 1) := by decide +kernel
theorem dX6_getsNoticeIn_7 : decode cX6_getsNoticeIn 7 = .ok (.iload_n 3, 1) := by decide +kernel
theorem dX6_getsNoticeIn_8 : decode cX6_getsNoticeIn 8 = .ok (.iload_n 1, 1) := by decide +kernel
theorem dX6_getsNoticeIn_9 : decode cX6_getsNoticeIn 9 = .ok (.if_icmp .ge 21, 3) := by decide +kernel
theorem dX6_getsNoticeIn_12 : decode cX6_getsNoticeIn 12 = .ok (.aload_n 0, 1) := by decide +kernel
theorem dX6_getsNoticeIn_13 : decode cX6_getsNoticeIn 13 = .ok (.getfield 40, 3) := by decide +kernel
theorem dX6_getsNoticeIn_16 : decode cX6_getsNoticeIn 16 = .ok (.iload_n 2, 1) := by decide +kernel
theorem dX6_getsNoticeIn_17 : decode cX6_getsNoticeIn 17 = .ok (.if_icmp .ne 13, 3) := by decide +kernel
theorem dX6_getsNoticeIn_20 : decode cX6_getsNoticeIn 20 = .ok (.aload_n 0, 1) := by decide +kernel
theorem dX6_getsNoticeIn_21 : decode cX6_getsNoticeIn 21 = .ok (.invokevirtual 84, 3) := by decide +kernel
theorem dX6_getsNoticeIn_24 : decode cX6_getsNoticeIn 24 = .ok (.iinc 3 1, 3) := by decide +kernel
theorem dX6_getsNoticeIn_27 : decode cX6_getsNoticeIn 27 = .ok (.goto (-20), 3) := by decide +kernel
theorem dX6_getsNoticeIn_30 : decode cX6_getsNoticeIn 30 = .ok (.aload_n 0, 1) := by decide +kernel
theorem dX6_getsNoticeIn_31 : decode cX6_getsNoticeIn 31 = .ok (.getfield 40, 3) := by decide +kernel
theorem dX6_getsNoticeIn_34 : decode cX6_getsNoticeIn 34 = .ok (.iload_n 2, 1) := by decide +kernel
theorem dX6_getsNoticeIn_35 : decode cX6_getsNoticeIn 35 = .ok (.if_icmp .le 7, 3) := by decide +kernel
theorem dX6_getsNoticeIn_38 : decode cX6_getsNoticeIn 38 = .ok (.iconst 1, 1) := by decide +kernel
theorem dX6_getsNoticeIn_39 : decode cX6_getsNoticeIn 39 = .ok (.goto 4, 3) := by decide +kernel
theorem dX6_getsNoticeIn_42 : decode cX6_getsNoticeIn 42 = .ok (.iconst 0, 1) := by decide +kernel
theorem dX6_getsNoticeIn_43 : decode cX6_getsNoticeIn 43 = .ok (.ireturn, 1) := by decide +kernel
theorem dX6_passTick_0 : decode cX6_passTick 0 = .ok (.aload_n 0, 1) := by decide +kernel
theorem dX6_passTick_1 : decode cX6_passTick 1 = .ok (.invokevirtual 87, 3) := by decide +kernel
theorem dX6_passTick_4 : decode cX6_passTick 4 = .ok (.aload_n 0, 1) := by decide +kernel
theorem dX6_passTick_5 : decode cX6_passTick 5 = .ok (.getfield 19, 3) := by decide +kernel
theorem dX6_passTick_8 : decode cX6_passTick 8 = .ok (.astore_n 1, 1) := by decide +kernel
theorem dX6_passTick_9 : decode cX6_passTick 9 = .ok (.aload_n 1, 1) := by decide +kernel
theorem dX6_passTick_10 : decode cX6_passTick 10 = .ok (.arraylength, 1) := by decide +kernel
theorem dX6_passTick_11 : decode cX6_passTick 11 = .ok (.istore_n 2, 1) := by decide +kernel
theorem dX6_passTick_12 : decode cX6_passTick 12 = .ok (.iconst 0, 1) := by decide +kernel
theorem dX6_passTick_13 : decode cX6_passTick 13 = .ok (.istore_n 3, 1) := by decide +kernel
theorem dX6_passTick_14 : decode cX6_passTick 14 = .ok (.iload_n 3, 1) := by decide +kernel
theorem dX6_passTick_15 : decode cX6_passTick 15 = .ok (.iload_n 2, 1) := by decide +kernel
theorem dX6_passTick_16 : decode cX6_passTick 16 = .ok (.if_icmp .ge 19, 3) := by decide +kernel
theorem dX6_passTick_19 : decode cX6_passTick 19 = .ok (.aload_n 1, 1) := by decide +kernel
theorem dX6_passTick_20 : decode cX6_passTick 20 = .ok (.iload_n 3, 1) := by decide +kernel
theorem dX6_passTick_21 : decode cX6_passTick 21 = .ok (.aaload, 1) := by decide +kernel
theorem dX6_passTick_22 : decode cX6_passTick 22 = .ok (.astore 4, 2) := by decide +kernel
theorem dX6_passTick_24 : decode cX6_passTick 24 = .ok (.aload 4, 2) := by decide +kernel
theorem dX6_passTick_26 : decode cX6_passTick 26 = .ok (.invokevirtual 90, 3) := by decide +kernel
theorem dX6_passTick_29 : decode cX6_passTick 29 = .ok (.iinc 3 1, 3) := by decide +kernel
theorem dX6_passTick_32 : decode cX6_passTick 32 = .ok (.goto (-18), 3) := by decide +kernel
theorem dX6_passTick_35 : decode cX6_passTick 35 = .ok (.aload_n 0, 1) := by decide +kernel
theorem dX6_passTick_36 : decode cX6_passTick 36 = .ok (.invokevirtual 93, 3) := by decide +kernel
theorem dX6_passTick_39 : decode cX6_passTick 39 = .ok (.aload_n 0, 1) := by decide +kernel
theorem dX6_passTick_40 : decode cX6_passTick 40 = .ok (.invokevirtual 96, 3) := by decide +kernel
theorem dX6_passTick_43 : decode cX6_passTick 43 = .ok (.return_, 1) := by decide +kernel
theorem dX6_takeReadings_0 : decode cX6_takeReadings 0 = .ok (.aload_n 0, 1) := by decide +kernel
theorem dX6_takeReadings_1 : decode cX6_takeReadings 1 = .ok (.aload_n 0, 1) := by decide +kernel
theorem dX6_takeReadings_2 : decode cX6_takeReadings 2 = .ok (.getfield 53, 3) := by decide +kernel
theorem dX6_takeReadings_5 : decode cX6_takeReadings 5 = .ok (.invokevirtual 99, 3) := by decide +kernel
theorem dX6_takeReadings_8 : decode cX6_takeReadings 8 = .ok (.istore_n 1, 1) := by decide +kernel
theorem dX6_takeReadings_9 : decode cX6_takeReadings 9 = .ok (.aload_n 0, 1) := by decide +kernel
theorem dX6_takeReadings_10 : decode cX6_takeReadings 10 = .ok (.getfield 36, 3) := by decide +kernel
theorem dX6_takeReadings_13 : decode cX6_takeReadings 13 = .ok (.aload_n 0, 1) := by decide +kernel
theorem dX6_takeReadings_14 : decode cX6_takeReadings 14 = .ok (.getfield 53, 3) := by decide +kernel
theorem dX6_takeReadings_17 : decode cX6_takeReadings 17 = .ok (.iload_n 1, 1) := by decide +kernel
theorem dX6_takeReadings_18 : decode cX6_takeReadings 18 = .ok (.invokevirtual 102, 3) := by decide +kernel
theorem dX6_takeReadings_21 : decode cX6_takeReadings 21 = .ok (.aload_n 0, 1) := by decide +kernel
theorem dX6_takeReadings_22 : decode cX6_takeReadings 22 = .ok (.getfield 19, 3) := by decide +kernel
theorem dX6_takeReadings_25 : decode cX6_takeReadings 25 = .ok (.astore_n 2, 1) := by decide +kernel
theorem dX6_takeReadings_26 : decode cX6_takeReadings 26 = .ok (.aload_n 2, 1) := by decide +kernel
theorem dX6_takeReadings_27 : decode cX6_takeReadings 27 = .ok (.arraylength, 1) := by decide +kernel
theorem dX6_takeReadings_28 : decode cX6_takeReadings 28 = .ok (.istore_n 3, 1) := by decide +kernel
theorem dX6_takeReadings_29 : decode cX6_takeReadings 29 = .ok (.iconst 0, 1) := by decide +kernel
theorem dX6_takeReadings_30 : decode cX6_takeReadings 30 = .ok (.istore 4, 2) := by decide +kernel
theorem dX6_takeReadings_32 : decode cX6_takeReadings 32 = .ok (.iload 4, 2) := by decide +kernel
theorem dX6_takeReadings_34 : decode cX6_takeReadings 34 = .ok (.iload_n 3, 1) := by decide +kernel
theorem dX6_takeReadings_35 : decode cX6_takeReadings 35 = .ok (.if_icmp .ge 84, 3) := by decide +kernel
theorem dX6_takeReadings_38 : decode cX6_takeReadings 38 = .ok (.aload_n 2, 1) := by decide +kernel
theorem dX6_takeReadings_39 : decode cX6_takeReadings 39 = .ok (.iload 4, 2) := by decide +kernel
theorem dX6_takeReadings_41 : decode cX6_takeReadings 41 = .ok (.aaload, 1) := by decide +kernel
theorem dX6_takeReadings_42 : decode cX6_takeReadings 42 = .ok (.astore 5, 2) := by decide +kernel
theorem dX6_takeReadings_44 : decode cX6_takeReadings 44 = .ok (.aload 5, 2) := by decide +kernel
theorem dX6_takeReadings_46 : decode cX6_takeReadings 46 = .ok (.getfield 106, 3) := by decide +kernel
theorem dX6_takeReadings_49 : decode cX6_takeReadings 49 = .ok (.iconst 0, 1) := by decide +kernel
theorem dX6_takeReadings_50 : decode cX6_takeReadings 50 = .ok (.bipush 7, 2) := by decide +kernel
theorem dX6_takeReadings_52 : decode cX6_takeReadings 52 = .ok (.invokestatic 109, 3) := by decide +kernel
theorem dX6_takeReadings_55 : decode cX6_takeReadings 55 = .ok (.ifCond .eq 58, 3) := by decide +kernel
theorem dX6_takeReadings_58 : decode cX6_takeReadings 58 = .ok (.aload_n 0, 1) := by decide +kernel
theorem dX6_takeReadings_59 : decode cX6_takeReadings 59 = .ok (.getfield 11, 3) := by decide +kernel
theorem dX6_takeReadings_62 : decode cX6_takeReadings 62 = .ok (.aload 5, 2) := by decide +kernel
theorem dX6_takeReadings_64 : decode cX6_takeReadings 64 = .ok (.getfield 106, 3) := by decide +kernel
theorem dX6_takeReadings_67 : decode cX6_takeReadings 67 = .ok (.aaload, 1) := by decide +kernel
theorem dX6_takeReadings_68 : decode cX6_takeReadings 68 = .ok (.astore 6, 2) := by decide +kernel
theorem dX6_takeReadings_70 : decode cX6_takeReadings 70 = .ok (.aload 6, 2) := by decide +kernel
theorem dX6_takeReadings_72 : decode cX6_takeReadings 72 = .ok (.aload_n 0, 1) := by decide +kernel
theorem dX6_takeReadings_73 : decode cX6_takeReadings 73 = .ok (.getfield 53, 3) := by decide +kernel
theorem dX6_takeReadings_76 : decode cX6_takeReadings 76 = .ok (.invokevirtual 113, 3) := by decide +kernel
theorem dX6_takeReadings_79 : decode cX6_takeReadings 79 = .ok (.istore 7, 2) := by decide +kernel
theorem dX6_takeReadings_81 : decode cX6_takeReadings 81 = .ok (.aload 5, 2) := by decide +kernel
theorem dX6_takeReadings_83 : decode cX6_takeReadings 83 = .ok (.iload 7, 2) := by decide +kernel
theorem dX6_takeReadings_85 : decode cX6_takeReadings 85 = .ok (.iload_n 1, 1) := by decide +kernel
theorem dX6_takeReadings_86 : decode cX6_takeReadings 86 = .ok (.invokevirtual 116, 3) := by decide +kernel
theorem dX6_takeReadings_89 : decode cX6_takeReadings 89 = .ok (.istore 8, 2) := by decide +kernel
theorem dX6_takeReadings_91 : decode cX6_takeReadings 91 = .ok (.aload 6, 2) := by decide +kernel
theorem dX6_takeReadings_93 : decode cX6_takeReadings 93 = .ok (.aload_n 0, 1) := by decide +kernel
theorem dX6_takeReadings_94 : decode cX6_takeReadings 94 = .ok (.getfield 53, 3) := by decide +kernel
theorem dX6_takeReadings_97 : decode cX6_takeReadings 97 = .ok (.iload 8, 2) := by decide +kernel
theorem dX6_takeReadings_99 : decode cX6_takeReadings 99 = .ok (.iload 7, 2) := by decide +kernel
theorem dX6_takeReadings_101 : decode cX6_takeReadings 101 = .ok (.invokevirtual 120, 3) := by decide +kernel
theorem dX6_takeReadings_104 : decode cX6_takeReadings 104 = .ok (.aload 5, 2) := by decide +kernel
theorem dX6_takeReadings_106 : decode cX6_takeReadings 106 = .ok (.iload 8, 2) := by decide +kernel
theorem dX6_takeReadings_108 : decode cX6_takeReadings 108 = .ok (.iload 7, 2) := by decide +kernel
theorem dX6_takeReadings_110 : decode cX6_takeReadings 110 = .ok (.invokevirtual 124, 3) := by decide +kernel
theorem dX6_takeReadings_113 : decode cX6_takeReadings 113 = .ok (.iinc 4 1, 3) := by decide +kernel
theorem dX6_takeReadings_116 : decode cX6_takeReadings 116 = .ok (.goto (-84), 3) := by decide +kernel
theorem dX6_takeReadings_119 : decode cX6_takeReadings 119 = .ok (.return_, 1) := by decide +kernel
theorem dX6_giveNotices_0 : decode cX6_giveNotices 0 = .ok (.iconst 0, 1) := by decide +kernel
theorem dX6_giveNotices_1 : decode cX6_giveNotices 1 = .ok (.istore_n 1, 1) := by decide +kernel
theorem dX6_giveNotices_2 : decode cX6_giveNotices 2 = .ok (.iload_n 1, 1) := by decide +kernel
theorem dX6_giveNotices_3 : decode cX6_giveNotices 3 = .ok (.bipush 8, 2) := by decide +kernel
theorem dX6_giveNotices_5 : decode cX6_giveNotices 5 = .ok (.if_icmp .ge 87, 3) := by decide +kernel
theorem dX6_giveNotices_8 : decode cX6_giveNotices 8 = .ok (.aload_n 0, 1) := by decide +kernel
theorem dX6_giveNotices_9 : decode cX6_giveNotices 9 = .ok (.getfield 11, 3) := by decide +kernel
theorem dX6_giveNotices_12 : decode cX6_giveNotices 12 = .ok (.iload_n 1, 1) := by decide +kernel
theorem dX6_giveNotices_13 : decode cX6_giveNotices 13 = .ok (.aaload, 1) := by decide +kernel
theorem dX6_giveNotices_14 : decode cX6_giveNotices 14 = .ok (.getfield 127, 3) := by decide +kernel
theorem dX6_giveNotices_17 : decode cX6_giveNotices 17 = .ok (.aload_n 0, 1) := by decide +kernel
theorem dX6_giveNotices_18 : decode cX6_giveNotices 18 = .ok (.getfield 53, 3) := by decide +kernel
theorem dX6_giveNotices_21 : decode cX6_giveNotices 21 = .ok (.aload_n 0, 1) := by decide +kernel
theorem dX6_giveNotices_22 : decode cX6_giveNotices 22 = .ok (.getfield 44, 3) := by decide +kernel
theorem dX6_giveNotices_25 : decode cX6_giveNotices 25 = .ok (.aload_n 0, 1) := by decide +kernel
theorem dX6_giveNotices_26 : decode cX6_giveNotices 26 = .ok (.getfield 47, 3) := by decide +kernel
theorem dX6_giveNotices_29 : decode cX6_giveNotices 29 = .ok (.iconst 1, 1) := by decide +kernel
theorem dX6_giveNotices_30 : decode cX6_giveNotices 30 = .ok (.iadd, 1) := by decide +kernel
theorem dX6_giveNotices_31 : decode cX6_giveNotices 31 = .ok (.invokevirtual 130, 3) := by decide +kernel
theorem dX6_giveNotices_34 : decode cX6_giveNotices 34 = .ok (.istore_n 2, 1) := by decide +kernel
theorem dX6_giveNotices_35 : decode cX6_giveNotices 35 = .ok (.iload_n 2, 1) := by decide +kernel
theorem dX6_giveNotices_36 : decode cX6_giveNotices 36 = .ok (.aload_n 0, 1) := by decide +kernel
theorem dX6_giveNotices_37 : decode cX6_giveNotices 37 = .ok (.getfield 47, 3) := by decide +kernel
theorem dX6_giveNotices_40 : decode cX6_giveNotices 40 = .ok (.if_icmp .ne 46, 3) := by decide +kernel
theorem dX6_giveNotices_43 : decode cX6_giveNotices 43 = .ok (.aload_n 0, 1) := by decide +kernel
theorem dX6_giveNotices_44 : decode cX6_giveNotices 44 = .ok (.getfield 40, 3) := by decide +kernel
theorem dX6_giveNotices_47 : decode cX6_giveNotices 47 = .ok (.iconst 0, 1) := by decide +kernel
theorem dX6_giveNotices_48 : decode cX6_giveNotices 48 = .ok (.bipush 19, 2) := by decide +kernel
theorem dX6_giveNotices_50 : decode cX6_giveNotices 50 = .ok (.invokestatic 109, 3) := by decide +kernel
theorem dX6_giveNotices_53 : decode cX6_giveNotices 53 = .ok (.ifCond .eq 33, 3) := by decide +kernel
theorem dX6_giveNotices_56 : decode cX6_giveNotices 56 = .ok (.aload_n 0, 1) := by decide +kernel
theorem dX6_giveNotices_57 : decode cX6_giveNotices 57 = .ok (.aload_n 0, 1) := by decide +kernel
theorem dX6_giveNotices_58 : decode cX6_giveNotices 58 = .ok (.getfield 25, 3) := by decide +kernel
theorem dX6_giveNotices_61 : decode cX6_giveNotices 61 = .ok (.aload_n 0, 1) := by decide +kernel
theorem dX6_giveNotices_62 : decode cX6_giveNotices 62 = .ok (.getfield 40, 3) := by decide +kernel
theorem dX6_giveNotices_65 : decode cX6_giveNotices 65 = .ok (.aaload, 1) := by decide +kernel
theorem dX6_giveNotices_66 : decode cX6_giveNotices 66 = .ok (.iload_n 1, 1) := by decide +kernel
theorem dX6_giveNotices_67 : decode cX6_giveNotices 67 = .ok (.aload_n 0, 1) := by decide +kernel
theorem dX6_giveNotices_68 : decode cX6_giveNotices 68 = .ok (.getfield 11, 3) := by decide +kernel
theorem dX6_giveNotices_71 : decode cX6_giveNotices 71 = .ok (.iload_n 1, 1) := by decide +kernel
theorem dX6_giveNotices_72 : decode cX6_giveNotices 72 = .ok (.aaload, 1) := by decide +kernel
theorem dX6_giveNotices_73 : decode cX6_giveNotices 73 = .ok (.invokevirtual 134, 3) := by decide +kernel
theorem dX6_giveNotices_76 : decode cX6_giveNotices 76 = .ok (.aload_n 0, 1) := by decide +kernel
theorem dX6_giveNotices_77 : decode cX6_giveNotices 77 = .ok (.dup, 1) := by decide +kernel
theorem dX6_giveNotices_78 : decode cX6_giveNotices 78 = .ok (.getfield 40, 3) := by decide +kernel
theorem dX6_giveNotices_81 : decode cX6_giveNotices 81 = .ok (.iconst 1, 1) := by decide +kernel
theorem dX6_giveNotices_82 : decode cX6_giveNotices 82 = .ok (.iadd, 1) := by decide +kernel
theorem dX6_giveNotices_83 : decode cX6_giveNotices 83 = .ok (.putfield 40, 3) := by decide +kernel
theorem dX6_giveNotices_86 : decode cX6_giveNotices 86 = .ok (.iinc 1 1, 3) := by decide +kernel
theorem dX6_giveNotices_89 : decode cX6_giveNotices 89 = .ok (.goto (-87), 3) := by decide +kernel
theorem dX6_giveNotices_92 : decode cX6_giveNotices 92 = .ok (.return_, 1) := by decide +kernel
theorem dX6_fill_0 : decode cX6_fill 0 = .ok (.aload_n 1, 1) := by decide +kernel
theorem dX6_fill_1 : decode cX6_fill 1 = .ok (.iload_n 2, 1) := by decide +kernel
theorem dX6_fill_2 : decode cX6_fill 2 = .ok (.putfield 138, 3) := by decide +kernel
theorem dX6_fill_5 : decode cX6_fill 5 = .ok (.aload_n 1, 1) := by decide +kernel
theorem dX6_fill_6 : decode cX6_fill 6 = .ok (.bipush 10, 2) := by decide +kernel
theorem dX6_fill_8 : decode cX6_fill 8 = .ok (.aload_n 0, 1) := by decide +kernel
theorem dX6_fill_9 : decode cX6_fill 9 = .ok (.iload_n 2, 1) := by decide +kernel
theorem dX6_fill_10 : decode cX6_fill 10 = .ok (.invokevirtual 141, 3) := by decide +kernel
theorem dX6_fill_13 : decode cX6_fill 13 = .ok (.iconst 1, 1) := by decide +kernel
theorem dX6_fill_14 : decode cX6_fill 14 = .ok (.iadd, 1) := by decide +kernel
theorem dX6_fill_15 : decode cX6_fill 15 = .ok (.imul, 1) := by decide +kernel
theorem dX6_fill_16 : decode cX6_fill 16 = .ok (.putfield 144, 3) := by decide +kernel
theorem dX6_fill_19 : decode cX6_fill 19 = .ok (.aload_n 1, 1) := by decide +kernel
theorem dX6_fill_20 : decode cX6_fill 20 = .ok (.iconst 0, 1) := by decide +kernel
theorem dX6_fill_21 : decode cX6_fill 21 = .ok (.putfield 147, 3) := by decide +kernel
theorem dX6_fill_24 : decode cX6_fill 24 = .ok (.aload_n 1, 1) := by decide +kernel
theorem dX6_fill_25 : decode cX6_fill 25 = .ok (.iconst 0, 1) := by decide +kernel
theorem dX6_fill_26 : decode cX6_fill 26 = .ok (.putfield 151, 3) := by decide +kernel
theorem dX6_fill_29 : decode cX6_fill 29 = .ok (.iconst 0, 1) := by decide +kernel
theorem dX6_fill_30 : decode cX6_fill 30 = .ok (.istore 4, 2) := by decide +kernel
theorem dX6_fill_32 : decode cX6_fill 32 = .ok (.iload 4, 2) := by decide +kernel
theorem dX6_fill_34 : decode cX6_fill 34 = .ok (.aload_n 0, 1) := by decide +kernel
theorem dX6_fill_35 : decode cX6_fill 35 = .ok (.getfield 47, 3) := by decide +kernel
theorem dX6_fill_38 : decode cX6_fill 38 = .ok (.if_icmp .ge 76, 3) := by decide +kernel
theorem dX6_fill_41 : decode cX6_fill 41 = .ok (.aload_n 1, 1) := by decide +kernel
theorem dX6_fill_42 : decode cX6_fill 42 = .ok (.dup, 1) := by decide +kernel
theorem dX6_fill_43 : decode cX6_fill 43 = .ok (.getfield 147, 3) := by decide +kernel
theorem dX6_fill_46 : decode cX6_fill 46 = .ok (.aload_n 0, 1) := by decide +kernel
theorem dX6_fill_47 : decode cX6_fill 47 = .ok (.getfield 36, 3) := by decide +kernel
theorem dX6_fill_50 : decode cX6_fill 50 = .ok (.aload_n 0, 1) := by decide +kernel
theorem dX6_fill_51 : decode cX6_fill 51 = .ok (.getfield 53, 3) := by decide +kernel
theorem dX6_fill_54 : decode cX6_fill 54 = .ok (.iload 4, 2) := by decide +kernel
theorem dX6_fill_56 : decode cX6_fill 56 = .ok (.isub, 1) := by decide +kernel
theorem dX6_fill_57 : decode cX6_fill 57 = .ok (.invokevirtual 154, 3) := by decide +kernel
theorem dX6_fill_60 : decode cX6_fill 60 = .ok (.iconst 3, 1) := by decide +kernel
theorem dX6_fill_61 : decode cX6_fill 61 = .ok (.if_icmp .lt 7, 3) := by decide +kernel
theorem dX6_fill_64 : decode cX6_fill 64 = .ok (.iconst 1, 1) := by decide +kernel
theorem dX6_fill_65 : decode cX6_fill 65 = .ok (.goto 4, 3) := by decide +kernel
theorem dX6_fill_68 : decode cX6_fill 68 = .ok (.iconst 0, 1) := by decide +kernel
theorem dX6_fill_69 : decode cX6_fill 69 = .ok (.ior, 1) := by decide +kernel
theorem dX6_fill_70 : decode cX6_fill 70 = .ok (.putfield 147, 3) := by decide +kernel
theorem dX6_fill_73 : decode cX6_fill 73 = .ok (.aload_n 1, 1) := by decide +kernel
theorem dX6_fill_74 : decode cX6_fill 74 = .ok (.dup, 1) := by decide +kernel
theorem dX6_fill_75 : decode cX6_fill 75 = .ok (.getfield 151, 3) := by decide +kernel
theorem dX6_fill_78 : decode cX6_fill 78 = .ok (.aload_n 3, 1) := by decide +kernel
theorem dX6_fill_79 : decode cX6_fill 79 = .ok (.getfield 157, 3) := by decide +kernel
theorem dX6_fill_82 : decode cX6_fill 82 = .ok (.aload_n 0, 1) := by decide +kernel
theorem dX6_fill_83 : decode cX6_fill 83 = .ok (.getfield 53, 3) := by decide +kernel
theorem dX6_fill_86 : decode cX6_fill 86 = .ok (.iload 4, 2) := by decide +kernel
theorem dX6_fill_88 : decode cX6_fill 88 = .ok (.isub, 1) := by decide +kernel
theorem dX6_fill_89 : decode cX6_fill 89 = .ok (.invokevirtual 154, 3) := by decide +kernel
theorem dX6_fill_92 : decode cX6_fill 92 = .ok (.aload_n 0, 1) := by decide +kernel
theorem dX6_fill_93 : decode cX6_fill 93 = .ok (.getfield 44, 3) := by decide +kernel
theorem dX6_fill_96 : decode cX6_fill 96 = .ok (.if_icmp .ge 7, 3) := by decide +kernel
theorem dX6_fill_99 : decode cX6_fill 99 = .ok (.iconst 1, 1) := by decide +kernel
theorem dX6_fill_100 : decode cX6_fill 100 = .ok (.goto 4, 3) := by decide +kernel
theorem dX6_fill_103 : decode cX6_fill 103 = .ok (.iconst 0, 1) := by decide +kernel
theorem dX6_fill_104 : decode cX6_fill 104 = .ok (.ior, 1) := by decide +kernel
theorem dX6_fill_105 : decode cX6_fill 105 = .ok (.putfield 151, 3) := by decide +kernel
theorem dX6_fill_108 : decode cX6_fill 108 = .ok (.iinc 4 1, 3) := by decide +kernel
theorem dX6_fill_111 : decode cX6_fill 111 = .ok (.goto (-79), 3) := by decide +kernel
theorem dX6_fill_114 : decode cX6_fill 114 = .ok (.aload_n 1, 1) := by decide +kernel
theorem dX6_fill_115 : decode cX6_fill 115 = .ok (.iconst 0, 1) := by decide +kernel
theorem dX6_fill_116 : decode cX6_fill 116 = .ok (.putfield 160, 3) := by decide +kernel
theorem dX6_fill_119 : decode cX6_fill 119 = .ok (.aload_n 1, 1) := by decide +kernel
theorem dX6_fill_120 : decode cX6_fill 120 = .ok (.iconst 1, 1) := by decide +kernel
theorem dX6_fill_121 : decode cX6_fill 121 = .ok (.putfield 163, 3) := by decide +kernel
theorem dX6_fill_124 : decode cX6_fill 124 = .ok (.aload_n 3, 1) := by decide +kernel
theorem dX6_fill_125 : decode cX6_fill 125 = .ok (.dup, 1) := by decide +kernel
theorem dX6_fill_126 : decode cX6_fill 126 = .ok (.getfield 166, 3) := by decide +kernel
theorem dX6_fill_129 : decode cX6_fill 129 = .ok (.aload_n 1, 1) := by decide +kernel
theorem dX6_fill_130 : decode cX6_fill 130 = .ok (.getfield 144, 3) := by decide +kernel
theorem dX6_fill_133 : decode cX6_fill 133 = .ok (.iadd, 1) := by decide +kernel
theorem dX6_fill_134 : decode cX6_fill 134 = .ok (.putfield 166, 3) := by decide +kernel
theorem dX6_fill_137 : decode cX6_fill 137 = .ok (.return_, 1) := by decide +kernel
theorem dX6_goOn_0 : decode cX6_goOn 0 = .ok (.aload_n 0, 1) := by decide +kernel
theorem dX6_goOn_1 : decode cX6_goOn 1 = .ok (.dup, 1) := by decide +kernel
theorem dX6_goOn_2 : decode cX6_goOn 2 = .ok (.getfield 53, 3) := by decide +kernel
theorem dX6_goOn_5 : decode cX6_goOn 5 = .ok (.iconst 1, 1) := by decide +kernel
theorem dX6_goOn_6 : decode cX6_goOn 6 = .ok (.iadd, 1) := by decide +kernel
theorem dX6_goOn_7 : decode cX6_goOn 7 = .ok (.putfield 53, 3) := by decide +kernel
theorem dX6_goOn_10 : decode cX6_goOn 10 = .ok (.aload_n 0, 1) := by decide +kernel
theorem dX6_goOn_11 : decode cX6_goOn 11 = .ok (.getfield 53, 3) := by decide +kernel
theorem dX6_goOn_14 : decode cX6_goOn 14 = .ok (.bipush 96, 2) := by decide +kernel
theorem dX6_goOn_16 : decode cX6_goOn 16 = .ok (.if_icmp .ne 52, 3) := by decide +kernel
theorem dX6_goOn_19 : decode cX6_goOn 19 = .ok (.aload_n 0, 1) := by decide +kernel
theorem dX6_goOn_20 : decode cX6_goOn 20 = .ok (.iconst 0, 1) := by decide +kernel
theorem dX6_goOn_21 : decode cX6_goOn 21 = .ok (.putfield 53, 3) := by decide +kernel
theorem dX6_goOn_24 : decode cX6_goOn 24 = .ok (.aload_n 0, 1) := by decide +kernel
theorem dX6_goOn_25 : decode cX6_goOn 25 = .ok (.dup, 1) := by decide +kernel
theorem dX6_goOn_26 : decode cX6_goOn 26 = .ok (.getfield 50, 3) := by decide +kernel
theorem dX6_goOn_29 : decode cX6_goOn 29 = .ok (.iconst 1, 1) := by decide +kernel
theorem dX6_goOn_30 : decode cX6_goOn 30 = .ok (.iadd, 1) := by decide +kernel
theorem dX6_goOn_31 : decode cX6_goOn 31 = .ok (.putfield 50, 3) := by decide +kernel
theorem dX6_goOn_34 : decode cX6_goOn 34 = .ok (.aload_n 0, 1) := by decide +kernel
theorem dX6_goOn_35 : decode cX6_goOn 35 = .ok (.getfield 11, 3) := by decide +kernel
theorem dX6_goOn_38 : decode cX6_goOn 38 = .ok (.astore_n 1, 1) := by decide +kernel
theorem dX6_goOn_39 : decode cX6_goOn 39 = .ok (.aload_n 1, 1) := by decide +kernel
theorem dX6_goOn_40 : decode cX6_goOn 40 = .ok (.arraylength, 1) := by decide +kernel
theorem dX6_goOn_41 : decode cX6_goOn 41 = .ok (.istore_n 2, 1) := by decide +kernel
theorem dX6_goOn_42 : decode cX6_goOn 42 = .ok (.iconst 0, 1) := by decide +kernel
theorem dX6_goOn_43 : decode cX6_goOn 43 = .ok (.istore_n 3, 1) := by decide +kernel
theorem dX6_goOn_44 : decode cX6_goOn 44 = .ok (.iload_n 3, 1) := by decide +kernel
theorem dX6_goOn_45 : decode cX6_goOn 45 = .ok (.iload_n 2, 1) := by decide +kernel
theorem dX6_goOn_46 : decode cX6_goOn 46 = .ok (.if_icmp .ge 22, 3) := by decide +kernel
theorem dX6_goOn_49 : decode cX6_goOn 49 = .ok (.aload_n 1, 1) := by decide +kernel
theorem dX6_goOn_50 : decode cX6_goOn 50 = .ok (.iload_n 3, 1) := by decide +kernel
theorem dX6_goOn_51 : decode cX6_goOn 51 = .ok (.aaload, 1) := by decide +kernel
theorem dX6_goOn_52 : decode cX6_goOn 52 = .ok (.astore 4, 2) := by decide +kernel
theorem dX6_goOn_54 : decode cX6_goOn 54 = .ok (.aload 4, 2) := by decide +kernel
theorem dX6_goOn_56 : decode cX6_goOn 56 = .ok (.getfield 127, 3) := by decide +kernel
theorem dX6_goOn_59 : decode cX6_goOn 59 = .ok (.invokevirtual 169, 3) := by decide +kernel
theorem dX6_goOn_62 : decode cX6_goOn 62 = .ok (.iinc 3 1, 3) := by decide +kernel
theorem dX6_goOn_65 : decode cX6_goOn 65 = .ok (.goto (-21), 3) := by decide +kernel
theorem dX6_goOn_68 : decode cX6_goOn 68 = .ok (.return_, 1) := by decide +kernel
theorem dX6_hasNotice_0 : decode cX6_hasNotice 0 = .ok (.iload_n 1, 1) := by decide +kernel
theorem dX6_hasNotice_1 : decode cX6_hasNotice 1 = .ok (.ifCond .lt 21, 3) := by decide +kernel
theorem dX6_hasNotice_4 : decode cX6_hasNotice 4 = .ok (.iload_n 1, 1) := by decide +kernel
theorem dX6_hasNotice_5 : decode cX6_hasNotice 5 = .ok (.aload_n 0, 1) := by decide +kernel
theorem dX6_hasNotice_6 : decode cX6_hasNotice 6 = .ok (.getfield 40, 3) := by decide +kernel
theorem dX6_hasNotice_9 : decode cX6_hasNotice 9 = .ok (.if_icmp .ge 13, 3) := by decide +kernel
theorem dX6_hasNotice_12 : decode cX6_hasNotice 12 = .ok (.iload_n 1, 1) := by decide +kernel
theorem dX6_hasNotice_13 : decode cX6_hasNotice 13 = .ok (.bipush 20, 2) := by decide +kernel
theorem dX6_hasNotice_15 : decode cX6_hasNotice 15 = .ok (.if_icmp .ge 7, 3) := by decide +kernel
theorem dX6_hasNotice_18 : decode cX6_hasNotice 18 = .ok (.iconst 1, 1) := by decide +kernel
theorem dX6_hasNotice_19 : decode cX6_hasNotice 19 = .ok (.goto 4, 3) := by decide +kernel
theorem dX6_hasNotice_22 : decode cX6_hasNotice 22 = .ok (.iconst 0, 1) := by decide +kernel
theorem dX6_hasNotice_23 : decode cX6_hasNotice 23 = .ok (.ireturn, 1) := by decide +kernel
theorem dX6_decide_0 : decode cX6_decide 0 = .ok (.aload_n 1, 1) := by decide +kernel
theorem dX6_decide_1 : decode cX6_decide 1 = .ok (.iconst 1, 1) := by decide +kernel
theorem dX6_decide_2 : decode cX6_decide 2 = .ok (.putfield 160, 3) := by decide +kernel
theorem dX6_decide_5 : decode cX6_decide 5 = .ok (.aload_n 1, 1) := by decide +kernel
theorem dX6_decide_6 : decode cX6_decide 6 = .ok (.getfield 147, 3) := by decide +kernel
theorem dX6_decide_9 : decode cX6_decide 9 = .ok (.ifCond .ne 10, 3) := by decide +kernel
theorem dX6_decide_12 : decode cX6_decide 12 = .ok (.aload_n 1, 1) := by decide +kernel
theorem dX6_decide_13 : decode cX6_decide 13 = .ok (.getfield 151, 3) := by decide +kernel
theorem dX6_decide_16 : decode cX6_decide 16 = .ok (.ifCond .eq 42, 3) := by decide +kernel
theorem dX6_decide_19 : decode cX6_decide 19 = .ok (.aload_n 1, 1) := by decide +kernel
theorem dX6_decide_20 : decode cX6_decide 20 = .ok (.iconst 0, 1) := by decide +kernel
theorem dX6_decide_21 : decode cX6_decide 21 = .ok (.putfield 163, 3) := by decide +kernel
theorem dX6_decide_24 : decode cX6_decide 24 = .ok (.aload_n 1, 1) := by decide +kernel
theorem dX6_decide_25 : decode cX6_decide 25 = .ok (.getfield 138, 3) := by decide +kernel
theorem dX6_decide_28 : decode cX6_decide 28 = .ok (.iconst 0, 1) := by decide +kernel
theorem dX6_decide_29 : decode cX6_decide 29 = .ok (.bipush 7, 2) := by decide +kernel
theorem dX6_decide_31 : decode cX6_decide 31 = .ok (.invokestatic 109, 3) := by decide +kernel
theorem dX6_decide_34 : decode cX6_decide 34 = .ok (.ifCond .eq 24, 3) := by decide +kernel
theorem dX6_decide_37 : decode cX6_decide 37 = .ok (.aload_n 0, 1) := by decide +kernel
theorem dX6_decide_38 : decode cX6_decide 38 = .ok (.getfield 11, 3) := by decide +kernel
theorem dX6_decide_41 : decode cX6_decide 41 = .ok (.aload_n 1, 1) := by decide +kernel
theorem dX6_decide_42 : decode cX6_decide 42 = .ok (.getfield 138, 3) := by decide +kernel
theorem dX6_decide_45 : decode cX6_decide 45 = .ok (.aaload, 1) := by decide +kernel
theorem dX6_decide_46 : decode cX6_decide 46 = .ok (.dup, 1) := by decide +kernel
theorem dX6_decide_47 : decode cX6_decide 47 = .ok (.getfield 172, 3) := by decide +kernel
theorem dX6_decide_50 : decode cX6_decide 50 = .ok (.aload_n 1, 1) := by decide +kernel
theorem dX6_decide_51 : decode cX6_decide 51 = .ok (.getfield 144, 3) := by decide +kernel
theorem dX6_decide_54 : decode cX6_decide 54 = .ok (.iadd, 1) := by decide +kernel
theorem dX6_decide_55 : decode cX6_decide 55 = .ok (.putfield 172, 3) := by decide +kernel
theorem dX6_decide_58 : decode cX6_decide 58 = .ok (.return_, 1) := by decide +kernel
theorem dX6_standingCount_0 : decode cX6_standingCount 0 = .ok (.iconst 0, 1) := by decide +kernel
theorem dX6_standingCount_1 : decode cX6_standingCount 1 = .ok (.istore_n 1, 1) := by decide +kernel
theorem dX6_standingCount_2 : decode cX6_standingCount 2 = .ok (.iconst 0, 1) := by decide +kernel
theorem dX6_standingCount_3 : decode cX6_standingCount 3 = .ok (.istore_n 2, 1) := by decide +kernel
theorem dX6_standingCount_4 : decode cX6_standingCount 4 = .ok (.iload_n 2, 1) := by decide +kernel
theorem dX6_standingCount_5 : decode cX6_standingCount 5 = .ok (.bipush 20, 2) := by decide +kernel
theorem dX6_standingCount_7 : decode cX6_standingCount 7 = .ok (.if_icmp .ge 32, 3) := by decide +kernel
theorem dX6_standingCount_10 : decode cX6_standingCount 10 = .ok (.iload_n 2, 1) := by decide +kernel
theorem dX6_standingCount_11 : decode cX6_standingCount 11 = .ok (.aload_n 0, 1) := by decide +kernel
theorem dX6_standingCount_12 : decode cX6_standingCount 12 = .ok (.getfield 40, 3) := by decide +kernel
theorem dX6_standingCount_15 : decode cX6_standingCount 15 = .ok (.if_icmp .ge 24, 3) := by decide +kernel
theorem dX6_standingCount_18 : decode cX6_standingCount 18 = .ok (.aload_n 0, 1) := by decide +kernel
theorem dX6_standingCount_19 : decode cX6_standingCount 19 = .ok (.getfield 25, 3) := by decide +kernel
theorem dX6_standingCount_22 : decode cX6_standingCount 22 = .ok (.iload_n 2, 1) := by decide +kernel
theorem dX6_standingCount_23 : decode cX6_standingCount 23 = .ok (.aaload, 1) := by decide +kernel
theorem dX6_standingCount_24 : decode cX6_standingCount 24 = .ok (.getfield 163, 3) := by decide +kernel
theorem dX6_standingCount_27 : decode cX6_standingCount 27 = .ok (.ifCond .eq 6, 3) := by decide +kernel
theorem dX6_standingCount_30 : decode cX6_standingCount 30 = .ok (.iinc 1 1, 3) := by decide +kernel
theorem dX6_standingCount_33 : decode cX6_standingCount 33 = .ok (.iinc 2 1, 3) := by decide +kernel
theorem dX6_standingCount_36 : decode cX6_standingCount 36 = .ok (.goto (-32), 3) := by decide +kernel
theorem dX6_standingCount_39 : decode cX6_standingCount 39 = .ok (.iload_n 1, 1) := by decide +kernel
theorem dX6_standingCount_40 : decode cX6_standingCount 40 = .ok (.ireturn, 1) := by decide +kernel
theorem dX6_standingOf_0 : decode cX6_standingOf 0 = .ok (.iconst 0, 1) := by decide +kernel
theorem dX6_standingOf_1 : decode cX6_standingOf 1 = .ok (.istore_n 2, 1) := by decide +kernel
theorem dX6_standingOf_2 : decode cX6_standingOf 2 = .ok (.iconst 0, 1) := by decide +kernel
theorem dX6_standingOf_3 : decode cX6_standingOf 3 = .ok (.istore_n 3, 1) := by decide +kernel
theorem dX6_standingOf_4 : decode cX6_standingOf 4 = .ok (.iload_n 3, 1) := by decide +kernel
theorem dX6_standingOf_5 : decode cX6_standingOf 5 = .ok (.bipush 20, 2) := by decide +kernel
theorem dX6_standingOf_7 : decode cX6_standingOf 7 = .ok (.if_icmp .ge 45, 3) := by decide +kernel
theorem dX6_standingOf_10 : decode cX6_standingOf 10 = .ok (.iload_n 3, 1) := by decide +kernel
theorem dX6_standingOf_11 : decode cX6_standingOf 11 = .ok (.aload_n 0, 1) := by decide +kernel
theorem dX6_standingOf_12 : decode cX6_standingOf 12 = .ok (.getfield 40, 3) := by decide +kernel
theorem dX6_standingOf_15 : decode cX6_standingOf 15 = .ok (.if_icmp .ge 37, 3) := by decide +kernel
theorem dX6_standingOf_18 : decode cX6_standingOf 18 = .ok (.aload_n 0, 1) := by decide +kernel
theorem dX6_standingOf_19 : decode cX6_standingOf 19 = .ok (.getfield 25, 3) := by decide +kernel
theorem dX6_standingOf_22 : decode cX6_standingOf 22 = .ok (.iload_n 3, 1) := by decide +kernel
theorem dX6_standingOf_23 : decode cX6_standingOf 23 = .ok (.aaload, 1) := by decide +kernel
theorem dX6_standingOf_24 : decode cX6_standingOf 24 = .ok (.getfield 163, 3) := by decide +kernel
theorem dX6_standingOf_27 : decode cX6_standingOf 27 = .ok (.ifCond .eq 19, 3) := by decide +kernel
theorem dX6_standingOf_30 : decode cX6_standingOf 30 = .ok (.aload_n 0, 1) := by decide +kernel
theorem dX6_standingOf_31 : decode cX6_standingOf 31 = .ok (.getfield 25, 3) := by decide +kernel
theorem dX6_standingOf_34 : decode cX6_standingOf 34 = .ok (.iload_n 3, 1) := by decide +kernel
theorem dX6_standingOf_35 : decode cX6_standingOf 35 = .ok (.aaload, 1) := by decide +kernel
theorem dX6_standingOf_36 : decode cX6_standingOf 36 = .ok (.getfield 138, 3) := by decide +kernel
theorem dX6_standingOf_39 : decode cX6_standingOf 39 = .ok (.iload_n 1, 1) := by decide +kernel
theorem dX6_standingOf_40 : decode cX6_standingOf 40 = .ok (.if_icmp .ne 6, 3) := by decide +kernel
theorem dX6_standingOf_43 : decode cX6_standingOf 43 = .ok (.iinc 2 1, 3) := by decide +kernel
theorem dX6_standingOf_46 : decode cX6_standingOf 46 = .ok (.iinc 3 1, 3) := by decide +kernel
theorem dX6_standingOf_49 : decode cX6_standingOf 49 = .ok (.goto (-45), 3) := by decide +kernel
theorem dX6_standingOf_52 : decode cX6_standingOf 52 = .ok (.iload_n 2, 1) := by decide +kernel
theorem dX6_standingOf_53 : decode cX6_standingOf 53 = .ok (.ireturn, 1) := by decide +kernel
theorem dX6_finesByNotices_0 : decode cX6_finesByNotices 0 = .ok (.iconst 0, 1) := by decide +kernel
theorem dX6_finesByNotices_1 : decode cX6_finesByNotices 1 = .ok (.istore_n 2, 1) := by decide +kernel
theorem dX6_finesByNotices_2 : decode cX6_finesByNotices 2 = .ok (.iconst 0, 1) := by decide +kernel
theorem dX6_finesByNotices_3 : decode cX6_finesByNotices 3 = .ok (.istore_n 3, 1) := by decide +kernel
theorem dX6_finesByNotices_4 : decode cX6_finesByNotices 4 = .ok (.iload_n 3, 1) := by decide +kernel
theorem dX6_finesByNotices_5 : decode cX6_finesByNotices 5 = .ok (.bipush 20, 2) := by decide +kernel
theorem dX6_finesByNotices_7 : decode cX6_finesByNotices 7 = .ok (.if_icmp .ge 54, 3) := by decide +kernel
theorem dX6_finesByNotices_10 : decode cX6_finesByNotices 10 = .ok (.iload_n 3, 1) := by decide +kernel
theorem dX6_finesByNotices_11 : decode cX6_finesByNotices 11 = .ok (.aload_n 0, 1) := by decide +kernel
theorem dX6_finesByNotices_12 : decode cX6_finesByNotices 12 = .ok (.getfield 40, 3) := by decide +kernel
theorem dX6_finesByNotices_15 : decode cX6_finesByNotices 15 = .ok (.if_icmp .ge 46, 3) := by decide +kernel
theorem dX6_finesByNotices_18 : decode cX6_finesByNotices 18 = .ok (.aload_n 0, 1) := by decide +kernel
theorem dX6_finesByNotices_19 : decode cX6_finesByNotices 19 = .ok (.getfield 25, 3) := by decide +kernel
theorem dX6_finesByNotices_22 : decode cX6_finesByNotices 22 = .ok (.iload_n 3, 1) := by decide +kernel
theorem dX6_finesByNotices_23 : decode cX6_finesByNotices 23 = .ok (.aaload, 1) := by decide +kernel
theorem dX6_finesByNotices_24 : decode cX6_finesByNotices 24 = .ok (.getfield 163, 3) := by decide +kernel
theorem dX6_finesByNotices_27 : decode cX6_finesByNotices 27 = .ok (.ifCond .eq 28, 3) := by decide +kernel
theorem dX6_finesByNotices_30 : decode cX6_finesByNotices 30 = .ok (.aload_n 0, 1) := by decide +kernel
theorem dX6_finesByNotices_31 : decode cX6_finesByNotices 31 = .ok (.getfield 25, 3) := by decide +kernel
theorem dX6_finesByNotices_34 : decode cX6_finesByNotices 34 = .ok (.iload_n 3, 1) := by decide +kernel
theorem dX6_finesByNotices_35 : decode cX6_finesByNotices 35 = .ok (.aaload, 1) := by decide +kernel
theorem dX6_finesByNotices_36 : decode cX6_finesByNotices 36 = .ok (.getfield 138, 3) := by decide +kernel
theorem dX6_finesByNotices_39 : decode cX6_finesByNotices 39 = .ok (.iload_n 1, 1) := by decide +kernel
theorem dX6_finesByNotices_40 : decode cX6_finesByNotices 40 = .ok (.if_icmp .ne 15, 3) := by decide +kernel
theorem dX6_finesByNotices_43 : decode cX6_finesByNotices 43 = .ok (.iload_n 2, 1) := by decide +kernel
theorem dX6_finesByNotices_44 : decode cX6_finesByNotices 44 = .ok (.aload_n 0, 1) := by decide +kernel
theorem dX6_finesByNotices_45 : decode cX6_finesByNotices 45 = .ok (.getfield 25, 3) := by decide +kernel
theorem dX6_finesByNotices_48 : decode cX6_finesByNotices 48 = .ok (.iload_n 3, 1) := by decide +kernel
theorem dX6_finesByNotices_49 : decode cX6_finesByNotices 49 = .ok (.aaload, 1) := by decide +kernel
theorem dX6_finesByNotices_50 : decode cX6_finesByNotices 50 = .ok (.getfield 144, 3) := by decide +kernel
theorem dX6_finesByNotices_53 : decode cX6_finesByNotices 53 = .ok (.iadd, 1) := by decide +kernel
theorem dX6_finesByNotices_54 : decode cX6_finesByNotices 54 = .ok (.istore_n 2, 1) := by decide +kernel
theorem dX6_finesByNotices_55 : decode cX6_finesByNotices 55 = .ok (.iinc 3 1, 3) := by decide +kernel
theorem dX6_finesByNotices_58 : decode cX6_finesByNotices 58 = .ok (.goto (-54), 3) := by decide +kernel
theorem dX6_finesByNotices_61 : decode cX6_finesByNotices 61 = .ok (.iload_n 2, 1) := by decide +kernel
theorem dX6_finesByNotices_62 : decode cX6_finesByNotices 62 = .ok (.ireturn, 1) := by decide +kernel
theorem dX6_mostFined_0 : decode cX6_mostFined 0 = .ok (.iconst (-1), 1) := by decide +kernel
theorem dX6_mostFined_1 : decode cX6_mostFined 1 = .ok (.istore_n 1, 1) := by decide +kernel
theorem dX6_mostFined_2 : decode cX6_mostFined 2 = .ok (.iconst 0, 1) := by decide +kernel
theorem dX6_mostFined_3 : decode cX6_mostFined 3 = .ok (.istore_n 2, 1) := by decide +kernel
theorem dX6_mostFined_4 : decode cX6_mostFined 4 = .ok (.iconst 0, 1) := by decide +kernel
theorem dX6_mostFined_5 : decode cX6_mostFined 5 = .ok (.istore_n 3, 1) := by decide +kernel
theorem dX6_mostFined_6 : decode cX6_mostFined 6 = .ok (.iload_n 3, 1) := by decide +kernel
theorem dX6_mostFined_7 : decode cX6_mostFined 7 = .ok (.bipush 8, 2) := by decide +kernel
theorem dX6_mostFined_9 : decode cX6_mostFined 9 = .ok (.if_icmp .ge 27, 3) := by decide +kernel
theorem dX6_mostFined_12 : decode cX6_mostFined 12 = .ok (.aload_n 0, 1) := by decide +kernel
theorem dX6_mostFined_13 : decode cX6_mostFined 13 = .ok (.iload_n 3, 1) := by decide +kernel
theorem dX6_mostFined_14 : decode cX6_mostFined 14 = .ok (.invokevirtual 175, 3) := by decide +kernel
theorem dX6_mostFined_17 : decode cX6_mostFined 17 = .ok (.istore 4, 2) := by decide +kernel
theorem dX6_mostFined_19 : decode cX6_mostFined 19 = .ok (.iload 4, 2) := by decide +kernel
theorem dX6_mostFined_21 : decode cX6_mostFined 21 = .ok (.iload_n 2, 1) := by decide +kernel
theorem dX6_mostFined_22 : decode cX6_mostFined 22 = .ok (.if_icmp .le 8, 3) := by decide +kernel
theorem dX6_mostFined_25 : decode cX6_mostFined 25 = .ok (.iload 4, 2) := by decide +kernel
theorem dX6_mostFined_27 : decode cX6_mostFined 27 = .ok (.istore_n 2, 1) := by decide +kernel
theorem dX6_mostFined_28 : decode cX6_mostFined 28 = .ok (.iload_n 3, 1) := by decide +kernel
theorem dX6_mostFined_29 : decode cX6_mostFined 29 = .ok (.istore_n 1, 1) := by decide +kernel
theorem dX6_mostFined_30 : decode cX6_mostFined 30 = .ok (.iinc 3 1, 3) := by decide +kernel
theorem dX6_mostFined_33 : decode cX6_mostFined 33 = .ok (.goto (-27), 3) := by decide +kernel
theorem dX6_mostFined_36 : decode cX6_mostFined 36 = .ok (.iload_n 1, 1) := by decide +kernel
theorem dX6_mostFined_37 : decode cX6_mostFined 37 = .ok (.ireturn, 1) := by decide +kernel
theorem dX6_leastErring_0 : decode cX6_leastErring 0 = .ok (.iconst (-1), 1) := by decide +kernel
theorem dX6_leastErring_1 : decode cX6_leastErring 1 = .ok (.istore_n 1, 1) := by decide +kernel
theorem dX6_leastErring_2 : decode cX6_leastErring 2 = .ok (.iconst 0, 1) := by decide +kernel
theorem dX6_leastErring_3 : decode cX6_leastErring 3 = .ok (.istore_n 2, 1) := by decide +kernel
theorem dX6_leastErring_4 : decode cX6_leastErring 4 = .ok (.iload_n 2, 1) := by decide +kernel
theorem dX6_leastErring_5 : decode cX6_leastErring 5 = .ok (.iconst 3, 1) := by decide +kernel
theorem dX6_leastErring_6 : decode cX6_leastErring 6 = .ok (.if_icmp .ge 56, 3) := by decide +kernel
theorem dX6_leastErring_9 : decode cX6_leastErring 9 = .ok (.iload_n 1, 1) := by decide +kernel
theorem dX6_leastErring_10 : decode cX6_leastErring 10 = .ok (.iconst (-1), 1) := by decide +kernel
theorem dX6_leastErring_11 : decode cX6_leastErring 11 = .ok (.if_icmp .eq 21, 3) := by decide +kernel
theorem dX6_leastErring_14 : decode cX6_leastErring 14 = .ok (.aload_n 0, 1) := by decide +kernel
theorem dX6_leastErring_15 : decode cX6_leastErring 15 = .ok (.getfield 19, 3) := by decide +kernel
theorem dX6_leastErring_18 : decode cX6_leastErring 18 = .ok (.iload_n 2, 1) := by decide +kernel
theorem dX6_leastErring_19 : decode cX6_leastErring 19 = .ok (.aaload, 1) := by decide +kernel
theorem dX6_leastErring_20 : decode cX6_leastErring 20 = .ok (.aload_n 0, 1) := by decide +kernel
theorem dX6_leastErring_21 : decode cX6_leastErring 21 = .ok (.getfield 19, 3) := by decide +kernel
theorem dX6_leastErring_24 : decode cX6_leastErring 24 = .ok (.iload_n 1, 1) := by decide +kernel
theorem dX6_leastErring_25 : decode cX6_leastErring 25 = .ok (.aaload, 1) := by decide +kernel
theorem dX6_leastErring_26 : decode cX6_leastErring 26 = .ok (.invokevirtual 178, 3) := by decide +kernel
theorem dX6_leastErring_29 : decode cX6_leastErring 29 = .ok (.ifCond .eq 7, 3) := by decide +kernel
theorem dX6_leastErring_32 : decode cX6_leastErring 32 = .ok (.iconst 1, 1) := by decide +kernel
theorem dX6_leastErring_33 : decode cX6_leastErring 33 = .ok (.goto 4, 3) := by decide +kernel
theorem dX6_leastErring_36 : decode cX6_leastErring 36 = .ok (.iconst 0, 1) := by decide +kernel
theorem dX6_leastErring_37 : decode cX6_leastErring 37 = .ok (.istore_n 3, 1) := by decide +kernel
theorem dX6_leastErring_38 : decode cX6_leastErring 38 = .ok (.aload_n 0, 1) := by decide +kernel
theorem dX6_leastErring_39 : decode cX6_leastErring 39 = .ok (.getfield 19, 3) := by decide +kernel
theorem dX6_leastErring_42 : decode cX6_leastErring 42 = .ok (.iload_n 2, 1) := by decide +kernel
theorem dX6_leastErring_43 : decode cX6_leastErring 43 = .ok (.aaload, 1) := by decide +kernel
theorem dX6_leastErring_44 : decode cX6_leastErring 44 = .ok (.getfield 182, 3) := by decide +kernel
theorem dX6_leastErring_47 : decode cX6_leastErring 47 = .ok (.ifCond .le 9, 3) := by decide +kernel
theorem dX6_leastErring_50 : decode cX6_leastErring 50 = .ok (.iload_n 3, 1) := by decide +kernel
theorem dX6_leastErring_51 : decode cX6_leastErring 51 = .ok (.ifCond .eq 5, 3) := by decide +kernel
theorem dX6_leastErring_54 : decode cX6_leastErring 54 = .ok (.iload_n 2, 1) := by decide +kernel
theorem dX6_leastErring_55 : decode cX6_leastErring 55 = .ok (.istore_n 1, 1) := by decide +kernel
theorem dX6_leastErring_56 : decode cX6_leastErring 56 = .ok (.iinc 2 1, 3) := by decide +kernel
theorem dX6_leastErring_59 : decode cX6_leastErring 59 = .ok (.goto (-55), 3) := by decide +kernel
theorem dX6_leastErring_62 : decode cX6_leastErring 62 = .ok (.iload_n 1, 1) := by decide +kernel
theorem dX6_leastErring_63 : decode cX6_leastErring 63 = .ok (.ireturn, 1) := by decide +kernel
theorem dX7_init_0 : decode cX7_init 0 = .ok (.aload_n 0, 1) := by decide +kernel
theorem dX7_init_1 : decode cX7_init 1 = .ok (.invokespecial 1, 3) := by decide +kernel
theorem dX7_init_4 : decode cX7_init 4 = .ok (.aload_n 0, 1) := by decide +kernel
theorem dX7_init_5 : decode cX7_init 5 = .ok (.new 7, 3) := by decide +kernel
theorem dX7_init_8 : decode cX7_init 8 = .ok (.dup, 1) := by decide +kernel
theorem dX7_init_9 : decode cX7_init 9 = .ok (.invokespecial 9, 3) := by decide +kernel
theorem dX7_init_12 : decode cX7_init 12 = .ok (.putfield 10, 3) := by decide +kernel
theorem dX7_init_15 : decode cX7_init 15 = .ok (.aload_n 0, 1) := by decide +kernel
theorem dX7_init_16 : decode cX7_init 16 = .ok (.iconst 0, 1) := by decide +kernel
theorem dX7_init_17 : decode cX7_init 17 = .ok (.putfield 16, 3) := by decide +kernel
theorem dX7_init_20 : decode cX7_init 20 = .ok (.return_, 1) := by decide +kernel
theorem dX8_init_0 : decode cX8_init 0 = .ok (.aload_n 0, 1) := by decide +kernel
theorem dX8_init_1 : decode cX8_init 1 = .ok (.invokespecial 1, 3) := by decide +kernel
theorem dX8_init_4 : decode cX8_init 4 = .ok (.aload_n 0, 1) := by decide +kernel
theorem dX8_init_5 : decode cX8_init 5 = .ok (.new 7, 3) := by decide +kernel
theorem dX8_init_8 : decode cX8_init 8 = .ok (.dup, 1) := by decide +kernel
theorem dX8_init_9 : decode cX8_init 9 = .ok (.invokespecial 9, 3) := by decide +kernel
theorem dX8_init_12 : decode cX8_init 12 = .ok (.putfield 10, 3) := by decide +kernel
theorem dX8_init_15 : decode cX8_init 15 = .ok (.aload_n 0, 1) := by decide +kernel
theorem dX8_init_16 : decode cX8_init 16 = .ok (.new 7, 3) := by decide +kernel
theorem dX8_init_19 : decode cX8_init 19 = .ok (.dup, 1) := by decide +kernel
theorem dX8_init_20 : decode cX8_init 20 = .ok (.invokespecial 9, 3) := by decide +kernel
theorem dX8_init_23 : decode cX8_init 23 = .ok (.putfield 16, 3) := by decide +kernel
theorem dX8_init_26 : decode cX8_init 26 = .ok (.aload_n 0, 1) := by decide +kernel
theorem dX8_init_27 : decode cX8_init 27 = .ok (.new 19, 3) := by decide +kernel
theorem dX8_init_30 : decode cX8_init 30 = .ok (.dup, 1) := by decide +kernel
theorem dX8_init_31 : decode cX8_init 31 = .ok (.invokespecial 21, 3) := by decide +kernel
theorem dX8_init_34 : decode cX8_init 34 = .ok (.putfield 22, 3) := by decide +kernel
theorem dX8_init_37 : decode cX8_init 37 = .ok (.aload_n 0, 1) := by decide +kernel
theorem dX8_init_38 : decode cX8_init 38 = .ok (.iconst 2, 1) := by decide +kernel
theorem dX8_init_39 : decode cX8_init 39 = .ok (.anewarray 26, 3) := by decide +kernel
theorem dX8_init_42 : decode cX8_init 42 = .ok (.putfield 28, 3) := by decide +kernel
theorem dX8_init_45 : decode cX8_init 45 = .ok (.aload_n 0, 1) := by decide +kernel
theorem dX8_init_46 : decode cX8_init 46 = .ok (.new 32, 3) := by decide +kernel
theorem dX8_init_49 : decode cX8_init 49 = .ok (.dup, 1) := by decide +kernel
theorem dX8_init_50 : decode cX8_init 50 = .ok (.invokespecial 34, 3) := by decide +kernel
theorem dX8_init_53 : decode cX8_init 53 = .ok (.putfield 35, 3) := by decide +kernel
theorem dX8_init_56 : decode cX8_init 56 = .ok (.aload_n 0, 1) := by decide +kernel
theorem dX8_init_57 : decode cX8_init 57 = .ok (.bipush 8, 2) := by decide +kernel
theorem dX8_init_59 : decode cX8_init 59 = .ok (.newarray .int, 2) := by decide +kernel
theorem dX8_init_61 : decode cX8_init 61 = .ok (.putfield 39, 3) := by decide +kernel
theorem dX8_init_64 : decode cX8_init 64 = .ok (.iconst 0, 1) := by decide +kernel
theorem dX8_init_65 : decode cX8_init 65 = .ok (.istore_n 1, 1) := by decide +kernel
theorem dX8_init_66 : decode cX8_init 66 = .ok (.iload_n 1, 1) := by decide +kernel
theorem dX8_init_67 : decode cX8_init 67 = .ok (.iconst 2, 1) := by decide +kernel
theorem dX8_init_68 : decode cX8_init 68 = .ok (.if_icmp .ge 22, 3) := by decide +kernel
theorem dX8_init_71 : decode cX8_init 71 = .ok (.aload_n 0, 1) := by decide +kernel
theorem dX8_init_72 : decode cX8_init 72 = .ok (.getfield 28, 3) := by decide +kernel
theorem dX8_init_75 : decode cX8_init 75 = .ok (.iload_n 1, 1) := by decide +kernel
theorem dX8_init_76 : decode cX8_init 76 = .ok (.new 26, 3) := by decide +kernel
theorem dX8_init_79 : decode cX8_init 79 = .ok (.dup, 1) := by decide +kernel
theorem dX8_init_80 : decode cX8_init 80 = .ok (.invokespecial 43, 3) := by decide +kernel
theorem dX8_init_83 : decode cX8_init 83 = .ok (.aastore, 1) := by decide +kernel
theorem dX8_init_84 : decode cX8_init 84 = .ok (.iinc 1 1, 3) := by decide +kernel
theorem dX8_init_87 : decode cX8_init 87 = .ok (.goto (-21), 3) := by decide +kernel
theorem dX8_init_90 : decode cX8_init 90 = .ok (.return_, 1) := by decide +kernel
theorem dX8_setChimney_0 : decode cX8_setChimney 0 = .ok (.aload_n 0, 1) := by decide +kernel
theorem dX8_setChimney_1 : decode cX8_setChimney 1 = .ok (.getfield 10, 3) := by decide +kernel
theorem dX8_setChimney_4 : decode cX8_setChimney 4 = .ok (.iload_n 1, 1) := by decide +kernel
theorem dX8_setChimney_5 : decode cX8_setChimney 5 = .ok (.invokestatic 44, 3) := by decide +kernel
theorem dX8_setChimney_8 : decode cX8_setChimney 8 = .ok (.astore 6, 2) := by decide +kernel
theorem dX8_setChimney_10 : decode cX8_setChimney 10 = .ok (.iload_n 2, 1) := by decide +kernel
theorem dX8_setChimney_11 : decode cX8_setChimney 11 = .ok (.iconst 0, 1) := by decide +kernel
theorem dX8_setChimney_12 : decode cX8_setChimney 12 = .ok (.bipush 9, 2) := by decide +kernel
theorem dX8_setChimney_14 : decode cX8_setChimney 14 = .ok (.invokestatic 48, 3) := by decide +kernel
theorem dX8_setChimney_17 : decode cX8_setChimney 17 = .ok (.ifCond .eq 16, 3) := by decide +kernel
theorem dX8_setChimney_20 : decode cX8_setChimney 20 = .ok (.iload_n 3, 1) := by decide +kernel
theorem dX8_setChimney_21 : decode cX8_setChimney 21 = .ok (.iconst 0, 1) := by decide +kernel
theorem dX8_setChimney_22 : decode cX8_setChimney 22 = .ok (.iconst 2, 1) := by decide +kernel
theorem dX8_setChimney_23 : decode cX8_setChimney 23 = .ok (.invokestatic 48, 3) := by decide +kernel
theorem dX8_setChimney_26 : decode cX8_setChimney 26 = .ok (.ifCond .eq 7, 3) := by decide +kernel
theorem dX8_setChimney_29 : decode cX8_setChimney 29 = .ok (.iconst 1, 1) := by decide +kernel
theorem dX8_setChimney_30 : decode cX8_setChimney 30 = .ok (.goto 4, 3) := by decide +kernel
theorem dX8_setChimney_33 : decode cX8_setChimney 33 = .ok (.iconst 0, 1) := by decide +kernel
theorem dX8_setChimney_34 : decode cX8_setChimney 34 = .ok (.invokestatic 52, 3) := by decide +kernel
theorem dX8_setChimney_37 : decode cX8_setChimney 37 = .ok (.iload 4, 2) := by decide +kernel
theorem dX8_setChimney_39 : decode cX8_setChimney 39 = .ok (.iconst 2, 1) := by decide +kernel
theorem dX8_setChimney_40 : decode cX8_setChimney 40 = .ok (.bipush 12, 2) := by decide +kernel
theorem dX8_setChimney_42 : decode cX8_setChimney 42 = .ok (.invokestatic 48, 3) := by decide +kernel
theorem dX8_setChimney_45 : decode cX8_setChimney 45 = .ok (.ifCond .eq 18, 3) := by decide +kernel
theorem dX8_setChimney_48 : decode cX8_setChimney 48 = .ok (.iload 5, 2) := by decide +kernel
theorem dX8_setChimney_50 : decode cX8_setChimney 50 = .ok (.iconst 0, 1) := by decide +kernel
theorem dX8_setChimney_51 : decode cX8_setChimney 51 = .ok (.bipush 11, 2) := by decide +kernel
theorem dX8_setChimney_53 : decode cX8_setChimney 53 = .ok (.invokestatic 48, 3) := by decide +kernel
theorem dX8_setChimney_56 : decode cX8_setChimney 56 = .ok (.ifCond .eq 7, 3) := by decide +kernel
theorem dX8_setChimney_59 : decode cX8_setChimney 59 = .ok (.iconst 1, 1) := by decide +kernel
theorem dX8_setChimney_60 : decode cX8_setChimney 60 = .ok (.goto 4, 3) := by decide +kernel
theorem dX8_setChimney_63 : decode cX8_setChimney 63 = .ok (.iconst 0, 1) := by decide +kernel
theorem dX8_setChimney_64 : decode cX8_setChimney 64 = .ok (.invokestatic 52, 3) := by decide +kernel
theorem dX8_setChimney_67 : decode cX8_setChimney 67 = .ok (.aload_n 0, 1) := by decide +kernel
theorem dX8_setChimney_68 : decode cX8_setChimney 68 = .ok (.getfield 22, 3) := by decide +kernel
theorem dX8_setChimney_71 : decode cX8_setChimney 71 = .ok (.aload_n 0, 1) := by decide +kernel
theorem dX8_setChimney_72 : decode cX8_setChimney 72 = .ok (.getfield 10, 3) := by decide +kernel
theorem dX8_setChimney_75 : decode cX8_setChimney 75 = .ok (.invokevirtual 56, 3) := by decide +kernel
theorem dX8_setChimney_78 : decode cX8_setChimney 78 = .ok (.aload 6, 2) := by decide +kernel
theorem dX8_setChimney_80 : decode cX8_setChimney 80 = .ok (.iload_n 2, 1) := by decide +kernel
theorem dX8_setChimney_81 : decode cX8_setChimney 81 = .ok (.putfield 60, 3) := by decide +kernel
theorem dX8_setChimney_84 : decode cX8_setChimney 84 = .ok (.aload 6, 2) := by decide +kernel
theorem dX8_setChimney_86 : decode cX8_setChimney 86 = .ok (.iload_n 3, 1) := by decide +kernel
theorem dX8_setChimney_87 : decode cX8_setChimney 87 = .ok (.putfield 66, 3) := by decide +kernel
theorem dX8_setChimney_90 : decode cX8_setChimney 90 = .ok (.aload 6, 2) := by decide +kernel
theorem dX8_setChimney_92 : decode cX8_setChimney 92 = .ok (.iload 4, 2) := by decide +kernel
theorem dX8_setChimney_94 : decode cX8_setChimney 94 = .ok (.putfield 69, 3) := by decide +kernel
theorem dX8_setChimney_97 : decode cX8_setChimney 97 = .ok (.aload 6, 2) := by decide +kernel
theorem dX8_setChimney_99 : decode cX8_setChimney 99 = .ok (.iload 5, 2) := by decide +kernel
theorem dX8_setChimney_101 : decode cX8_setChimney 101 = .ok (.putfield 72, 3) := by decide +kernel
theorem dX8_setChimney_104 : decode cX8_setChimney 104 = .ok (.aload 6, 2) := by decide +kernel
theorem dX8_setChimney_106 : decode cX8_setChimney 106 = .ok (.aload_n 0, 1) := by decide +kernel
theorem dX8_setChimney_107 : decode cX8_setChimney 107 = .ok (.getfield 10, 3) := by decide +kernel
theorem dX8_setChimney_110 : decode cX8_setChimney 110 = .ok (.getfield 75, 3) := by decide +kernel
theorem dX8_setChimney_113 : decode cX8_setChimney 113 = .ok (.invokevirtual 78, 3) := by decide +kernel
theorem dX8_setChimney_116 : decode cX8_setChimney 116 = .ok (.ireturn, 1) := by decide +kernel
theorem dX8_setGrey_0 : decode cX8_setGrey 0 = .ok (.iload_n 1, 1) := by decide +kernel
theorem dX8_setGrey_1 : decode cX8_setGrey 1 = .ok (.iconst 0, 1) := by decide +kernel
theorem dX8_setGrey_2 : decode cX8_setGrey 2 = .ok (.bipush 23, 2) := by decide +kernel
theorem dX8_setGrey_4 : decode cX8_setGrey 4 = .ok (.invokestatic 48, 3) := by decide +kernel
theorem dX8_setGrey_7 : decode cX8_setGrey 7 = .ok (.ifCond .eq 16, 3) := by decide +kernel
theorem dX8_setGrey_10 : decode cX8_setGrey 10 = .ok (.iload_n 2, 1) := by decide +kernel
theorem dX8_setGrey_11 : decode cX8_setGrey 11 = .ok (.iconst 0, 1) := by decide +kernel
theorem dX8_setGrey_12 : decode cX8_setGrey 12 = .ok (.iconst 4, 1) := by decide +kernel
theorem dX8_setGrey_13 : decode cX8_setGrey 13 = .ok (.invokestatic 48, 3) := by decide +kernel
theorem dX8_setGrey_16 : decode cX8_setGrey 16 = .ok (.ifCond .eq 7, 3) := by decide +kernel
theorem dX8_setGrey_19 : decode cX8_setGrey 19 = .ok (.iconst 1, 1) := by decide +kernel
theorem dX8_setGrey_20 : decode cX8_setGrey 20 = .ok (.goto 4, 3) := by decide +kernel
theorem dX8_setGrey_23 : decode cX8_setGrey 23 = .ok (.iconst 0, 1) := by decide +kernel
theorem dX8_setGrey_24 : decode cX8_setGrey 24 = .ok (.invokestatic 52, 3) := by decide +kernel
theorem dX8_setGrey_27 : decode cX8_setGrey 27 = .ok (.aload_n 0, 1) := by decide +kernel
theorem dX8_setGrey_28 : decode cX8_setGrey 28 = .ok (.getfield 22, 3) := by decide +kernel
theorem dX8_setGrey_31 : decode cX8_setGrey 31 = .ok (.aload_n 0, 1) := by decide +kernel
theorem dX8_setGrey_32 : decode cX8_setGrey 32 = .ok (.getfield 10, 3) := by decide +kernel
theorem dX8_setGrey_35 : decode cX8_setGrey 35 = .ok (.invokevirtual 56, 3) := by decide +kernel
theorem dX8_setGrey_38 : decode cX8_setGrey 38 = .ok (.aload_n 0, 1) := by decide +kernel
theorem dX8_setGrey_39 : decode cX8_setGrey 39 = .ok (.getfield 10, 3) := by decide +kernel
theorem dX8_setGrey_42 : decode cX8_setGrey 42 = .ok (.iload_n 1, 1) := by decide +kernel
theorem dX8_setGrey_43 : decode cX8_setGrey 43 = .ok (.invokevirtual 82, 3) := by decide +kernel
theorem dX8_setGrey_46 : decode cX8_setGrey 46 = .ok (.istore_n 3, 1) := by decide +kernel
theorem dX8_setGrey_47 : decode cX8_setGrey 47 = .ok (.aload_n 0, 1) := by decide +kernel
theorem dX8_setGrey_48 : decode cX8_setGrey 48 = .ok (.getfield 10, 3) := by decide +kernel
theorem dX8_setGrey_51 : decode cX8_setGrey 51 = .ok (.iload_n 1, 1) := by decide +kernel
theorem dX8_setGrey_52 : decode cX8_setGrey 52 = .ok (.iload_n 2, 1) := by decide +kernel
theorem dX8_setGrey_53 : decode cX8_setGrey 53 = .ok (.invokevirtual 85, 3) := by decide +kernel
theorem dX8_setGrey_56 : decode cX8_setGrey 56 = .ok (.iload_n 3, 1) := by decide +kernel
theorem dX8_setGrey_57 : decode cX8_setGrey 57 = .ok (.ireturn, 1) := by decide +kernel
theorem dX8_watch_0 : decode cX8_watch 0 = .ok (.aload_n 0, 1) := by decide +kernel
theorem dX8_watch_1 : decode cX8_watch 1 = .ok (.iload_n 1, 1) := by decide +kernel
theorem dX8_watch_2 : decode cX8_watch 2 = .ok (.invokevirtual 89, 3) := by decide +kernel
theorem dX8_watch_5 : decode cX8_watch 5 = .ok (.astore_n 3, 1) := by decide +kernel
theorem dX8_watch_6 : decode cX8_watch 6 = .ok (.iload_n 2, 1) := by decide +kernel
theorem dX8_watch_7 : decode cX8_watch 7 = .ok (.iconst (-1), 1) := by decide +kernel
theorem dX8_watch_8 : decode cX8_watch 8 = .ok (.if_icmp .eq 13, 3) := by decide +kernel
theorem dX8_watch_11 : decode cX8_watch 11 = .ok (.iload_n 2, 1) := by decide +kernel
theorem dX8_watch_12 : decode cX8_watch 12 = .ok (.iconst 0, 1) := by decide +kernel
theorem dX8_watch_13 : decode cX8_watch 13 = .ok (.bipush 7, 2) := by decide +kernel
theorem dX8_watch_15 : decode cX8_watch 15 = .ok (.invokestatic 48, 3) := by decide +kernel
theorem dX8_watch_18 : decode cX8_watch 18 = .ok (.ifCond .eq 7, 3) := by decide +kernel
theorem dX8_watch_21 : decode cX8_watch 21 = .ok (.iconst 1, 1) := by decide +kernel
theorem dX8_watch_22 : decode cX8_watch 22 = .ok (.goto 4, 3) := by decide +kernel
theorem dX8_watch_25 : decode cX8_watch 25 = .ok (.iconst 0, 1) := by decide +kernel
theorem dX8_watch_26 : decode cX8_watch 26 = .ok (.invokestatic 52, 3) := by decide +kernel
theorem dX8_watch_29 : decode cX8_watch 29 = .ok (.aload_n 0, 1) := by decide +kernel
theorem dX8_watch_30 : decode cX8_watch 30 = .ok (.getfield 22, 3) := by decide +kernel
theorem dX8_watch_33 : decode cX8_watch 33 = .ok (.aload_n 0, 1) := by decide +kernel
theorem dX8_watch_34 : decode cX8_watch 34 = .ok (.getfield 10, 3) := by decide +kernel
theorem dX8_watch_37 : decode cX8_watch 37 = .ok (.invokevirtual 56, 3) := by decide +kernel
theorem dX8_watch_40 : decode cX8_watch 40 = .ok (.aload_n 3, 1) := by decide +kernel
theorem dX8_watch_41 : decode cX8_watch 41 = .ok (.getfield 93, 3) := by decide +kernel
theorem dX8_watch_44 : decode cX8_watch 44 = .ok (.istore 4, 2) := by decide +kernel
theorem dX8_watch_46 : decode cX8_watch 46 = .ok (.aload_n 3, 1) := by decide +kernel
theorem dX8_watch_47 : decode cX8_watch 47 = .ok (.iload_n 2, 1) := by decide +kernel
theorem dX8_watch_48 : decode cX8_watch 48 = .ok (.putfield 93, 3) := by decide +kernel
theorem dX8_watch_51 : decode cX8_watch 51 = .ok (.iload 4, 2) := by decide +kernel
theorem dX8_watch_53 : decode cX8_watch 53 = .ok (.ireturn, 1) := by decide +kernel
theorem dX8_setBias_0 : decode cX8_setBias 0 = .ok (.aload_n 0, 1) := by decide +kernel
theorem dX8_setBias_1 : decode cX8_setBias 1 = .ok (.iload_n 1, 1) := by decide +kernel
theorem dX8_setBias_2 : decode cX8_setBias 2 = .ok (.invokevirtual 89, 3) := by decide +kernel
theorem dX8_setBias_5 : decode cX8_setBias 5 = .ok (.astore_n 3, 1) := by decide +kernel
theorem dX8_setBias_6 : decode cX8_setBias 6 = .ok (.iload_n 2, 1) := by decide +kernel
theorem dX8_setBias_7 : decode cX8_setBias 7 = .ok (.iconst (-1), 1) := by decide +kernel
theorem dX8_setBias_8 : decode cX8_setBias 8 = .ok (.iconst 1, 1) := by decide +kernel
theorem dX8_setBias_9 : decode cX8_setBias 9 = .ok (.invokestatic 48, 3) := by decide +kernel
theorem dX8_setBias_12 : decode cX8_setBias 12 = .ok (.invokestatic 52, 3) := by decide +kernel
theorem dX8_setBias_15 : decode cX8_setBias 15 = .ok (.aload_n 0, 1) := by decide +kernel
theorem dX8_setBias_16 : decode cX8_setBias 16 = .ok (.getfield 22, 3) := by decide +kernel
theorem dX8_setBias_19 : decode cX8_setBias 19 = .ok (.aload_n 0, 1) := by decide +kernel
theorem dX8_setBias_20 : decode cX8_setBias 20 = .ok (.getfield 10, 3) := by decide +kernel
theorem dX8_setBias_23 : decode cX8_setBias 23 = .ok (.invokevirtual 56, 3) := by decide +kernel
theorem dX8_setBias_26 : decode cX8_setBias 26 = .ok (.aload_n 3, 1) := by decide +kernel
theorem dX8_setBias_27 : decode cX8_setBias 27 = .ok (.getfield 98, 3) := by decide +kernel
theorem dX8_setBias_30 : decode cX8_setBias 30 = .ok (.istore 4, 2) := by decide +kernel
theorem dX8_setBias_32 : decode cX8_setBias 32 = .ok (.aload_n 3, 1) := by decide +kernel
theorem dX8_setBias_33 : decode cX8_setBias 33 = .ok (.iload_n 2, 1) := by decide +kernel
theorem dX8_setBias_34 : decode cX8_setBias 34 = .ok (.putfield 98, 3) := by decide +kernel
theorem dX8_setBias_37 : decode cX8_setBias 37 = .ok (.iload 4, 2) := by decide +kernel
theorem dX8_setBias_39 : decode cX8_setBias 39 = .ok (.iconst 1, 1) := by decide +kernel
theorem dX8_setBias_40 : decode cX8_setBias 40 = .ok (.iadd, 1) := by decide +kernel
theorem dX8_setBias_41 : decode cX8_setBias 41 = .ok (.ireturn, 1) := by decide +kernel
theorem dX8_setLimit_0 : decode cX8_setLimit 0 = .ok (.iload_n 1, 1) := by decide +kernel
theorem dX8_setLimit_1 : decode cX8_setLimit 1 = .ok (.iconst 1, 1) := by decide +kernel
theorem dX8_setLimit_2 : decode cX8_setLimit 2 = .ok (.iconst 5, 1) := by decide +kernel
theorem dX8_setLimit_3 : decode cX8_setLimit 3 = .ok (.invokestatic 48, 3) := by decide +kernel
theorem dX8_setLimit_6 : decode cX8_setLimit 6 = .ok (.ifCond .eq 17, 3) := by decide +kernel
theorem dX8_setLimit_9 : decode cX8_setLimit 9 = .ok (.iload_n 2, 1) := by decide +kernel
theorem dX8_setLimit_10 : decode cX8_setLimit 10 = .ok (.iconst 1, 1) := by decide +kernel
theorem dX8_setLimit_11 : decode cX8_setLimit 11 = .ok (.bipush 8, 2) := by decide +kernel
theorem dX8_setLimit_13 : decode cX8_setLimit 13 = .ok (.invokestatic 48, 3) := by decide +kernel
theorem dX8_setLimit_16 : decode cX8_setLimit 16 = .ok (.ifCond .eq 7, 3) := by decide +kernel
theorem dX8_setLimit_19 : decode cX8_setLimit 19 = .ok (.iconst 1, 1) := by decide +kernel
theorem dX8_setLimit_20 : decode cX8_setLimit 20 = .ok (.goto 4, 3) := by decide +kernel
theorem dX8_setLimit_23 : decode cX8_setLimit 23 = .ok (.iconst 0, 1) := by decide +kernel
theorem dX8_setLimit_24 : decode cX8_setLimit 24 = .ok (.invokestatic 52, 3) := by decide +kernel
theorem dX8_setLimit_27 : decode cX8_setLimit 27 = .ok (.aload_n 0, 1) := by decide +kernel
theorem dX8_setLimit_28 : decode cX8_setLimit 28 = .ok (.getfield 22, 3) := by decide +kernel
theorem dX8_setLimit_31 : decode cX8_setLimit 31 = .ok (.aload_n 0, 1) := by decide +kernel
theorem dX8_setLimit_32 : decode cX8_setLimit 32 = .ok (.getfield 10, 3) := by decide +kernel
theorem dX8_setLimit_35 : decode cX8_setLimit 35 = .ok (.invokevirtual 56, 3) := by decide +kernel
theorem dX8_setLimit_38 : decode cX8_setLimit 38 = .ok (.aload_n 0, 1) := by decide +kernel
theorem dX8_setLimit_39 : decode cX8_setLimit 39 = .ok (.getfield 10, 3) := by decide +kernel
theorem dX8_setLimit_42 : decode cX8_setLimit 42 = .ok (.getfield 101, 3) := by decide +kernel
theorem dX8_setLimit_45 : decode cX8_setLimit 45 = .ok (.istore_n 3, 1) := by decide +kernel
theorem dX8_setLimit_46 : decode cX8_setLimit 46 = .ok (.aload_n 0, 1) := by decide +kernel
theorem dX8_setLimit_47 : decode cX8_setLimit 47 = .ok (.getfield 10, 3) := by decide +kernel
theorem dX8_setLimit_50 : decode cX8_setLimit 50 = .ok (.iload_n 1, 1) := by decide +kernel
theorem dX8_setLimit_51 : decode cX8_setLimit 51 = .ok (.putfield 101, 3) := by decide +kernel
theorem dX8_setLimit_54 : decode cX8_setLimit 54 = .ok (.aload_n 0, 1) := by decide +kernel
theorem dX8_setLimit_55 : decode cX8_setLimit 55 = .ok (.getfield 10, 3) := by decide +kernel
theorem dX8_setLimit_58 : decode cX8_setLimit 58 = .ok (.iload_n 2, 1) := by decide +kernel
theorem dX8_setLimit_59 : decode cX8_setLimit 59 = .ok (.putfield 104, 3) := by decide +kernel
theorem dX8_setLimit_62 : decode cX8_setLimit 62 = .ok (.iload_n 3, 1) := by decide +kernel
theorem dX8_setLimit_63 : decode cX8_setLimit 63 = .ok (.ireturn, 1) := by decide +kernel
theorem dX8_pass_0 : decode cX8_pass 0 = .ok (.iload_n 1, 1) := by decide +kernel
theorem dX8_pass_1 : decode cX8_pass 1 = .ok (.iconst 1, 1) := by decide +kernel
theorem dX8_pass_2 : decode cX8_pass 2 = .ok (.sipush 200, 3) := by decide +kernel
theorem dX8_pass_5 : decode cX8_pass 5 = .ok (.invokestatic 48, 3) := by decide +kernel
theorem dX8_pass_8 : decode cX8_pass 8 = .ok (.invokestatic 52, 3) := by decide +kernel
theorem dX8_pass_11 : decode cX8_pass 11 = .ok (.aload_n 0, 1) := by decide +kernel
theorem dX8_pass_12 : decode cX8_pass 12 = .ok (.getfield 22, 3) := by decide +kernel
theorem dX8_pass_15 : decode cX8_pass 15 = .ok (.aload_n 0, 1) := by decide +kernel
theorem dX8_pass_16 : decode cX8_pass 16 = .ok (.getfield 10, 3) := by decide +kernel
theorem dX8_pass_19 : decode cX8_pass 19 = .ok (.invokevirtual 56, 3) := by decide +kernel
theorem dX8_pass_22 : decode cX8_pass 22 = .ok (.aload_n 0, 1) := by decide +kernel
theorem dX8_pass_23 : decode cX8_pass 23 = .ok (.getfield 10, 3) := by decide +kernel
theorem dX8_pass_26 : decode cX8_pass 26 = .ok (.iload_n 1, 1) := by decide +kernel
theorem dX8_pass_27 : decode cX8_pass 27 = .ok (.invokevirtual 107, 3) := by decide +kernel
theorem dX8_pass_30 : decode cX8_pass 30 = .ok (.ireturn, 1) := by decide +kernel
theorem dX8_appeal_0 : decode cX8_appeal 0 = .ok (.aload_n 0, 1) := by decide +kernel
theorem dX8_appeal_1 : decode cX8_appeal 1 = .ok (.iload_n 1, 1) := by decide +kernel
theorem dX8_appeal_2 : decode cX8_appeal 2 = .ok (.invokevirtual 110, 3) := by decide +kernel
theorem dX8_appeal_5 : decode cX8_appeal 5 = .ok (.astore_n 2, 1) := by decide +kernel
theorem dX8_appeal_6 : decode cX8_appeal 6 = .ok (.aload_n 2, 1) := by decide +kernel
theorem dX8_appeal_7 : decode cX8_appeal 7 = .ok (.getfield 114, 3) := by decide +kernel
theorem dX8_appeal_10 : decode cX8_appeal 10 = .ok (.ifCond .eq 13, 3) := by decide +kernel
theorem dX8_appeal_13 : decode cX8_appeal 13 = .ok (.new 120, 3) := by decide +kernel
theorem dX8_appeal_16 : decode cX8_appeal 16 = .ok (.dup, 1) := by decide +kernel
theorem dX8_appeal_17 : decode cX8_appeal 17 = .ok (.ldc 122, 2) := by decide +kernel
theorem dX8_appeal_19 : decode cX8_appeal 19 = .ok (.invokespecial 124, 3) := by decide +kernel
theorem dX8_appeal_22 : decode cX8_appeal 22 = .ok (.athrow, 1) := by decide +kernel
theorem dX8_appeal_23 : decode cX8_appeal 23 = .ok (.aload_n 0, 1) := by decide +kernel
theorem dX8_appeal_24 : decode cX8_appeal 24 = .ok (.getfield 22, 3) := by decide +kernel
theorem dX8_appeal_27 : decode cX8_appeal 27 = .ok (.aload_n 0, 1) := by decide +kernel
theorem dX8_appeal_28 : decode cX8_appeal 28 = .ok (.getfield 10, 3) := by decide +kernel
theorem dX8_appeal_31 : decode cX8_appeal 31 = .ok (.invokevirtual 56, 3) := by decide +kernel
theorem dX8_appeal_34 : decode cX8_appeal 34 = .ok (.aload_n 0, 1) := by decide +kernel
theorem dX8_appeal_35 : decode cX8_appeal 35 = .ok (.getfield 10, 3) := by decide +kernel
theorem dX8_appeal_38 : decode cX8_appeal 38 = .ok (.aload_n 2, 1) := by decide +kernel
theorem dX8_appeal_39 : decode cX8_appeal 39 = .ok (.invokevirtual 127, 3) := by decide +kernel
theorem dX8_appeal_42 : decode cX8_appeal 42 = .ok (.aload_n 2, 1) := by decide +kernel
theorem dX8_appeal_43 : decode cX8_appeal 43 = .ok (.getfield 131, 3) := by decide +kernel
theorem dX8_appeal_46 : decode cX8_appeal 46 = .ok (.ifCond .ne 7, 3) := by decide +kernel
theorem dX8_appeal_49 : decode cX8_appeal 49 = .ok (.iconst 1, 1) := by decide +kernel
theorem dX8_appeal_50 : decode cX8_appeal 50 = .ok (.goto 4, 3) := by decide +kernel
theorem dX8_appeal_53 : decode cX8_appeal 53 = .ok (.iconst 0, 1) := by decide +kernel
theorem dX8_appeal_54 : decode cX8_appeal 54 = .ok (.ireturn, 1) := by decide +kernel
theorem dX8_read_0 : decode cX8_read 0 = .ok (.aload_n 0, 1) := by decide +kernel
theorem dX8_read_1 : decode cX8_read 1 = .ok (.getfield 35, 3) := by decide +kernel
theorem dX8_read_4 : decode cX8_read 4 = .ok (.invokevirtual 134, 3) := by decide +kernel
theorem dX8_read_7 : decode cX8_read 7 = .ok (.iconst (-1), 1) := by decide +kernel
theorem dX8_read_8 : decode cX8_read 8 = .ok (.if_icmp .ne 7, 3) := by decide +kernel
theorem dX8_read_11 : decode cX8_read 11 = .ok (.iconst 1, 1) := by decide +kernel
theorem dX8_read_12 : decode cX8_read 12 = .ok (.goto 4, 3) := by decide +kernel
theorem dX8_read_15 : decode cX8_read 15 = .ok (.iconst 0, 1) := by decide +kernel
theorem dX8_read_16 : decode cX8_read 16 = .ok (.invokestatic 52, 3) := by decide +kernel
theorem dX8_read_19 : decode cX8_read 19 = .ok (.aload_n 0, 1) := by decide +kernel
theorem dX8_read_20 : decode cX8_read 20 = .ok (.getfield 22, 3) := by decide +kernel
theorem dX8_read_23 : decode cX8_read 23 = .ok (.aload_n 0, 1) := by decide +kernel
theorem dX8_read_24 : decode cX8_read 24 = .ok (.getfield 10, 3) := by decide +kernel
theorem dX8_read_27 : decode cX8_read 27 = .ok (.invokevirtual 56, 3) := by decide +kernel
theorem dX8_read_30 : decode cX8_read 30 = .ok (.aload_n 0, 1) := by decide +kernel
theorem dX8_read_31 : decode cX8_read 31 = .ok (.getfield 10, 3) := by decide +kernel
theorem dX8_read_34 : decode cX8_read 34 = .ok (.getfield 138, 3) := by decide +kernel
theorem dX8_read_37 : decode cX8_read 37 = .ok (.istore_n 1, 1) := by decide +kernel
theorem dX8_read_38 : decode cX8_read 38 = .ok (.aload_n 0, 1) := by decide +kernel
theorem dX8_read_39 : decode cX8_read 39 = .ok (.getfield 35, 3) := by decide +kernel
theorem dX8_read_42 : decode cX8_read 42 = .ok (.invokevirtual 141, 3) := by decide +kernel
theorem dX8_read_45 : decode cX8_read 45 = .ok (.iconst 0, 1) := by decide +kernel
theorem dX8_read_46 : decode cX8_read 46 = .ok (.istore_n 2, 1) := by decide +kernel
theorem dX8_read_47 : decode cX8_read 47 = .ok (.iload_n 2, 1) := by decide +kernel
theorem dX8_read_48 : decode cX8_read 48 = .ok (.bipush 60, 2) := by decide +kernel
theorem dX8_read_50 : decode cX8_read 50 = .ok (.if_icmp .ge 54, 3) := by decide +kernel
theorem dX8_read_53 : decode cX8_read 53 = .ok (.aload_n 0, 1) := by decide +kernel
theorem dX8_read_54 : decode cX8_read 54 = .ok (.getfield 35, 3) := by decide +kernel
theorem dX8_read_57 : decode cX8_read 57 = .ok (.invokevirtual 144, 3) := by decide +kernel
theorem dX8_read_60 : decode cX8_read 60 = .ok (.ifCond .eq 44, 3) := by decide +kernel
theorem dX8_read_63 : decode cX8_read 63 = .ok (.aload_n 0, 1) := by decide +kernel
theorem dX8_read_64 : decode cX8_read 64 = .ok (.aload_n 0, 1) := by decide +kernel
theorem dX8_read_65 : decode cX8_read 65 = .ok (.getfield 35, 3) := by decide +kernel
theorem dX8_read_68 : decode cX8_read 68 = .ok (.getfield 148, 3) := by decide +kernel
theorem dX8_read_71 : decode cX8_read 71 = .ok (.aload_n 0, 1) := by decide +kernel
theorem dX8_read_72 : decode cX8_read 72 = .ok (.getfield 35, 3) := by decide +kernel
theorem dX8_read_75 : decode cX8_read 75 = .ok (.getfield 152, 3) := by decide +kernel
theorem dX8_read_78 : decode cX8_read 78 = .ok (.aload_n 0, 1) := by decide +kernel
theorem dX8_read_79 : decode cX8_read 79 = .ok (.getfield 35, 3) := by decide +kernel
theorem dX8_read_82 : decode cX8_read 82 = .ok (.getfield 155, 3) := by decide +kernel
theorem dX8_read_85 : decode cX8_read 85 = .ok (.invokevirtual 158, 3) := by decide +kernel
theorem dX8_read_88 : decode cX8_read 88 = .ok (.aload_n 0, 1) := by decide +kernel
theorem dX8_read_89 : decode cX8_read 89 = .ok (.getfield 35, 3) := by decide +kernel
theorem dX8_read_92 : decode cX8_read 92 = .ok (.bipush 59, 2) := by decide +kernel
theorem dX8_read_94 : decode cX8_read 94 = .ok (.invokevirtual 162, 3) := by decide +kernel
theorem dX8_read_97 : decode cX8_read 97 = .ok (.pop, 1) := by decide +kernel
theorem dX8_read_98 : decode cX8_read 98 = .ok (.iinc 2 1, 3) := by decide +kernel
theorem dX8_read_101 : decode cX8_read 101 = .ok (.goto (-54), 3) := by decide +kernel
theorem dX8_read_104 : decode cX8_read 104 = .ok (.aload_n 0, 1) := by decide +kernel
theorem dX8_read_105 : decode cX8_read 105 = .ok (.getfield 35, 3) := by decide +kernel
theorem dX8_read_108 : decode cX8_read 108 = .ok (.invokevirtual 166, 3) := by decide +kernel
theorem dX8_read_111 : decode cX8_read 111 = .ok (.aload_n 0, 1) := by decide +kernel
theorem dX8_read_112 : decode cX8_read 112 = .ok (.getfield 10, 3) := by decide +kernel
theorem dX8_read_115 : decode cX8_read 115 = .ok (.getfield 138, 3) := by decide +kernel
theorem dX8_read_118 : decode cX8_read 118 = .ok (.iload_n 1, 1) := by decide +kernel
theorem dX8_read_119 : decode cX8_read 119 = .ok (.isub, 1) := by decide +kernel
theorem dX8_read_120 : decode cX8_read 120 = .ok (.ireturn, 1) := by decide +kernel
theorem dX8_shadeOf_0 : decode cX8_shadeOf 0 = .ok (.aload_n 0, 1) := by decide +kernel
theorem dX8_shadeOf_1 : decode cX8_shadeOf 1 = .ok (.getfield 10, 3) := by decide +kernel
theorem dX8_shadeOf_4 : decode cX8_shadeOf 4 = .ok (.iload_n 1, 1) := by decide +kernel
theorem dX8_shadeOf_5 : decode cX8_shadeOf 5 = .ok (.invokestatic 44, 3) := by decide +kernel
theorem dX8_shadeOf_8 : decode cX8_shadeOf 8 = .ok (.astore_n 3, 1) := by decide +kernel
theorem dX8_shadeOf_9 : decode cX8_shadeOf 9 = .ok (.iload_n 2, 1) := by decide +kernel
theorem dX8_shadeOf_10 : decode cX8_shadeOf 10 = .ok (.invokestatic 169, 3) := by decide +kernel
theorem dX8_shadeOf_13 : decode cX8_shadeOf 13 = .ok (.invokestatic 52, 3) := by decide +kernel
theorem dX8_shadeOf_16 : decode cX8_shadeOf 16 = .ok (.aload_n 3, 1) := by decide +kernel
theorem dX8_shadeOf_17 : decode cX8_shadeOf 17 = .ok (.iload_n 2, 1) := by decide +kernel
theorem dX8_shadeOf_18 : decode cX8_shadeOf 18 = .ok (.invokevirtual 78, 3) := by decide +kernel
theorem dX8_shadeOf_21 : decode cX8_shadeOf 21 = .ok (.ireturn, 1) := by decide +kernel
theorem dX8_nextStoking_0 : decode cX8_nextStoking 0 = .ok (.aload_n 0, 1) := by decide +kernel
theorem dX8_nextStoking_1 : decode cX8_nextStoking 1 = .ok (.getfield 10, 3) := by decide +kernel
theorem dX8_nextStoking_4 : decode cX8_nextStoking 4 = .ok (.iload_n 1, 1) := by decide +kernel
theorem dX8_nextStoking_5 : decode cX8_nextStoking 5 = .ok (.invokestatic 44, 3) := by decide +kernel
theorem dX8_nextStoking_8 : decode cX8_nextStoking 8 = .ok (.astore_n 3, 1) := by decide +kernel
theorem dX8_nextStoking_9 : decode cX8_nextStoking 9 = .ok (.iload_n 2, 1) := by decide +kernel
theorem dX8_nextStoking_10 : decode cX8_nextStoking 10 = .ok (.invokestatic 169, 3) := by decide +kernel
theorem dX8_nextStoking_13 : decode cX8_nextStoking 13 = .ok (.invokestatic 52, 3) := by decide +kernel
theorem dX8_nextStoking_16 : decode cX8_nextStoking 16 = .ok (.aload_n 3, 1) := by decide +kernel
theorem dX8_nextStoking_17 : decode cX8_nextStoking 17 = .ok (.iload_n 2, 1) := by decide +kernel
theorem dX8_nextStoking_18 : decode cX8_nextStoking 18 = .ok (.invokevirtual 173, 3) := by decide +kernel
theorem dX8_nextStoking_21 : decode cX8_nextStoking 21 = .ok (.ireturn, 1) := by decide +kernel
theorem dX8_smoke_0 : decode cX8_smoke 0 = .ok (.aload_n 0, 1) := by decide +kernel
theorem dX8_smoke_1 : decode cX8_smoke 1 = .ok (.getfield 10, 3) := by decide +kernel
theorem dX8_smoke_4 : decode cX8_smoke 4 = .ok (.iload_n 1, 1) := by decide +kernel
theorem dX8_smoke_5 : decode cX8_smoke 5 = .ok (.invokestatic 44, 3) := by decide +kernel
theorem dX8_smoke_8 : decode cX8_smoke 8 = .ok (.astore 5, 2) := by decide +kernel
theorem dX8_smoke_10 : decode cX8_smoke 10 = .ok (.iload_n 2, 1) := by decide +kernel
theorem dX8_smoke_11 : decode cX8_smoke 11 = .ok (.invokestatic 169, 3) := by decide +kernel
theorem dX8_smoke_14 : decode cX8_smoke 14 = .ok (.ifCond .eq 19, 3) := by decide +kernel
theorem dX8_smoke_17 : decode cX8_smoke 17 = .ok (.iload_n 3, 1) := by decide +kernel
theorem dX8_smoke_18 : decode cX8_smoke 18 = .ok (.invokestatic 169, 3) := by decide +kernel
theorem dX8_smoke_21 : decode cX8_smoke 21 = .ok (.ifCond .eq 12, 3) := by decide +kernel
theorem dX8_smoke_24 : decode cX8_smoke 24 = .ok (.iload_n 2, 1) := by decide +kernel
theorem dX8_smoke_25 : decode cX8_smoke 25 = .ok (.iload_n 3, 1) := by decide +kernel
theorem dX8_smoke_26 : decode cX8_smoke 26 = .ok (.if_icmp .gt 7, 3) := by decide +kernel
theorem dX8_smoke_29 : decode cX8_smoke 29 = .ok (.iconst 1, 1) := by decide +kernel
theorem dX8_smoke_30 : decode cX8_smoke 30 = .ok (.goto 4, 3) := by decide +kernel
theorem dX8_smoke_33 : decode cX8_smoke 33 = .ok (.iconst 0, 1) := by decide +kernel
theorem dX8_smoke_34 : decode cX8_smoke 34 = .ok (.invokestatic 52, 3) := by decide +kernel
theorem dX8_smoke_37 : decode cX8_smoke 37 = .ok (.iload 4, 2) := by decide +kernel
theorem dX8_smoke_39 : decode cX8_smoke 39 = .ok (.ifCond .eq 13, 3) := by decide +kernel
theorem dX8_smoke_42 : decode cX8_smoke 42 = .ok (.aload 5, 2) := by decide +kernel
theorem dX8_smoke_44 : decode cX8_smoke 44 = .ok (.iload_n 2, 1) := by decide +kernel
theorem dX8_smoke_45 : decode cX8_smoke 45 = .ok (.iload_n 3, 1) := by decide +kernel
theorem dX8_smoke_46 : decode cX8_smoke 46 = .ok (.invokevirtual 176, 3) := by decide +kernel
theorem dX8_smoke_49 : decode cX8_smoke 49 = .ok (.goto 10, 3) := by decide +kernel
theorem dX8_smoke_52 : decode cX8_smoke 52 = .ok (.aload 5, 2) := by decide +kernel
theorem dX8_smoke_54 : decode cX8_smoke 54 = .ok (.iload_n 2, 1) := by decide +kernel
theorem dX8_smoke_55 : decode cX8_smoke 55 = .ok (.iload_n 3, 1) := by decide +kernel
theorem dX8_smoke_56 : decode cX8_smoke 56 = .ok (.invokevirtual 180, 3) := by decide +kernel
theorem dX8_smoke_59 : decode cX8_smoke 59 = .ok (.ireturn, 1) := by decide +kernel
theorem dX8_greyOf_0 : decode cX8_greyOf 0 = .ok (.iload_n 1, 1) := by decide +kernel
theorem dX8_greyOf_1 : decode cX8_greyOf 1 = .ok (.iconst 0, 1) := by decide +kernel
theorem dX8_greyOf_2 : decode cX8_greyOf 2 = .ok (.bipush 23, 2) := by decide +kernel
theorem dX8_greyOf_4 : decode cX8_greyOf 4 = .ok (.invokestatic 48, 3) := by decide +kernel
theorem dX8_greyOf_7 : decode cX8_greyOf 7 = .ok (.invokestatic 52, 3) := by decide +kernel
theorem dX8_greyOf_10 : decode cX8_greyOf 10 = .ok (.aload_n 0, 1) := by decide +kernel
theorem dX8_greyOf_11 : decode cX8_greyOf 11 = .ok (.getfield 10, 3) := by decide +kernel
theorem dX8_greyOf_14 : decode cX8_greyOf 14 = .ok (.iload_n 1, 1) := by decide +kernel
theorem dX8_greyOf_15 : decode cX8_greyOf 15 = .ok (.invokevirtual 82, 3) := by decide +kernel
theorem dX8_greyOf_18 : decode cX8_greyOf 18 = .ok (.ireturn, 1) := by decide +kernel
theorem dX8_time_0 : decode cX8_time 0 = .ok (.bipush 96, 2) := by decide +kernel
theorem dX8_time_2 : decode cX8_time 2 = .ok (.aload_n 0, 1) := by decide +kernel
theorem dX8_time_3 : decode cX8_time 3 = .ok (.getfield 10, 3) := by decide +kernel
theorem dX8_time_6 : decode cX8_time 6 = .ok (.getfield 183, 3) := by decide +kernel
theorem dX8_time_9 : decode cX8_time 9 = .ok (.imul, 1) := by decide +kernel
theorem dX8_time_10 : decode cX8_time 10 = .ok (.aload_n 0, 1) := by decide +kernel
theorem dX8_time_11 : decode cX8_time 11 = .ok (.getfield 10, 3) := by decide +kernel
theorem dX8_time_14 : decode cX8_time 14 = .ok (.getfield 75, 3) := by decide +kernel
theorem dX8_time_17 : decode cX8_time 17 = .ok (.iadd, 1) := by decide +kernel
theorem dX8_time_18 : decode cX8_time 18 = .ok (.ireturn, 1) := by decide +kernel
theorem dX8_watchedBy_0 : decode cX8_watchedBy 0 = .ok (.aload_n 0, 1) := by decide +kernel
theorem dX8_watchedBy_1 : decode cX8_watchedBy 1 = .ok (.iload_n 1, 1) := by decide +kernel
theorem dX8_watchedBy_2 : decode cX8_watchedBy 2 = .ok (.invokevirtual 89, 3) := by decide +kernel
theorem dX8_watchedBy_5 : decode cX8_watchedBy 5 = .ok (.getfield 93, 3) := by decide +kernel
theorem dX8_watchedBy_8 : decode cX8_watchedBy 8 = .ok (.ireturn, 1) := by decide +kernel
theorem dX8_tirednessOf_0 : decode cX8_tirednessOf 0 = .ok (.aload_n 0, 1) := by decide +kernel
theorem dX8_tirednessOf_1 : decode cX8_tirednessOf 1 = .ok (.iload_n 1, 1) := by decide +kernel
theorem dX8_tirednessOf_2 : decode cX8_tirednessOf 2 = .ok (.invokevirtual 89, 3) := by decide +kernel
theorem dX8_tirednessOf_5 : decode cX8_tirednessOf 5 = .ok (.getfield 186, 3) := by decide +kernel
theorem dX8_tirednessOf_8 : decode cX8_tirednessOf 8 = .ok (.ireturn, 1) := by decide +kernel
theorem dX8_wouldRead_0 : decode cX8_wouldRead 0 = .ok (.aload_n 0, 1) := by decide +kernel
theorem dX8_wouldRead_1 : decode cX8_wouldRead 1 = .ok (.iload_n 1, 1) := by decide +kernel
theorem dX8_wouldRead_2 : decode cX8_wouldRead 2 = .ok (.invokevirtual 89, 3) := by decide +kernel
theorem dX8_wouldRead_5 : decode cX8_wouldRead 5 = .ok (.astore_n 3, 1) := by decide +kernel
theorem dX8_wouldRead_6 : decode cX8_wouldRead 6 = .ok (.aload_n 0, 1) := by decide +kernel
theorem dX8_wouldRead_7 : decode cX8_wouldRead 7 = .ok (.getfield 10, 3) := by decide +kernel
theorem dX8_wouldRead_10 : decode cX8_wouldRead 10 = .ok (.iload_n 2, 1) := by decide +kernel
theorem dX8_wouldRead_11 : decode cX8_wouldRead 11 = .ok (.invokestatic 44, 3) := by decide +kernel
theorem dX8_wouldRead_14 : decode cX8_wouldRead 14 = .ok (.aload_n 0, 1) := by decide +kernel
theorem dX8_wouldRead_15 : decode cX8_wouldRead 15 = .ok (.getfield 10, 3) := by decide +kernel
theorem dX8_wouldRead_18 : decode cX8_wouldRead 18 = .ok (.getfield 75, 3) := by decide +kernel
theorem dX8_wouldRead_21 : decode cX8_wouldRead 21 = .ok (.invokevirtual 78, 3) := by decide +kernel
theorem dX8_wouldRead_24 : decode cX8_wouldRead 24 = .ok (.istore 4, 2) := by decide +kernel
theorem dX8_wouldRead_26 : decode cX8_wouldRead 26 = .ok (.aload_n 3, 1) := by decide +kernel
theorem dX8_wouldRead_27 : decode cX8_wouldRead 27 = .ok (.iload 4, 2) := by decide +kernel
theorem dX8_wouldRead_29 : decode cX8_wouldRead 29 = .ok (.aload_n 0, 1) := by decide +kernel
theorem dX8_wouldRead_30 : decode cX8_wouldRead 30 = .ok (.getfield 10, 3) := by decide +kernel
theorem dX8_wouldRead_33 : decode cX8_wouldRead 33 = .ok (.aload_n 0, 1) := by decide +kernel
theorem dX8_wouldRead_34 : decode cX8_wouldRead 34 = .ok (.getfield 10, 3) := by decide +kernel
theorem dX8_wouldRead_37 : decode cX8_wouldRead 37 = .ok (.getfield 75, 3) := by decide +kernel
theorem dX8_wouldRead_40 : decode cX8_wouldRead 40 = .ok (.invokevirtual 189, 3) := by decide +kernel
theorem dX8_wouldRead_43 : decode cX8_wouldRead 43 = .ok (.invokevirtual 192, 3) := by decide +kernel
theorem dX8_wouldRead_46 : decode cX8_wouldRead 46 = .ok (.ireturn, 1) := by decide +kernel
theorem dX8_readingOf_0 : decode cX8_readingOf 0 = .ok (.aload_n 0, 1) := by decide +kernel
theorem dX8_readingOf_1 : decode cX8_readingOf 1 = .ok (.getfield 10, 3) := by decide +kernel
theorem dX8_readingOf_4 : decode cX8_readingOf 4 = .ok (.iload_n 1, 1) := by decide +kernel
theorem dX8_readingOf_5 : decode cX8_readingOf 5 = .ok (.invokestatic 44, 3) := by decide +kernel
theorem dX8_readingOf_8 : decode cX8_readingOf 8 = .ok (.astore_n 3, 1) := by decide +kernel
theorem dX8_readingOf_9 : decode cX8_readingOf 9 = .ok (.iload_n 2, 1) := by decide +kernel
theorem dX8_readingOf_10 : decode cX8_readingOf 10 = .ok (.invokestatic 169, 3) := by decide +kernel
theorem dX8_readingOf_13 : decode cX8_readingOf 13 = .ok (.invokestatic 52, 3) := by decide +kernel
theorem dX8_readingOf_16 : decode cX8_readingOf 16 = .ok (.aload_n 3, 1) := by decide +kernel
theorem dX8_readingOf_17 : decode cX8_readingOf 17 = .ok (.getfield 195, 3) := by decide +kernel
theorem dX8_readingOf_20 : decode cX8_readingOf 20 = .ok (.iload_n 2, 1) := by decide +kernel
theorem dX8_readingOf_21 : decode cX8_readingOf 21 = .ok (.invokevirtual 199, 3) := by decide +kernel
theorem dX8_readingOf_24 : decode cX8_readingOf 24 = .ok (.ireturn, 1) := by decide +kernel
theorem dX8_readingsFrom_0 : decode cX8_readingsFrom 0 = .ok (.aload_n 0, 1) := by decide +kernel
theorem dX8_readingsFrom_1 : decode cX8_readingsFrom 1 = .ok (.getfield 10, 3) := by decide +kernel
theorem dX8_readingsFrom_4 : decode cX8_readingsFrom 4 = .ok (.iload_n 1, 1) := by decide +kernel
theorem dX8_readingsFrom_5 : decode cX8_readingsFrom 5 = .ok (.invokestatic 44, 3) := by decide +kernel
theorem dX8_readingsFrom_8 : decode cX8_readingsFrom 8 = .ok (.astore_n 3, 1) := by decide +kernel
theorem dX8_readingsFrom_9 : decode cX8_readingsFrom 9 = .ok (.iload_n 2, 1) := by decide +kernel
theorem dX8_readingsFrom_10 : decode cX8_readingsFrom 10 = .ok (.iconst 0, 1) := by decide +kernel
theorem dX8_readingsFrom_11 : decode cX8_readingsFrom 11 = .ok (.iconst 5, 1) := by decide +kernel
theorem dX8_readingsFrom_12 : decode cX8_readingsFrom 12 = .ok (.invokestatic 48, 3) := by decide +kernel
theorem dX8_readingsFrom_15 : decode cX8_readingsFrom 15 = .ok (.invokestatic 52, 3) := by decide +kernel
theorem dX8_readingsFrom_18 : decode cX8_readingsFrom 18 = .ok (.aload_n 3, 1) := by decide +kernel
theorem dX8_readingsFrom_19 : decode cX8_readingsFrom 19 = .ok (.getfield 195, 3) := by decide +kernel
theorem dX8_readingsFrom_22 : decode cX8_readingsFrom 22 = .ok (.iload_n 2, 1) := by decide +kernel
theorem dX8_readingsFrom_23 : decode cX8_readingsFrom 23 = .ok (.invokevirtual 204, 3) := by decide +kernel
theorem dX8_readingsFrom_26 : decode cX8_readingsFrom 26 = .ok (.ireturn, 1) := by decide +kernel
theorem dX8_longestRow_0 : decode cX8_longestRow 0 = .ok (.aload_n 0, 1) := by decide +kernel
theorem dX8_longestRow_1 : decode cX8_longestRow 1 = .ok (.getfield 10, 3) := by decide +kernel
theorem dX8_longestRow_4 : decode cX8_longestRow 4 = .ok (.iload_n 1, 1) := by decide +kernel
theorem dX8_longestRow_5 : decode cX8_longestRow 5 = .ok (.invokestatic 44, 3) := by decide +kernel
theorem dX8_longestRow_8 : decode cX8_longestRow 8 = .ok (.astore 4, 2) := by decide +kernel
theorem dX8_longestRow_10 : decode cX8_longestRow 10 = .ok (.iload_n 2, 1) := by decide +kernel
theorem dX8_longestRow_11 : decode cX8_longestRow 11 = .ok (.iconst 0, 1) := by decide +kernel
theorem dX8_longestRow_12 : decode cX8_longestRow 12 = .ok (.iconst 5, 1) := by decide +kernel
theorem dX8_longestRow_13 : decode cX8_longestRow 13 = .ok (.invokestatic 48, 3) := by decide +kernel
theorem dX8_longestRow_16 : decode cX8_longestRow 16 = .ok (.invokestatic 52, 3) := by decide +kernel
theorem dX8_longestRow_19 : decode cX8_longestRow 19 = .ok (.iload_n 3, 1) := by decide +kernel
theorem dX8_longestRow_20 : decode cX8_longestRow 20 = .ok (.ifCond .eq 15, 3) := by decide +kernel
theorem dX8_longestRow_23 : decode cX8_longestRow 23 = .ok (.aload 4, 2) := by decide +kernel
theorem dX8_longestRow_25 : decode cX8_longestRow 25 = .ok (.getfield 195, 3) := by decide +kernel
theorem dX8_longestRow_28 : decode cX8_longestRow 28 = .ok (.iload_n 2, 1) := by decide +kernel
theorem dX8_longestRow_29 : decode cX8_longestRow 29 = .ok (.invokevirtual 207, 3) := by decide +kernel
theorem dX8_longestRow_32 : decode cX8_longestRow 32 = .ok (.goto 12, 3) := by decide +kernel
theorem dX8_longestRow_35 : decode cX8_longestRow 35 = .ok (.aload 4, 2) := by decide +kernel
theorem dX8_longestRow_37 : decode cX8_longestRow 37 = .ok (.getfield 195, 3) := by decide +kernel
theorem dX8_longestRow_40 : decode cX8_longestRow 40 = .ok (.iload_n 2, 1) := by decide +kernel
theorem dX8_longestRow_41 : decode cX8_longestRow 41 = .ok (.invokevirtual 210, 3) := by decide +kernel
theorem dX8_longestRow_44 : decode cX8_longestRow 44 = .ok (.ireturn, 1) := by decide +kernel
theorem dX8_errorsOf_0 : decode cX8_errorsOf 0 = .ok (.aload_n 0, 1) := by decide +kernel
theorem dX8_errorsOf_1 : decode cX8_errorsOf 1 = .ok (.iload_n 1, 1) := by decide +kernel
theorem dX8_errorsOf_2 : decode cX8_errorsOf 2 = .ok (.invokevirtual 89, 3) := by decide +kernel
theorem dX8_errorsOf_5 : decode cX8_errorsOf 5 = .ok (.getfield 213, 3) := by decide +kernel
theorem dX8_errorsOf_8 : decode cX8_errorsOf 8 = .ok (.ireturn, 1) := by decide +kernel
theorem dX8_bestObserver_0 : decode cX8_bestObserver 0 = .ok (.aload_n 0, 1) := by decide +kernel
theorem dX8_bestObserver_1 : decode cX8_bestObserver 1 = .ok (.getfield 10, 3) := by decide +kernel
theorem dX8_bestObserver_4 : decode cX8_bestObserver 4 = .ok (.invokevirtual 216, 3) := by decide +kernel
theorem dX8_bestObserver_7 : decode cX8_bestObserver 7 = .ok (.ireturn, 1) := by decide +kernel
theorem dX8_notices_0 : decode cX8_notices 0 = .ok (.aload_n 0, 1) := by decide +kernel
theorem dX8_notices_1 : decode cX8_notices 1 = .ok (.getfield 10, 3) := by decide +kernel
theorem dX8_notices_4 : decode cX8_notices 4 = .ok (.getfield 138, 3) := by decide +kernel
theorem dX8_notices_7 : decode cX8_notices 7 = .ok (.ireturn, 1) := by decide +kernel
theorem dX8_chimneyOf_0 : decode cX8_chimneyOf 0 = .ok (.aload_n 0, 1) := by decide +kernel
theorem dX8_chimneyOf_1 : decode cX8_chimneyOf 1 = .ok (.iload_n 1, 1) := by decide +kernel
theorem dX8_chimneyOf_2 : decode cX8_chimneyOf 2 = .ok (.invokevirtual 110, 3) := by decide +kernel
theorem dX8_chimneyOf_5 : decode cX8_chimneyOf 5 = .ok (.getfield 219, 3) := by decide +kernel
theorem dX8_chimneyOf_8 : decode cX8_chimneyOf 8 = .ok (.ireturn, 1) := by decide +kernel
theorem dX8_fineOf_0 : decode cX8_fineOf 0 = .ok (.aload_n 0, 1) := by decide +kernel
theorem dX8_fineOf_1 : decode cX8_fineOf 1 = .ok (.iload_n 1, 1) := by decide +kernel
theorem dX8_fineOf_2 : decode cX8_fineOf 2 = .ok (.invokevirtual 110, 3) := by decide +kernel
theorem dX8_fineOf_5 : decode cX8_fineOf 5 = .ok (.getfield 222, 3) := by decide +kernel
theorem dX8_fineOf_8 : decode cX8_fineOf 8 = .ok (.ireturn, 1) := by decide +kernel
theorem dX8_stands_0 : decode cX8_stands 0 = .ok (.aload_n 0, 1) := by decide +kernel
theorem dX8_stands_1 : decode cX8_stands 1 = .ok (.iload_n 1, 1) := by decide +kernel
theorem dX8_stands_2 : decode cX8_stands 2 = .ok (.invokevirtual 110, 3) := by decide +kernel
theorem dX8_stands_5 : decode cX8_stands 5 = .ok (.getfield 131, 3) := by decide +kernel
theorem dX8_stands_8 : decode cX8_stands 8 = .ok (.ireturn, 1) := by decide +kernel
theorem dX8_wouldAppeal_0 : decode cX8_wouldAppeal 0 = .ok (.aload_n 0, 1) := by decide +kernel
theorem dX8_wouldAppeal_1 : decode cX8_wouldAppeal 1 = .ok (.iload_n 1, 1) := by decide +kernel
theorem dX8_wouldAppeal_2 : decode cX8_wouldAppeal 2 = .ok (.invokevirtual 110, 3) := by decide +kernel
theorem dX8_wouldAppeal_5 : decode cX8_wouldAppeal 5 = .ok (.invokevirtual 225, 3) := by decide +kernel
theorem dX8_wouldAppeal_8 : decode cX8_wouldAppeal 8 = .ok (.ireturn, 1) := by decide +kernel
theorem dX8_finesOf_0 : decode cX8_finesOf 0 = .ok (.aload_n 0, 1) := by decide +kernel
theorem dX8_finesOf_1 : decode cX8_finesOf 1 = .ok (.getfield 10, 3) := by decide +kernel
theorem dX8_finesOf_4 : decode cX8_finesOf 4 = .ok (.iload_n 1, 1) := by decide +kernel
theorem dX8_finesOf_5 : decode cX8_finesOf 5 = .ok (.invokestatic 44, 3) := by decide +kernel
theorem dX8_finesOf_8 : decode cX8_finesOf 8 = .ok (.astore_n 3, 1) := by decide +kernel
theorem dX8_finesOf_9 : decode cX8_finesOf 9 = .ok (.iload_n 2, 1) := by decide +kernel
theorem dX8_finesOf_10 : decode cX8_finesOf 10 = .ok (.ifCond .eq 10, 3) := by decide +kernel
theorem dX8_finesOf_13 : decode cX8_finesOf 13 = .ok (.aload_n 3, 1) := by decide +kernel
theorem dX8_finesOf_14 : decode cX8_finesOf 14 = .ok (.invokevirtual 228, 3) := by decide +kernel
theorem dX8_finesOf_17 : decode cX8_finesOf 17 = .ok (.goto 11, 3) := by decide +kernel
theorem dX8_finesOf_20 : decode cX8_finesOf 20 = .ok (.aload_n 0, 1) := by decide +kernel
theorem dX8_finesOf_21 : decode cX8_finesOf 21 = .ok (.getfield 10, 3) := by decide +kernel
theorem dX8_finesOf_24 : decode cX8_finesOf 24 = .ok (.iload_n 1, 1) := by decide +kernel
theorem dX8_finesOf_25 : decode cX8_finesOf 25 = .ok (.invokevirtual 231, 3) := by decide +kernel
theorem dX8_finesOf_28 : decode cX8_finesOf 28 = .ok (.ireturn, 1) := by decide +kernel
theorem dX8_worstChimney_0 : decode cX8_worstChimney 0 = .ok (.aload_n 0, 1) := by decide +kernel
theorem dX8_worstChimney_1 : decode cX8_worstChimney 1 = .ok (.getfield 10, 3) := by decide +kernel
theorem dX8_worstChimney_4 : decode cX8_worstChimney 4 = .ok (.invokevirtual 234, 3) := by decide +kernel
theorem dX8_worstChimney_7 : decode cX8_worstChimney 7 = .ok (.ireturn, 1) := by decide +kernel
theorem dX8_toWatch_0 : decode cX8_toWatch 0 = .ok (.iload_n 1, 1) := by decide +kernel
theorem dX8_toWatch_1 : decode cX8_toWatch 1 = .ok (.iconst 1, 1) := by decide +kernel
theorem dX8_toWatch_2 : decode cX8_toWatch 2 = .ok (.bipush 96, 2) := by decide +kernel
theorem dX8_toWatch_4 : decode cX8_toWatch 4 = .ok (.invokestatic 48, 3) := by decide +kernel
theorem dX8_toWatch_7 : decode cX8_toWatch 7 = .ok (.invokestatic 52, 3) := by decide +kernel
theorem dX8_toWatch_10 : decode cX8_toWatch 10 = .ok (.bipush 95, 2) := by decide +kernel
theorem dX8_toWatch_12 : decode cX8_toWatch 12 = .ok (.aload_n 0, 1) := by decide +kernel
theorem dX8_toWatch_13 : decode cX8_toWatch 13 = .ok (.getfield 10, 3) := by decide +kernel
theorem dX8_toWatch_16 : decode cX8_toWatch 16 = .ok (.getfield 75, 3) := by decide +kernel
theorem dX8_toWatch_19 : decode cX8_toWatch 19 = .ok (.iload_n 1, 1) := by decide +kernel
theorem dX8_toWatch_20 : decode cX8_toWatch 20 = .ok (.iadd, 1) := by decide +kernel
theorem dX8_toWatch_21 : decode cX8_toWatch 21 = .ok (.iconst 1, 1) := by decide +kernel
theorem dX8_toWatch_22 : decode cX8_toWatch 22 = .ok (.isub, 1) := by decide +kernel
theorem dX8_toWatch_23 : decode cX8_toWatch 23 = .ok (.invokestatic 237, 3) := by decide +kernel
theorem dX8_toWatch_26 : decode cX8_toWatch 26 = .ok (.istore_n 3, 1) := by decide +kernel
theorem dX8_toWatch_27 : decode cX8_toWatch 27 = .ok (.iconst 0, 1) := by decide +kernel
theorem dX8_toWatch_28 : decode cX8_toWatch 28 = .ok (.istore 4, 2) := by decide +kernel
theorem dX8_toWatch_30 : decode cX8_toWatch 30 = .ok (.iload 4, 2) := by decide +kernel
theorem dX8_toWatch_32 : decode cX8_toWatch 32 = .ok (.bipush 8, 2) := by decide +kernel
theorem dX8_toWatch_34 : decode cX8_toWatch 34 = .ok (.if_icmp .ge 37, 3) := by decide +kernel
theorem dX8_toWatch_37 : decode cX8_toWatch 37 = .ok (.aload_n 0, 1) := by decide +kernel
theorem dX8_toWatch_38 : decode cX8_toWatch 38 = .ok (.getfield 39, 3) := by decide +kernel
theorem dX8_toWatch_41 : decode cX8_toWatch 41 = .ok (.iload 4, 2) := by decide +kernel
theorem dX8_toWatch_43 : decode cX8_toWatch 43 = .ok (.aload_n 0, 1) := by decide +kernel
theorem dX8_toWatch_44 : decode cX8_toWatch 44 = .ok (.getfield 10, 3) := by decide +kernel
theorem dX8_toWatch_47 : decode cX8_toWatch 47 = .ok (.getfield 242, 3) := by decide +kernel
theorem dX8_toWatch_50 : decode cX8_toWatch 50 = .ok (.iload 4, 2) := by decide +kernel
theorem dX8_toWatch_52 : decode cX8_toWatch 52 = .ok (.aaload, 1) := by decide +kernel
theorem dX8_toWatch_53 : decode cX8_toWatch 53 = .ok (.aload_n 0, 1) := by decide +kernel
theorem dX8_toWatch_54 : decode cX8_toWatch 54 = .ok (.getfield 10, 3) := by decide +kernel
theorem dX8_toWatch_57 : decode cX8_toWatch 57 = .ok (.getfield 75, 3) := by decide +kernel
theorem dX8_toWatch_60 : decode cX8_toWatch 60 = .ok (.iload_n 3, 1) := by decide +kernel
theorem dX8_toWatch_61 : decode cX8_toWatch 61 = .ok (.invokevirtual 180, 3) := by decide +kernel
theorem dX8_toWatch_64 : decode cX8_toWatch 64 = .ok (.iastore, 1) := by decide +kernel
theorem dX8_toWatch_65 : decode cX8_toWatch 65 = .ok (.iinc 4 1, 3) := by decide +kernel
theorem dX8_toWatch_68 : decode cX8_toWatch 68 = .ok (.goto (-38), 3) := by decide +kernel
theorem dX8_toWatch_71 : decode cX8_toWatch 71 = .ok (.iload_n 2, 1) := by decide +kernel
theorem dX8_toWatch_72 : decode cX8_toWatch 72 = .ok (.ifCond .eq 10, 3) := by decide +kernel
theorem dX8_toWatch_75 : decode cX8_toWatch 75 = .ok (.aload_n 0, 1) := by decide +kernel
theorem dX8_toWatch_76 : decode cX8_toWatch 76 = .ok (.invokevirtual 246, 3) := by decide +kernel
theorem dX8_toWatch_79 : decode cX8_toWatch 79 = .ok (.goto 7, 3) := by decide +kernel
theorem dX8_toWatch_82 : decode cX8_toWatch 82 = .ok (.aload_n 0, 1) := by decide +kernel
theorem dX8_toWatch_83 : decode cX8_toWatch 83 = .ok (.invokevirtual 249, 3) := by decide +kernel
theorem dX8_toWatch_86 : decode cX8_toWatch 86 = .ok (.ireturn, 1) := by decide +kernel
theorem dX8_noticesIn_0 : decode cX8_noticesIn 0 = .ok (.iload_n 1, 1) := by decide +kernel
theorem dX8_noticesIn_1 : decode cX8_noticesIn 1 = .ok (.iconst 1, 1) := by decide +kernel
theorem dX8_noticesIn_2 : decode cX8_noticesIn 2 = .ok (.sipush 200, 3) := by decide +kernel
theorem dX8_noticesIn_5 : decode cX8_noticesIn 5 = .ok (.invokestatic 48, 3) := by decide +kernel
theorem dX8_noticesIn_8 : decode cX8_noticesIn 8 = .ok (.invokestatic 52, 3) := by decide +kernel
theorem dX8_noticesIn_11 : decode cX8_noticesIn 11 = .ok (.aload_n 0, 1) := by decide +kernel
theorem dX8_noticesIn_12 : decode cX8_noticesIn 12 = .ok (.getfield 16, 3) := by decide +kernel
theorem dX8_noticesIn_15 : decode cX8_noticesIn 15 = .ok (.aload_n 0, 1) := by decide +kernel
theorem dX8_noticesIn_16 : decode cX8_noticesIn 16 = .ok (.getfield 10, 3) := by decide +kernel
theorem dX8_noticesIn_19 : decode cX8_noticesIn 19 = .ok (.invokevirtual 252, 3) := by decide +kernel
theorem dX8_noticesIn_22 : decode cX8_noticesIn 22 = .ok (.aload_n 0, 1) := by decide +kernel
theorem dX8_noticesIn_23 : decode cX8_noticesIn 23 = .ok (.getfield 16, 3) := by decide +kernel
theorem dX8_noticesIn_26 : decode cX8_noticesIn 26 = .ok (.iload_n 1, 1) := by decide +kernel
theorem dX8_noticesIn_27 : decode cX8_noticesIn 27 = .ok (.invokevirtual 107, 3) := by decide +kernel
theorem dX8_noticesIn_30 : decode cX8_noticesIn 30 = .ok (.ireturn, 1) := by decide +kernel
theorem dX8_ticksToNotice_0 : decode cX8_ticksToNotice 0 = .ok (.aload_n 0, 1) := by decide +kernel
theorem dX8_ticksToNotice_1 : decode cX8_ticksToNotice 1 = .ok (.getfield 16, 3) := by decide +kernel
theorem dX8_ticksToNotice_4 : decode cX8_ticksToNotice 4 = .ok (.iload_n 1, 1) := by decide +kernel
theorem dX8_ticksToNotice_5 : decode cX8_ticksToNotice 5 = .ok (.invokestatic 44, 3) := by decide +kernel
theorem dX8_ticksToNotice_8 : decode cX8_ticksToNotice 8 = .ok (.astore_n 2, 1) := by decide +kernel
theorem dX8_ticksToNotice_9 : decode cX8_ticksToNotice 9 = .ok (.aload_n 0, 1) := by decide +kernel
theorem dX8_ticksToNotice_10 : decode cX8_ticksToNotice 10 = .ok (.getfield 16, 3) := by decide +kernel
theorem dX8_ticksToNotice_13 : decode cX8_ticksToNotice 13 = .ok (.aload_n 0, 1) := by decide +kernel
theorem dX8_ticksToNotice_14 : decode cX8_ticksToNotice 14 = .ok (.getfield 10, 3) := by decide +kernel
theorem dX8_ticksToNotice_17 : decode cX8_ticksToNotice 17 = .ok (.invokevirtual 252, 3) := by decide +kernel
theorem dX8_ticksToNotice_20 : decode cX8_ticksToNotice 20 = .ok (.aload_n 2, 1) := by decide +kernel
theorem dX8_ticksToNotice_21 : decode cX8_ticksToNotice 21 = .ok (.getfield 255, 3) := by decide +kernel
theorem dX8_ticksToNotice_24 : decode cX8_ticksToNotice 24 = .ok (.istore_n 3, 1) := by decide +kernel
theorem dX8_ticksToNotice_25 : decode cX8_ticksToNotice 25 = .ok (.iconst 1, 1) := by decide +kernel
theorem dX8_ticksToNotice_26 : decode cX8_ticksToNotice 26 = .ok (.istore 4, 2) := by decide +kernel
theorem dX8_ticksToNotice_28 : decode cX8_ticksToNotice 28 = .ok (.iload 4, 2) := by decide +kernel
theorem dX8_ticksToNotice_30 : decode cX8_ticksToNotice 30 = .ok (.sipush 200, 3) := by decide +kernel
theorem dX8_ticksToNotice_33 : decode cX8_ticksToNotice 33 = .ok (.if_icmp .gt 27, 3) := by decide +kernel
theorem dX8_ticksToNotice_36 : decode cX8_ticksToNotice 36 = .ok (.aload_n 0, 1) := by decide +kernel
theorem dX8_ticksToNotice_37 : decode cX8_ticksToNotice 37 = .ok (.getfield 16, 3) := by decide +kernel
theorem dX8_ticksToNotice_40 : decode cX8_ticksToNotice 40 = .ok (.invokevirtual 258, 3) := by decide +kernel
theorem dX8_ticksToNotice_43 : decode cX8_ticksToNotice 43 = .ok (.aload_n 2, 1) := by decide +kernel
theorem dX8_ticksToNotice_44 : decode cX8_ticksToNotice 44 = .ok (.getfield 255, 3) := by decide +kernel
theorem dX8_ticksToNotice_47 : decode cX8_ticksToNotice 47 = .ok (.iload_n 3, 1) := by decide +kernel
theorem dX8_ticksToNotice_48 : decode cX8_ticksToNotice 48 = .ok (.if_icmp .le 6, 3) := by decide +kernel
theorem dX8_ticksToNotice_51 : decode cX8_ticksToNotice 51 = .ok (.iload 4, 2) := by decide +kernel
theorem dX8_ticksToNotice_53 : decode cX8_ticksToNotice 53 = .ok (.ireturn, 1) := by decide +kernel
theorem dX8_ticksToNotice_54 : decode cX8_ticksToNotice 54 = .ok (.iinc 4 1, 3) := by decide +kernel
theorem dX8_ticksToNotice_57 : decode cX8_ticksToNotice 57 = .ok (.goto (-29), 3) := by decide +kernel
theorem dX8_ticksToNotice_60 : decode cX8_ticksToNotice 60 = .ok (.iconst (-1), 1) := by decide +kernel
theorem dX8_ticksToNotice_61 : decode cX8_ticksToNotice 61 = .ok (.ireturn, 1) := by decide +kernel
theorem dX8_mildLimit_0 : decode cX8_mildLimit 0 = .ok (.iload_n 1, 1) := by decide +kernel
theorem dX8_mildLimit_1 : decode cX8_mildLimit 1 = .ok (.iconst 1, 1) := by decide +kernel
theorem dX8_mildLimit_2 : decode cX8_mildLimit 2 = .ok (.sipush 200, 3) := by decide +kernel
theorem dX8_mildLimit_5 : decode cX8_mildLimit 5 = .ok (.invokestatic 48, 3) := by decide +kernel
theorem dX8_mildLimit_8 : decode cX8_mildLimit 8 = .ok (.invokestatic 52, 3) := by decide +kernel
theorem dX8_mildLimit_11 : decode cX8_mildLimit 11 = .ok (.iconst 1, 1) := by decide +kernel
theorem dX8_mildLimit_12 : decode cX8_mildLimit 12 = .ok (.istore_n 2, 1) := by decide +kernel
theorem dX8_mildLimit_13 : decode cX8_mildLimit 13 = .ok (.iload_n 2, 1) := by decide +kernel
theorem dX8_mildLimit_14 : decode cX8_mildLimit 14 = .ok (.iconst 5, 1) := by decide +kernel
theorem dX8_mildLimit_15 : decode cX8_mildLimit 15 = .ok (.if_icmp .gt 41, 3) := by decide +kernel
theorem dX8_mildLimit_18 : decode cX8_mildLimit 18 = .ok (.aload_n 0, 1) := by decide +kernel
theorem dX8_mildLimit_19 : decode cX8_mildLimit 19 = .ok (.getfield 16, 3) := by decide +kernel
theorem dX8_mildLimit_22 : decode cX8_mildLimit 22 = .ok (.aload_n 0, 1) := by decide +kernel
theorem dX8_mildLimit_23 : decode cX8_mildLimit 23 = .ok (.getfield 10, 3) := by decide +kernel
theorem dX8_mildLimit_26 : decode cX8_mildLimit 26 = .ok (.invokevirtual 252, 3) := by decide +kernel
theorem dX8_mildLimit_29 : decode cX8_mildLimit 29 = .ok (.aload_n 0, 1) := by decide +kernel
theorem dX8_mildLimit_30 : decode cX8_mildLimit 30 = .ok (.getfield 16, 3) := by decide +kernel
theorem dX8_mildLimit_33 : decode cX8_mildLimit 33 = .ok (.iload_n 2, 1) := by decide +kernel
theorem dX8_mildLimit_34 : decode cX8_mildLimit 34 = .ok (.putfield 101, 3) := by decide +kernel
theorem dX8_mildLimit_37 : decode cX8_mildLimit 37 = .ok (.aload_n 0, 1) := by decide +kernel
theorem dX8_mildLimit_38 : decode cX8_mildLimit 38 = .ok (.getfield 16, 3) := by decide +kernel
theorem dX8_mildLimit_41 : decode cX8_mildLimit 41 = .ok (.iload_n 1, 1) := by decide +kernel
theorem dX8_mildLimit_42 : decode cX8_mildLimit 42 = .ok (.invokevirtual 261, 3) := by decide +kernel
theorem dX8_mildLimit_45 : decode cX8_mildLimit 45 = .ok (.ifCond .ne 5, 3) := by decide +kernel
theorem dX8_mildLimit_48 : decode cX8_mildLimit 48 = .ok (.iload_n 2, 1) := by decide +kernel
theorem dX8_mildLimit_49 : decode cX8_mildLimit 49 = .ok (.ireturn, 1) := by decide +kernel
theorem dX8_mildLimit_50 : decode cX8_mildLimit 50 = .ok (.iinc 2 1, 3) := by decide +kernel
theorem dX8_mildLimit_53 : decode cX8_mildLimit 53 = .ok (.goto (-40), 3) := by decide +kernel
theorem dX8_mildLimit_56 : decode cX8_mildLimit 56 = .ok (.iconst (-1), 1) := by decide +kernel
theorem dX8_mildLimit_57 : decode cX8_mildLimit 57 = .ok (.ireturn, 1) := by decide +kernel
theorem dX8_put_0 : decode cX8_put 0 = .ok (.lload_n 1, 1) := by decide +kernel
theorem dX8_put_1 : decode cX8_put 1 = .ok (.invokestatic 264, 3) := by decide +kernel
theorem dX8_put_4 : decode cX8_put 4 = .ok (.istore_n 3, 1) := by decide +kernel
theorem dX8_put_5 : decode cX8_put 5 = .ok (.iload_n 3, 1) := by decide +kernel
theorem dX8_put_6 : decode cX8_put 6 = .ok (.ifCond .le 7, 3) := by decide +kernel
theorem dX8_put_9 : decode cX8_put 9 = .ok (.iconst 1, 1) := by decide +kernel
theorem dX8_put_10 : decode cX8_put 10 = .ok (.goto 4, 3) := by decide +kernel
theorem dX8_put_13 : decode cX8_put 13 = .ok (.iconst 0, 1) := by decide +kernel
theorem dX8_put_14 : decode cX8_put 14 = .ok (.invokestatic 52, 3) := by decide +kernel
theorem dX8_put_17 : decode cX8_put 17 = .ok (.iload_n 3, 1) := by decide +kernel
theorem dX8_put_18 : decode cX8_put 18 = .ok (.aload_n 0, 1) := by decide +kernel
theorem dX8_put_19 : decode cX8_put 19 = .ok (.getfield 35, 3) := by decide +kernel
theorem dX8_put_22 : decode cX8_put 22 = .ok (.invokevirtual 268, 3) := by decide +kernel
theorem dX8_put_25 : decode cX8_put 25 = .ok (.if_icmp .le 14, 3) := by decide +kernel
theorem dX8_put_28 : decode cX8_put 28 = .ok (.new 120, 3) := by decide +kernel
theorem dX8_put_31 : decode cX8_put 31 = .ok (.dup, 1) := by decide +kernel
theorem dX8_put_32 : decode cX8_put 32 = .ok (.ldc_w 271, 3) := by decide +kernel
theorem dX8_put_35 : decode cX8_put 35 = .ok (.invokespecial 124, 3) := by decide +kernel
theorem dX8_put_38 : decode cX8_put 38 = .ok (.athrow, 1) := by decide +kernel
theorem dX8_put_39 : decode cX8_put 39 = .ok (.aload_n 0, 1) := by decide +kernel
theorem dX8_put_40 : decode cX8_put 40 = .ok (.getfield 35, 3) := by decide +kernel
theorem dX8_put_43 : decode cX8_put 43 = .ok (.lload_n 1, 1) := by decide +kernel
theorem dX8_put_44 : decode cX8_put 44 = .ok (.iload_n 3, 1) := by decide +kernel
theorem dX8_put_45 : decode cX8_put 45 = .ok (.invokevirtual 273, 3) := by decide +kernel
theorem dX8_put_48 : decode cX8_put 48 = .ok (.aload_n 0, 1) := by decide +kernel
theorem dX8_put_49 : decode cX8_put 49 = .ok (.getfield 35, 3) := by decide +kernel
theorem dX8_put_52 : decode cX8_put 52 = .ok (.getfield 277, 3) := by decide +kernel
theorem dX8_put_55 : decode cX8_put 55 = .ok (.ireturn, 1) := by decide +kernel
theorem dX8_wipe_0 : decode cX8_wipe 0 = .ok (.aload_n 0, 1) := by decide +kernel
theorem dX8_wipe_1 : decode cX8_wipe 1 = .ok (.getfield 35, 3) := by decide +kernel
theorem dX8_wipe_4 : decode cX8_wipe 4 = .ok (.getfield 277, 3) := by decide +kernel
theorem dX8_wipe_7 : decode cX8_wipe 7 = .ok (.istore_n 1, 1) := by decide +kernel
theorem dX8_wipe_8 : decode cX8_wipe 8 = .ok (.aload_n 0, 1) := by decide +kernel
theorem dX8_wipe_9 : decode cX8_wipe 9 = .ok (.getfield 35, 3) := by decide +kernel
theorem dX8_wipe_12 : decode cX8_wipe 12 = .ok (.invokevirtual 166, 3) := by decide +kernel
theorem dX8_wipe_15 : decode cX8_wipe 15 = .ok (.iload_n 1, 1) := by decide +kernel
theorem dX8_wipe_16 : decode cX8_wipe 16 = .ok (.ireturn, 1) := by decide +kernel
theorem dX8_padLength_0 : decode cX8_padLength 0 = .ok (.aload_n 0, 1) := by decide +kernel
theorem dX8_padLength_1 : decode cX8_padLength 1 = .ok (.getfield 35, 3) := by decide +kernel
theorem dX8_padLength_4 : decode cX8_padLength 4 = .ok (.getfield 277, 3) := by decide +kernel
theorem dX8_padLength_7 : decode cX8_padLength 7 = .ok (.ireturn, 1) := by decide +kernel
theorem dX8_fault_0 : decode cX8_fault 0 = .ok (.aload_n 0, 1) := by decide +kernel
theorem dX8_fault_1 : decode cX8_fault 1 = .ok (.getfield 35, 3) := by decide +kernel
theorem dX8_fault_4 : decode cX8_fault 4 = .ok (.invokevirtual 134, 3) := by decide +kernel
theorem dX8_fault_7 : decode cX8_fault 7 = .ok (.ireturn, 1) := by decide +kernel
theorem dX8_undo_0 : decode cX8_undo 0 = .ok (.aload_n 0, 1) := by decide +kernel
theorem dX8_undo_1 : decode cX8_undo 1 = .ok (.getfield 22, 3) := by decide +kernel
theorem dX8_undo_4 : decode cX8_undo 4 = .ok (.getfield 280, 3) := by decide +kernel
theorem dX8_undo_7 : decode cX8_undo 7 = .ok (.ifCond .ne 14, 3) := by decide +kernel
theorem dX8_undo_10 : decode cX8_undo 10 = .ok (.new 120, 3) := by decide +kernel
theorem dX8_undo_13 : decode cX8_undo 13 = .ok (.dup, 1) := by decide +kernel
theorem dX8_undo_14 : decode cX8_undo 14 = .ok (.ldc_w 283, 3) := by decide +kernel
theorem dX8_undo_17 : decode cX8_undo 17 = .ok (.invokespecial 124, 3) := by decide +kernel
theorem dX8_undo_20 : decode cX8_undo 20 = .ok (.athrow, 1) := by decide +kernel
theorem dX8_undo_21 : decode cX8_undo 21 = .ok (.aload_n 0, 1) := by decide +kernel
theorem dX8_undo_22 : decode cX8_undo 22 = .ok (.getfield 22, 3) := by decide +kernel
theorem dX8_undo_25 : decode cX8_undo 25 = .ok (.aload_n 0, 1) := by decide +kernel
theorem dX8_undo_26 : decode cX8_undo 26 = .ok (.getfield 10, 3) := by decide +kernel
theorem dX8_undo_29 : decode cX8_undo 29 = .ok (.invokevirtual 285, 3) := by decide +kernel
theorem dX8_undo_32 : decode cX8_undo 32 = .ok (.aload_n 0, 1) := by decide +kernel
theorem dX8_undo_33 : decode cX8_undo 33 = .ok (.getfield 22, 3) := by decide +kernel
theorem dX8_undo_36 : decode cX8_undo 36 = .ok (.getfield 280, 3) := by decide +kernel
theorem dX8_undo_39 : decode cX8_undo 39 = .ok (.ireturn, 1) := by decide +kernel
theorem dX8_undoable_0 : decode cX8_undoable 0 = .ok (.aload_n 0, 1) := by decide +kernel
theorem dX8_undoable_1 : decode cX8_undoable 1 = .ok (.getfield 22, 3) := by decide +kernel
theorem dX8_undoable_4 : decode cX8_undoable 4 = .ok (.getfield 280, 3) := by decide +kernel
theorem dX8_undoable_7 : decode cX8_undoable 7 = .ok (.ireturn, 1) := by decide +kernel
theorem dX8_save_0 : decode cX8_save 0 = .ok (.aload_n 0, 1) := by decide +kernel
theorem dX8_save_1 : decode cX8_save 1 = .ok (.iload_n 1, 1) := by decide +kernel
theorem dX8_save_2 : decode cX8_save 2 = .ok (.invokevirtual 288, 3) := by decide +kernel
theorem dX8_save_5 : decode cX8_save 5 = .ok (.astore_n 2, 1) := by decide +kernel
theorem dX8_save_6 : decode cX8_save 6 = .ok (.aload_n 2, 1) := by decide +kernel
theorem dX8_save_7 : decode cX8_save 7 = .ok (.getfield 292, 3) := by decide +kernel
theorem dX8_save_10 : decode cX8_save 10 = .ok (.aload_n 0, 1) := by decide +kernel
theorem dX8_save_11 : decode cX8_save 11 = .ok (.getfield 10, 3) := by decide +kernel
theorem dX8_save_14 : decode cX8_save 14 = .ok (.invokevirtual 252, 3) := by decide +kernel
theorem dX8_save_17 : decode cX8_save 17 = .ok (.aload_n 2, 1) := by decide +kernel
theorem dX8_save_18 : decode cX8_save 18 = .ok (.iconst 1, 1) := by decide +kernel
theorem dX8_save_19 : decode cX8_save 19 = .ok (.putfield 295, 3) := by decide +kernel
theorem dX8_save_22 : decode cX8_save 22 = .ok (.aload_n 0, 1) := by decide +kernel
theorem dX8_save_23 : decode cX8_save 23 = .ok (.getfield 10, 3) := by decide +kernel
theorem dX8_save_26 : decode cX8_save 26 = .ok (.invokevirtual 298, 3) := by decide +kernel
theorem dX8_save_29 : decode cX8_save 29 = .ok (.ireturn, 1) := by decide +kernel
theorem dX8_restore_0 : decode cX8_restore 0 = .ok (.aload_n 0, 1) := by decide +kernel
theorem dX8_restore_1 : decode cX8_restore 1 = .ok (.iload_n 1, 1) := by decide +kernel
theorem dX8_restore_2 : decode cX8_restore 2 = .ok (.invokevirtual 288, 3) := by decide +kernel
theorem dX8_restore_5 : decode cX8_restore 5 = .ok (.astore_n 2, 1) := by decide +kernel
theorem dX8_restore_6 : decode cX8_restore 6 = .ok (.aload_n 2, 1) := by decide +kernel
theorem dX8_restore_7 : decode cX8_restore 7 = .ok (.getfield 295, 3) := by decide +kernel
theorem dX8_restore_10 : decode cX8_restore 10 = .ok (.ifCond .ne 14, 3) := by decide +kernel
theorem dX8_restore_13 : decode cX8_restore 13 = .ok (.new 120, 3) := by decide +kernel
theorem dX8_restore_16 : decode cX8_restore 16 = .ok (.dup, 1) := by decide +kernel
theorem dX8_restore_17 : decode cX8_restore 17 = .ok (.ldc_w 301, 3) := by decide +kernel
theorem dX8_restore_20 : decode cX8_restore 20 = .ok (.invokespecial 124, 3) := by decide +kernel
theorem dX8_restore_23 : decode cX8_restore 23 = .ok (.athrow, 1) := by decide +kernel
theorem dX8_restore_24 : decode cX8_restore 24 = .ok (.aload_n 0, 1) := by decide +kernel
theorem dX8_restore_25 : decode cX8_restore 25 = .ok (.getfield 22, 3) := by decide +kernel
theorem dX8_restore_28 : decode cX8_restore 28 = .ok (.aload_n 0, 1) := by decide +kernel
theorem dX8_restore_29 : decode cX8_restore 29 = .ok (.getfield 10, 3) := by decide +kernel
theorem dX8_restore_32 : decode cX8_restore 32 = .ok (.invokevirtual 56, 3) := by decide +kernel
theorem dX8_restore_35 : decode cX8_restore 35 = .ok (.aload_n 0, 1) := by decide +kernel
theorem dX8_restore_36 : decode cX8_restore 36 = .ok (.getfield 10, 3) := by decide +kernel
theorem dX8_restore_39 : decode cX8_restore 39 = .ok (.aload_n 2, 1) := by decide +kernel
theorem dX8_restore_40 : decode cX8_restore 40 = .ok (.getfield 292, 3) := by decide +kernel
theorem dX8_restore_43 : decode cX8_restore 43 = .ok (.invokevirtual 252, 3) := by decide +kernel
theorem dX8_restore_46 : decode cX8_restore 46 = .ok (.aload_n 0, 1) := by decide +kernel
theorem dX8_restore_47 : decode cX8_restore 47 = .ok (.getfield 10, 3) := by decide +kernel
theorem dX8_restore_50 : decode cX8_restore 50 = .ok (.invokevirtual 298, 3) := by decide +kernel
theorem dX8_restore_53 : decode cX8_restore 53 = .ok (.ireturn, 1) := by decide +kernel
theorem dX8_isWithin_0 : decode cX8_isWithin 0 = .ok (.iload_n 0, 1) := by decide +kernel
theorem dX8_isWithin_1 : decode cX8_isWithin 1 = .ok (.iload_n 1, 1) := by decide +kernel
theorem dX8_isWithin_2 : decode cX8_isWithin 2 = .ok (.if_icmp .lt 12, 3) := by decide +kernel
theorem dX8_isWithin_5 : decode cX8_isWithin 5 = .ok (.iload_n 0, 1) := by decide +kernel
theorem dX8_isWithin_6 : decode cX8_isWithin 6 = .ok (.iload_n 2, 1) := by decide +kernel
theorem dX8_isWithin_7 : decode cX8_isWithin 7 = .ok (.if_icmp .gt 7, 3) := by decide +kernel
theorem dX8_isWithin_10 : decode cX8_isWithin 10 = .ok (.iconst 1, 1) := by decide +kernel
theorem dX8_isWithin_11 : decode cX8_isWithin 11 = .ok (.goto 4, 3) := by decide +kernel
theorem dX8_isWithin_14 : decode cX8_isWithin 14 = .ok (.iconst 0, 1) := by decide +kernel
theorem dX8_isWithin_15 : decode cX8_isWithin 15 = .ok (.ireturn, 1) := by decide +kernel
theorem dX8_isTick_0 : decode cX8_isTick 0 = .ok (.iload_n 0, 1) := by decide +kernel
theorem dX8_isTick_1 : decode cX8_isTick 1 = .ok (.iconst 0, 1) := by decide +kernel
theorem dX8_isTick_2 : decode cX8_isTick 2 = .ok (.bipush 95, 2) := by decide +kernel
theorem dX8_isTick_4 : decode cX8_isTick 4 = .ok (.invokestatic 48, 3) := by decide +kernel
theorem dX8_isTick_7 : decode cX8_isTick 7 = .ok (.ireturn, 1) := by decide +kernel
theorem dX8_hold_0 : decode cX8_hold 0 = .ok (.iload_n 0, 1) := by decide +kernel
theorem dX8_hold_1 : decode cX8_hold 1 = .ok (.ifCond .ge 5, 3) := by decide +kernel
theorem dX8_hold_4 : decode cX8_hold 4 = .ok (.iconst 0, 1) := by decide +kernel
theorem dX8_hold_5 : decode cX8_hold 5 = .ok (.ireturn, 1) := by decide +kernel
theorem dX8_hold_6 : decode cX8_hold 6 = .ok (.iload_n 0, 1) := by decide +kernel
theorem dX8_hold_7 : decode cX8_hold 7 = .ok (.iconst 5, 1) := by decide +kernel
theorem dX8_hold_8 : decode cX8_hold 8 = .ok (.if_icmp .le 7, 3) := by decide +kernel
theorem dX8_hold_11 : decode cX8_hold 11 = .ok (.iconst 5, 1) := by decide +kernel
theorem dX8_hold_12 : decode cX8_hold 12 = .ok (.goto 4, 3) := by decide +kernel
theorem dX8_hold_15 : decode cX8_hold 15 = .ok (.iload_n 0, 1) := by decide +kernel
theorem dX8_hold_16 : decode cX8_hold 16 = .ok (.ireturn, 1) := by decide +kernel
theorem dX8_demand_0 : decode cX8_demand 0 = .ok (.iload_n 0, 1) := by decide +kernel
theorem dX8_demand_1 : decode cX8_demand 1 = .ok (.ifCond .ne 14, 3) := by decide +kernel
theorem dX8_demand_4 : decode cX8_demand 4 = .ok (.new 303, 3) := by decide +kernel
theorem dX8_demand_7 : decode cX8_demand 7 = .ok (.dup, 1) := by decide +kernel
theorem dX8_demand_8 : decode cX8_demand 8 = .ok (.ldc_w 305, 3) := by decide +kernel
theorem dX8_demand_11 : decode cX8_demand 11 = .ok (.invokespecial 307, 3) := by decide +kernel
theorem dX8_demand_14 : decode cX8_demand 14 = .ok (.athrow, 1) := by decide +kernel
theorem dX8_demand_15 : decode cX8_demand 15 = .ok (.return_, 1) := by decide +kernel
theorem dX8_chimneyOn_0 : decode cX8_chimneyOn 0 = .ok (.iload_n 1, 1) := by decide +kernel
theorem dX8_chimneyOn_1 : decode cX8_chimneyOn 1 = .ok (.iconst 0, 1) := by decide +kernel
theorem dX8_chimneyOn_2 : decode cX8_chimneyOn 2 = .ok (.bipush 7, 2) := by decide +kernel
theorem dX8_chimneyOn_4 : decode cX8_chimneyOn 4 = .ok (.invokestatic 48, 3) := by decide +kernel
theorem dX8_chimneyOn_7 : decode cX8_chimneyOn 7 = .ok (.ifCond .ne 14, 3) := by decide +kernel
theorem dX8_chimneyOn_10 : decode cX8_chimneyOn 10 = .ok (.new 308, 3) := by decide +kernel
theorem dX8_chimneyOn_13 : decode cX8_chimneyOn 13 = .ok (.dup, 1) := by decide +kernel
theorem dX8_chimneyOn_14 : decode cX8_chimneyOn 14 = .ok (.ldc_w 310, 3) := by decide +kernel
theorem dX8_chimneyOn_17 : decode cX8_chimneyOn 17 = .ok (.invokespecial 312, 3) := by decide +kernel
theorem dX8_chimneyOn_20 : decode cX8_chimneyOn 20 = .ok (.athrow, 1) := by decide +kernel
theorem dX8_chimneyOn_21 : decode cX8_chimneyOn 21 = .ok (.aload_n 0, 1) := by decide +kernel
theorem dX8_chimneyOn_22 : decode cX8_chimneyOn 22 = .ok (.getfield 242, 3) := by decide +kernel
theorem dX8_chimneyOn_25 : decode cX8_chimneyOn 25 = .ok (.iload_n 1, 1) := by decide +kernel
theorem dX8_chimneyOn_26 : decode cX8_chimneyOn 26 = .ok (.aaload, 1) := by decide +kernel
theorem dX8_chimneyOn_27 : decode cX8_chimneyOn 27 = .ok (.areturn, 1) := by decide +kernel
theorem dX8_observerNow_0 : decode cX8_observerNow 0 = .ok (.iload_n 1, 1) := by decide +kernel
theorem dX8_observerNow_1 : decode cX8_observerNow 1 = .ok (.iconst 0, 1) := by decide +kernel
theorem dX8_observerNow_2 : decode cX8_observerNow 2 = .ok (.iconst 2, 1) := by decide +kernel
theorem dX8_observerNow_3 : decode cX8_observerNow 3 = .ok (.invokestatic 48, 3) := by decide +kernel
theorem dX8_observerNow_6 : decode cX8_observerNow 6 = .ok (.ifCond .ne 14, 3) := by decide +kernel
theorem dX8_observerNow_9 : decode cX8_observerNow 9 = .ok (.new 308, 3) := by decide +kernel
theorem dX8_observerNow_12 : decode cX8_observerNow 12 = .ok (.dup, 1) := by decide +kernel
theorem dX8_observerNow_13 : decode cX8_observerNow 13 = .ok (.ldc_w 313, 3) := by decide +kernel
theorem dX8_observerNow_16 : decode cX8_observerNow 16 = .ok (.invokespecial 312, 3) := by decide +kernel
theorem dX8_observerNow_19 : decode cX8_observerNow 19 = .ok (.athrow, 1) := by decide +kernel
theorem dX8_observerNow_20 : decode cX8_observerNow 20 = .ok (.aload_n 0, 1) := by decide +kernel
theorem dX8_observerNow_21 : decode cX8_observerNow 21 = .ok (.getfield 10, 3) := by decide +kernel
theorem dX8_observerNow_24 : decode cX8_observerNow 24 = .ok (.getfield 315, 3) := by decide +kernel
theorem dX8_observerNow_27 : decode cX8_observerNow 27 = .ok (.iload_n 1, 1) := by decide +kernel
theorem dX8_observerNow_28 : decode cX8_observerNow 28 = .ok (.aaload, 1) := by decide +kernel
theorem dX8_observerNow_29 : decode cX8_observerNow 29 = .ok (.areturn, 1) := by decide +kernel
theorem dX8_noticeNow_0 : decode cX8_noticeNow 0 = .ok (.aload_n 0, 1) := by decide +kernel
theorem dX8_noticeNow_1 : decode cX8_noticeNow 1 = .ok (.getfield 10, 3) := by decide +kernel
theorem dX8_noticeNow_4 : decode cX8_noticeNow 4 = .ok (.iload_n 1, 1) := by decide +kernel
theorem dX8_noticeNow_5 : decode cX8_noticeNow 5 = .ok (.invokevirtual 319, 3) := by decide +kernel
theorem dX8_noticeNow_8 : decode cX8_noticeNow 8 = .ok (.ifCond .ne 14, 3) := by decide +kernel
theorem dX8_noticeNow_11 : decode cX8_noticeNow 11 = .ok (.new 308, 3) := by decide +kernel
theorem dX8_noticeNow_14 : decode cX8_noticeNow 14 = .ok (.dup, 1) := by decide +kernel
theorem dX8_noticeNow_15 : decode cX8_noticeNow 15 = .ok (.ldc_w 322, 3) := by decide +kernel
theorem dX8_noticeNow_18 : decode cX8_noticeNow 18 = .ok (.invokespecial 312, 3) := by decide +kernel
theorem dX8_noticeNow_21 : decode cX8_noticeNow 21 = .ok (.athrow, 1) := by decide +kernel
theorem dX8_noticeNow_22 : decode cX8_noticeNow 22 = .ok (.aload_n 0, 1) := by decide +kernel
theorem dX8_noticeNow_23 : decode cX8_noticeNow 23 = .ok (.getfield 10, 3) := by decide +kernel
theorem dX8_noticeNow_26 : decode cX8_noticeNow 26 = .ok (.getfield 324, 3) := by decide +kernel
theorem dX8_noticeNow_29 : decode cX8_noticeNow 29 = .ok (.iload_n 1, 1) := by decide +kernel
theorem dX8_noticeNow_30 : decode cX8_noticeNow 30 = .ok (.aaload, 1) := by decide +kernel
theorem dX8_noticeNow_31 : decode cX8_noticeNow 31 = .ok (.areturn, 1) := by decide +kernel
theorem dX8_slotNumbered_0 : decode cX8_slotNumbered 0 = .ok (.iload_n 1, 1) := by decide +kernel
theorem dX8_slotNumbered_1 : decode cX8_slotNumbered 1 = .ok (.iconst 0, 1) := by decide +kernel
theorem dX8_slotNumbered_2 : decode cX8_slotNumbered 2 = .ok (.iconst 1, 1) := by decide +kernel
theorem dX8_slotNumbered_3 : decode cX8_slotNumbered 3 = .ok (.invokestatic 48, 3) := by decide +kernel
theorem dX8_slotNumbered_6 : decode cX8_slotNumbered 6 = .ok (.ifCond .ne 14, 3) := by decide +kernel
theorem dX8_slotNumbered_9 : decode cX8_slotNumbered 9 = .ok (.new 308, 3) := by decide +kernel
theorem dX8_slotNumbered_12 : decode cX8_slotNumbered 12 = .ok (.dup, 1) := by decide +kernel
theorem dX8_slotNumbered_13 : decode cX8_slotNumbered 13 = .ok (.ldc_w 328, 3) := by decide +kernel
theorem dX8_slotNumbered_16 : decode cX8_slotNumbered 16 = .ok (.invokespecial 312, 3) := by decide +kernel
theorem dX8_slotNumbered_19 : decode cX8_slotNumbered 19 = .ok (.athrow, 1) := by decide +kernel
theorem dX8_slotNumbered_20 : decode cX8_slotNumbered 20 = .ok (.aload_n 0, 1) := by decide +kernel
theorem dX8_slotNumbered_21 : decode cX8_slotNumbered 21 = .ok (.getfield 28, 3) := by decide +kernel
theorem dX8_slotNumbered_24 : decode cX8_slotNumbered 24 = .ok (.iload_n 1, 1) := by decide +kernel
theorem dX8_slotNumbered_25 : decode cX8_slotNumbered 25 = .ok (.aaload, 1) := by decide +kernel
theorem dX8_slotNumbered_26 : decode cX8_slotNumbered 26 = .ok (.areturn, 1) := by decide +kernel
theorem dX8_carryOut_0 : decode cX8_carryOut 0 = .ok (.iload_n 1, 1) := by decide +kernel
theorem dX8_carryOut_1 : decode cX8_carryOut 1 = .ok (.lookupswitch 153 #[(46, 141), (97, 133), (100, 106), (102, 91), (103, 121), (111, 67), (114, 79)], 67) := by decide +kernel
theorem dX8_carryOut_68 : decode cX8_carryOut 68 = .ok (.aload_n 0, 1) := by decide +kernel
theorem dX8_carryOut_69 : decode cX8_carryOut 69 = .ok (.iload_n 2, 1) := by decide +kernel
theorem dX8_carryOut_70 : decode cX8_carryOut 70 = .ok (.invokevirtual 89, 3) := by decide +kernel
theorem dX8_carryOut_73 : decode cX8_carryOut 73 = .ok (.iload_n 3, 1) := by decide +kernel
theorem dX8_carryOut_74 : decode cX8_carryOut 74 = .ok (.putfield 93, 3) := by decide +kernel
theorem dX8_carryOut_77 : decode cX8_carryOut 77 = .ok (.goto 77, 3) := by decide +kernel
theorem dX8_carryOut_80 : decode cX8_carryOut 80 = .ok (.aload_n 0, 1) := by decide +kernel
theorem dX8_carryOut_81 : decode cX8_carryOut 81 = .ok (.iload_n 2, 1) := by decide +kernel
theorem dX8_carryOut_82 : decode cX8_carryOut 82 = .ok (.invokevirtual 89, 3) := by decide +kernel
theorem dX8_carryOut_85 : decode cX8_carryOut 85 = .ok (.iconst (-1), 1) := by decide +kernel
theorem dX8_carryOut_86 : decode cX8_carryOut 86 = .ok (.putfield 93, 3) := by decide +kernel
theorem dX8_carryOut_89 : decode cX8_carryOut 89 = .ok (.goto 65, 3) := by decide +kernel
theorem dX8_carryOut_92 : decode cX8_carryOut 92 = .ok (.aload_n 0, 1) := by decide +kernel
theorem dX8_carryOut_93 : decode cX8_carryOut 93 = .ok (.getfield 10, 3) := by decide +kernel
theorem dX8_carryOut_96 : decode cX8_carryOut 96 = .ok (.iload_n 2, 1) := by decide +kernel
theorem dX8_carryOut_97 : decode cX8_carryOut 97 = .ok (.invokestatic 44, 3) := by decide +kernel
theorem dX8_carryOut_100 : decode cX8_carryOut 100 = .ok (.iload_n 3, 1) := by decide +kernel
theorem dX8_carryOut_101 : decode cX8_carryOut 101 = .ok (.putfield 60, 3) := by decide +kernel
theorem dX8_carryOut_104 : decode cX8_carryOut 104 = .ok (.goto 50, 3) := by decide +kernel
theorem dX8_carryOut_107 : decode cX8_carryOut 107 = .ok (.aload_n 0, 1) := by decide +kernel
theorem dX8_carryOut_108 : decode cX8_carryOut 108 = .ok (.getfield 10, 3) := by decide +kernel
theorem dX8_carryOut_111 : decode cX8_carryOut 111 = .ok (.iload_n 2, 1) := by decide +kernel
theorem dX8_carryOut_112 : decode cX8_carryOut 112 = .ok (.invokestatic 44, 3) := by decide +kernel
theorem dX8_carryOut_115 : decode cX8_carryOut 115 = .ok (.iload_n 3, 1) := by decide +kernel
theorem dX8_carryOut_116 : decode cX8_carryOut 116 = .ok (.putfield 66, 3) := by decide +kernel
theorem dX8_carryOut_119 : decode cX8_carryOut 119 = .ok (.goto 35, 3) := by decide +kernel
theorem dX8_carryOut_122 : decode cX8_carryOut 122 = .ok (.aload_n 0, 1) := by decide +kernel
theorem dX8_carryOut_123 : decode cX8_carryOut 123 = .ok (.getfield 10, 3) := by decide +kernel
theorem dX8_carryOut_126 : decode cX8_carryOut 126 = .ok (.iload_n 2, 1) := by decide +kernel
theorem dX8_carryOut_127 : decode cX8_carryOut 127 = .ok (.iload_n 3, 1) := by decide +kernel
theorem dX8_carryOut_128 : decode cX8_carryOut 128 = .ok (.invokevirtual 85, 3) := by decide +kernel
theorem dX8_carryOut_131 : decode cX8_carryOut 131 = .ok (.goto 23, 3) := by decide +kernel
theorem dX8_carryOut_134 : decode cX8_carryOut 134 = .ok (.aload_n 0, 1) := by decide +kernel
theorem dX8_carryOut_135 : decode cX8_carryOut 135 = .ok (.iload_n 2, 1) := by decide +kernel
theorem dX8_carryOut_136 : decode cX8_carryOut 136 = .ok (.invokevirtual 330, 3) := by decide +kernel
theorem dX8_carryOut_139 : decode cX8_carryOut 139 = .ok (.goto 15, 3) := by decide +kernel
theorem dX8_carryOut_142 : decode cX8_carryOut 142 = .ok (.aload_n 0, 1) := by decide +kernel
theorem dX8_carryOut_143 : decode cX8_carryOut 143 = .ok (.getfield 10, 3) := by decide +kernel
theorem dX8_carryOut_146 : decode cX8_carryOut 146 = .ok (.iload_n 2, 1) := by decide +kernel
theorem dX8_carryOut_147 : decode cX8_carryOut 147 = .ok (.invokevirtual 107, 3) := by decide +kernel
theorem dX8_carryOut_150 : decode cX8_carryOut 150 = .ok (.pop, 1) := by decide +kernel
theorem dX8_carryOut_151 : decode cX8_carryOut 151 = .ok (.goto 3, 3) := by decide +kernel
theorem dX8_carryOut_154 : decode cX8_carryOut 154 = .ok (.return_, 1) := by decide +kernel
theorem dX8_appealIfPossible_0 : decode cX8_appealIfPossible 0 = .ok (.aload_n 0, 1) := by decide +kernel
theorem dX8_appealIfPossible_1 : decode cX8_appealIfPossible 1 = .ok (.getfield 10, 3) := by decide +kernel
theorem dX8_appealIfPossible_4 : decode cX8_appealIfPossible 4 = .ok (.iload_n 1, 1) := by decide +kernel
theorem dX8_appealIfPossible_5 : decode cX8_appealIfPossible 5 = .ok (.invokevirtual 319, 3) := by decide +kernel
theorem dX8_appealIfPossible_8 : decode cX8_appealIfPossible 8 = .ok (.ifCond .eq 34, 3) := by decide +kernel
theorem dX8_appealIfPossible_11 : decode cX8_appealIfPossible 11 = .ok (.aload_n 0, 1) := by decide +kernel
theorem dX8_appealIfPossible_12 : decode cX8_appealIfPossible 12 = .ok (.getfield 10, 3) := by decide +kernel
theorem dX8_appealIfPossible_15 : decode cX8_appealIfPossible 15 = .ok (.getfield 324, 3) := by decide +kernel
theorem dX8_appealIfPossible_18 : decode cX8_appealIfPossible 18 = .ok (.iload_n 1, 1) := by decide +kernel
theorem dX8_appealIfPossible_19 : decode cX8_appealIfPossible 19 = .ok (.aaload, 1) := by decide +kernel
theorem dX8_appealIfPossible_20 : decode cX8_appealIfPossible 20 = .ok (.getfield 114, 3) := by decide +kernel
theorem dX8_appealIfPossible_23 : decode cX8_appealIfPossible 23 = .ok (.ifCond .ne 19, 3) := by decide +kernel
theorem dX8_appealIfPossible_26 : decode cX8_appealIfPossible 26 = .ok (.aload_n 0, 1) := by decide +kernel
theorem dX8_appealIfPossible_27 : decode cX8_appealIfPossible 27 = .ok (.getfield 10, 3) := by decide +kernel
theorem dX8_appealIfPossible_30 : decode cX8_appealIfPossible 30 = .ok (.aload_n 0, 1) := by decide +kernel
theorem dX8_appealIfPossible_31 : decode cX8_appealIfPossible 31 = .ok (.getfield 10, 3) := by decide +kernel
theorem dX8_appealIfPossible_34 : decode cX8_appealIfPossible 34 = .ok (.getfield 324, 3) := by decide +kernel
theorem dX8_appealIfPossible_37 : decode cX8_appealIfPossible 37 = .ok (.iload_n 1, 1) := by decide +kernel
theorem dX8_appealIfPossible_38 : decode cX8_appealIfPossible 38 = .ok (.aaload, 1) := by decide +kernel
theorem dX8_appealIfPossible_39 : decode cX8_appealIfPossible 39 = .ok (.invokevirtual 127, 3) := by decide +kernel
theorem dX8_appealIfPossible_42 : decode cX8_appealIfPossible 42 = .ok (.return_, 1) := by decide +kernel
theorem dX8_smokiestBySets_0 : decode cX8_smokiestBySets 0 = .ok (.iconst (-1), 1) := by decide +kernel
theorem dX8_smokiestBySets_1 : decode cX8_smokiestBySets 1 = .ok (.istore_n 1, 1) := by decide +kernel
theorem dX8_smokiestBySets_2 : decode cX8_smokiestBySets 2 = .ok (.iconst (-1), 1) := by decide +kernel
theorem dX8_smokiestBySets_3 : decode cX8_smokiestBySets 3 = .ok (.istore_n 2, 1) := by decide +kernel
theorem dX8_smokiestBySets_4 : decode cX8_smokiestBySets 4 = .ok (.iconst 0, 1) := by decide +kernel
theorem dX8_smokiestBySets_5 : decode cX8_smokiestBySets 5 = .ok (.istore_n 3, 1) := by decide +kernel
theorem dX8_smokiestBySets_6 : decode cX8_smokiestBySets 6 = .ok (.iload_n 3, 1) := by decide +kernel
theorem dX8_smokiestBySets_7 : decode cX8_smokiestBySets 7 = .ok (.sipush 256, 3) := by decide +kernel
theorem dX8_smokiestBySets_10 : decode cX8_smokiestBySets 10 = .ok (.if_icmp .ge 35, 3) := by decide +kernel
theorem dX8_smokiestBySets_13 : decode cX8_smokiestBySets 13 = .ok (.iload_n 3, 1) := by decide +kernel
theorem dX8_smokiestBySets_14 : decode cX8_smokiestBySets 14 = .ok (.invokestatic 334, 3) := by decide +kernel
theorem dX8_smokiestBySets_17 : decode cX8_smokiestBySets 17 = .ok (.iconst 3, 1) := by decide +kernel
theorem dX8_smokiestBySets_18 : decode cX8_smokiestBySets 18 = .ok (.if_icmp .ne 21, 3) := by decide +kernel
theorem dX8_smokiestBySets_21 : decode cX8_smokiestBySets 21 = .ok (.aload_n 0, 1) := by decide +kernel
theorem dX8_smokiestBySets_22 : decode cX8_smokiestBySets 22 = .ok (.iload_n 3, 1) := by decide +kernel
theorem dX8_smokiestBySets_23 : decode cX8_smokiestBySets 23 = .ok (.invokevirtual 339, 3) := by decide +kernel
theorem dX8_smokiestBySets_26 : decode cX8_smokiestBySets 26 = .ok (.istore 4, 2) := by decide +kernel
theorem dX8_smokiestBySets_28 : decode cX8_smokiestBySets 28 = .ok (.iload 4, 2) := by decide +kernel
theorem dX8_smokiestBySets_30 : decode cX8_smokiestBySets 30 = .ok (.iload_n 2, 1) := by decide +kernel
theorem dX8_smokiestBySets_31 : decode cX8_smokiestBySets 31 = .ok (.if_icmp .le 8, 3) := by decide +kernel
theorem dX8_smokiestBySets_34 : decode cX8_smokiestBySets 34 = .ok (.iload 4, 2) := by decide +kernel
theorem dX8_smokiestBySets_36 : decode cX8_smokiestBySets 36 = .ok (.istore_n 2, 1) := by decide +kernel
theorem dX8_smokiestBySets_37 : decode cX8_smokiestBySets 37 = .ok (.iload_n 3, 1) := by decide +kernel
theorem dX8_smokiestBySets_38 : decode cX8_smokiestBySets 38 = .ok (.istore_n 1, 1) := by decide +kernel
theorem dX8_smokiestBySets_39 : decode cX8_smokiestBySets 39 = .ok (.iinc 3 1, 3) := by decide +kernel
theorem dX8_smokiestBySets_42 : decode cX8_smokiestBySets 42 = .ok (.goto (-36), 3) := by decide +kernel
theorem dX8_smokiestBySets_45 : decode cX8_smokiestBySets 45 = .ok (.iload_n 1, 1) := by decide +kernel
theorem dX8_smokiestBySets_46 : decode cX8_smokiestBySets 46 = .ok (.ireturn, 1) := by decide +kernel
theorem dX8_smokeOfSet_0 : decode cX8_smokeOfSet 0 = .ok (.iconst 0, 1) := by decide +kernel
theorem dX8_smokeOfSet_1 : decode cX8_smokeOfSet 1 = .ok (.istore_n 2, 1) := by decide +kernel
theorem dX8_smokeOfSet_2 : decode cX8_smokeOfSet 2 = .ok (.iconst 0, 1) := by decide +kernel
theorem dX8_smokeOfSet_3 : decode cX8_smokeOfSet 3 = .ok (.istore_n 3, 1) := by decide +kernel
theorem dX8_smokeOfSet_4 : decode cX8_smokeOfSet 4 = .ok (.iload_n 3, 1) := by decide +kernel
theorem dX8_smokeOfSet_5 : decode cX8_smokeOfSet 5 = .ok (.bipush 8, 2) := by decide +kernel
theorem dX8_smokeOfSet_7 : decode cX8_smokeOfSet 7 = .ok (.if_icmp .ge 27, 3) := by decide +kernel
theorem dX8_smokeOfSet_10 : decode cX8_smokeOfSet 10 = .ok (.iload_n 1, 1) := by decide +kernel
theorem dX8_smokeOfSet_11 : decode cX8_smokeOfSet 11 = .ok (.iload_n 3, 1) := by decide +kernel
theorem dX8_smokeOfSet_12 : decode cX8_smokeOfSet 12 = .ok (.ishr, 1) := by decide +kernel
theorem dX8_smokeOfSet_13 : decode cX8_smokeOfSet 13 = .ok (.iconst 1, 1) := by decide +kernel
theorem dX8_smokeOfSet_14 : decode cX8_smokeOfSet 14 = .ok (.iand, 1) := by decide +kernel
theorem dX8_smokeOfSet_15 : decode cX8_smokeOfSet 15 = .ok (.iconst 1, 1) := by decide +kernel
theorem dX8_smokeOfSet_16 : decode cX8_smokeOfSet 16 = .ok (.if_icmp .ne 12, 3) := by decide +kernel
theorem dX8_smokeOfSet_19 : decode cX8_smokeOfSet 19 = .ok (.iload_n 2, 1) := by decide +kernel
theorem dX8_smokeOfSet_20 : decode cX8_smokeOfSet 20 = .ok (.aload_n 0, 1) := by decide +kernel
theorem dX8_smokeOfSet_21 : decode cX8_smokeOfSet 21 = .ok (.getfield 39, 3) := by decide +kernel
theorem dX8_smokeOfSet_24 : decode cX8_smokeOfSet 24 = .ok (.iload_n 3, 1) := by decide +kernel
theorem dX8_smokeOfSet_25 : decode cX8_smokeOfSet 25 = .ok (.iaload, 1) := by decide +kernel
theorem dX8_smokeOfSet_26 : decode cX8_smokeOfSet 26 = .ok (.iadd, 1) := by decide +kernel
theorem dX8_smokeOfSet_27 : decode cX8_smokeOfSet 27 = .ok (.istore_n 2, 1) := by decide +kernel
theorem dX8_smokeOfSet_28 : decode cX8_smokeOfSet 28 = .ok (.iinc 3 1, 3) := by decide +kernel
theorem dX8_smokeOfSet_31 : decode cX8_smokeOfSet 31 = .ok (.goto (-27), 3) := by decide +kernel
theorem dX8_smokeOfSet_34 : decode cX8_smokeOfSet 34 = .ok (.iload_n 2, 1) := by decide +kernel
theorem dX8_smokeOfSet_35 : decode cX8_smokeOfSet 35 = .ok (.ireturn, 1) := by decide +kernel
theorem dX8_smokiestByPicking_0 : decode cX8_smokiestByPicking 0 = .ok (.iconst 0, 1) := by decide +kernel
theorem dX8_smokiestByPicking_1 : decode cX8_smokiestByPicking 1 = .ok (.istore_n 1, 1) := by decide +kernel
theorem dX8_smokiestByPicking_2 : decode cX8_smokiestByPicking 2 = .ok (.iconst 0, 1) := by decide +kernel
theorem dX8_smokiestByPicking_3 : decode cX8_smokiestByPicking 3 = .ok (.istore_n 2, 1) := by decide +kernel
theorem dX8_smokiestByPicking_4 : decode cX8_smokiestByPicking 4 = .ok (.iload_n 2, 1) := by decide +kernel
theorem dX8_smokiestByPicking_5 : decode cX8_smokiestByPicking 5 = .ok (.iconst 3, 1) := by decide +kernel
theorem dX8_smokiestByPicking_6 : decode cX8_smokiestByPicking 6 = .ok (.if_icmp .ge 19, 3) := by decide +kernel
theorem dX8_smokiestByPicking_9 : decode cX8_smokiestByPicking 9 = .ok (.iload_n 1, 1) := by decide +kernel
theorem dX8_smokiestByPicking_10 : decode cX8_smokiestByPicking 10 = .ok (.iconst 1, 1) := by decide +kernel
theorem dX8_smokiestByPicking_11 : decode cX8_smokiestByPicking 11 = .ok (.aload_n 0, 1) := by decide +kernel
theorem dX8_smokiestByPicking_12 : decode cX8_smokiestByPicking 12 = .ok (.iload_n 1, 1) := by decide +kernel
theorem dX8_smokiestByPicking_13 : decode cX8_smokiestByPicking 13 = .ok (.invokevirtual 342, 3) := by decide +kernel
theorem dX8_smokiestByPicking_16 : decode cX8_smokiestByPicking 16 = .ok (.ishl, 1) := by decide +kernel
theorem dX8_smokiestByPicking_17 : decode cX8_smokiestByPicking 17 = .ok (.ior, 1) := by decide +kernel
theorem dX8_smokiestByPicking_18 : decode cX8_smokiestByPicking 18 = .ok (.istore_n 1, 1) := by decide +kernel
theorem dX8_smokiestByPicking_19 : decode cX8_smokiestByPicking 19 = .ok (.iinc 2 1, 3) := by decide +kernel
theorem dX8_smokiestByPicking_22 : decode cX8_smokiestByPicking 22 = .ok (.goto (-18), 3) := by decide +kernel
theorem dX8_smokiestByPicking_25 : decode cX8_smokiestByPicking 25 = .ok (.iload_n 1, 1) := by decide +kernel
theorem dX8_smokiestByPicking_26 : decode cX8_smokiestByPicking 26 = .ok (.ireturn, 1) := by decide +kernel
theorem dX8_smokiestOutside_0 : decode cX8_smokiestOutside 0 = .ok (.iconst 0, 1) := by decide +kernel
theorem dX8_smokiestOutside_1 : decode cX8_smokiestOutside 1 = .ok (.istore_n 2, 1) := by decide +kernel
theorem dX8_smokiestOutside_2 : decode cX8_smokiestOutside 2 = .ok (.iconst (-1), 1) := by decide +kernel
theorem dX8_smokiestOutside_3 : decode cX8_smokiestOutside 3 = .ok (.istore_n 3, 1) := by decide +kernel
theorem dX8_smokiestOutside_4 : decode cX8_smokiestOutside 4 = .ok (.iconst 0, 1) := by decide +kernel
theorem dX8_smokiestOutside_5 : decode cX8_smokiestOutside 5 = .ok (.istore 4, 2) := by decide +kernel
theorem dX8_smokiestOutside_7 : decode cX8_smokiestOutside 7 = .ok (.iload 4, 2) := by decide +kernel
theorem dX8_smokiestOutside_9 : decode cX8_smokiestOutside 9 = .ok (.bipush 8, 2) := by decide +kernel
theorem dX8_smokiestOutside_11 : decode cX8_smokiestOutside 11 = .ok (.if_icmp .ge 40, 3) := by decide +kernel
theorem dX8_smokiestOutside_14 : decode cX8_smokiestOutside 14 = .ok (.iload_n 1, 1) := by decide +kernel
theorem dX8_smokiestOutside_15 : decode cX8_smokiestOutside 15 = .ok (.iload 4, 2) := by decide +kernel
theorem dX8_smokiestOutside_17 : decode cX8_smokiestOutside 17 = .ok (.ishr, 1) := by decide +kernel
theorem dX8_smokiestOutside_18 : decode cX8_smokiestOutside 18 = .ok (.iconst 1, 1) := by decide +kernel
theorem dX8_smokiestOutside_19 : decode cX8_smokiestOutside 19 = .ok (.iand, 1) := by decide +kernel
theorem dX8_smokiestOutside_20 : decode cX8_smokiestOutside 20 = .ok (.ifCond .ne 25, 3) := by decide +kernel
theorem dX8_smokiestOutside_23 : decode cX8_smokiestOutside 23 = .ok (.aload_n 0, 1) := by decide +kernel
theorem dX8_smokiestOutside_24 : decode cX8_smokiestOutside 24 = .ok (.getfield 39, 3) := by decide +kernel
theorem dX8_smokiestOutside_27 : decode cX8_smokiestOutside 27 = .ok (.iload 4, 2) := by decide +kernel
theorem dX8_smokiestOutside_29 : decode cX8_smokiestOutside 29 = .ok (.iaload, 1) := by decide +kernel
theorem dX8_smokiestOutside_30 : decode cX8_smokiestOutside 30 = .ok (.iload_n 3, 1) := by decide +kernel
theorem dX8_smokiestOutside_31 : decode cX8_smokiestOutside 31 = .ok (.if_icmp .le 14, 3) := by decide +kernel
theorem dX8_smokiestOutside_34 : decode cX8_smokiestOutside 34 = .ok (.aload_n 0, 1) := by decide +kernel
theorem dX8_smokiestOutside_35 : decode cX8_smokiestOutside 35 = .ok (.getfield 39, 3) := by decide +kernel
theorem dX8_smokiestOutside_38 : decode cX8_smokiestOutside 38 = .ok (.iload 4, 2) := by decide +kernel
theorem dX8_smokiestOutside_40 : decode cX8_smokiestOutside 40 = .ok (.iaload, 1) := by decide +kernel
theorem dX8_smokiestOutside_41 : decode cX8_smokiestOutside 41 = .ok (.istore_n 3, 1) := by decide +kernel
theorem dX8_smokiestOutside_42 : decode cX8_smokiestOutside 42 = .ok (.iload 4, 2) := by decide +kernel
theorem dX8_smokiestOutside_44 : decode cX8_smokiestOutside 44 = .ok (.istore_n 2, 1) := by decide +kernel
theorem dX8_smokiestOutside_45 : decode cX8_smokiestOutside 45 = .ok (.iinc 4 1, 3) := by decide +kernel
theorem dX8_smokiestOutside_48 : decode cX8_smokiestOutside 48 = .ok (.goto (-41), 3) := by decide +kernel
theorem dX8_smokiestOutside_51 : decode cX8_smokiestOutside 51 = .ok (.iload_n 2, 1) := by decide +kernel
theorem dX8_smokiestOutside_52 : decode cX8_smokiestOutside 52 = .ok (.ireturn, 1) := by decide +kernel
theorem dJ6_bitCount_0f7a4_0 : decode cJ6_bitCount_0f7a4 0 = .ok (.iload_n 0, 1) := by decide +kernel
theorem dJ6_bitCount_0f7a4_1 : decode cJ6_bitCount_0f7a4 1 = .ok (.iload_n 0, 1) := by decide +kernel
theorem dJ6_bitCount_0f7a4_2 : decode cJ6_bitCount_0f7a4 2 = .ok (.iconst 1, 1) := by decide +kernel
theorem dJ6_bitCount_0f7a4_3 : decode cJ6_bitCount_0f7a4 3 = .ok (.iushr, 1) := by decide +kernel
theorem dJ6_bitCount_0f7a4_4 : decode cJ6_bitCount_0f7a4 4 = .ok (.ldc_w 265, 3) := by decide +kernel
theorem dJ6_bitCount_0f7a4_7 : decode cJ6_bitCount_0f7a4 7 = .ok (.iand, 1) := by decide +kernel
theorem dJ6_bitCount_0f7a4_8 : decode cJ6_bitCount_0f7a4 8 = .ok (.isub, 1) := by decide +kernel
theorem dJ6_bitCount_0f7a4_9 : decode cJ6_bitCount_0f7a4 9 = .ok (.istore_n 0, 1) := by decide +kernel
theorem dJ6_bitCount_0f7a4_10 : decode cJ6_bitCount_0f7a4 10 = .ok (.iload_n 0, 1) := by decide +kernel
theorem dJ6_bitCount_0f7a4_11 : decode cJ6_bitCount_0f7a4 11 = .ok (.ldc_w 266, 3) := by decide +kernel
theorem dJ6_bitCount_0f7a4_14 : decode cJ6_bitCount_0f7a4 14 = .ok (.iand, 1) := by decide +kernel
theorem dJ6_bitCount_0f7a4_15 : decode cJ6_bitCount_0f7a4 15 = .ok (.iload_n 0, 1) := by decide +kernel
theorem dJ6_bitCount_0f7a4_16 : decode cJ6_bitCount_0f7a4 16 = .ok (.iconst 2, 1) := by decide +kernel
theorem dJ6_bitCount_0f7a4_17 : decode cJ6_bitCount_0f7a4 17 = .ok (.iushr, 1) := by decide +kernel
theorem dJ6_bitCount_0f7a4_18 : decode cJ6_bitCount_0f7a4 18 = .ok (.ldc_w 266, 3) := by decide +kernel
theorem dJ6_bitCount_0f7a4_21 : decode cJ6_bitCount_0f7a4 21 = .ok (.iand, 1) := by decide +kernel
theorem dJ6_bitCount_0f7a4_22 : decode cJ6_bitCount_0f7a4 22 = .ok (.iadd, 1) := by decide +kernel
theorem dJ6_bitCount_0f7a4_23 : decode cJ6_bitCount_0f7a4 23 = .ok (.istore_n 0, 1) := by decide +kernel
theorem dJ6_bitCount_0f7a4_24 : decode cJ6_bitCount_0f7a4 24 = .ok (.iload_n 0, 1) := by decide +kernel
theorem dJ6_bitCount_0f7a4_25 : decode cJ6_bitCount_0f7a4 25 = .ok (.iload_n 0, 1) := by decide +kernel
theorem dJ6_bitCount_0f7a4_26 : decode cJ6_bitCount_0f7a4 26 = .ok (.iconst 4, 1) := by decide +kernel
theorem dJ6_bitCount_0f7a4_27 : decode cJ6_bitCount_0f7a4 27 = .ok (.iushr, 1) := by decide +kernel
theorem dJ6_bitCount_0f7a4_28 : decode cJ6_bitCount_0f7a4 28 = .ok (.iadd, 1) := by decide +kernel
theorem dJ6_bitCount_0f7a4_29 : decode cJ6_bitCount_0f7a4 29 = .ok (.ldc_w 267, 3) := by decide +kernel
theorem dJ6_bitCount_0f7a4_32 : decode cJ6_bitCount_0f7a4 32 = .ok (.iand, 1) := by decide +kernel
theorem dJ6_bitCount_0f7a4_33 : decode cJ6_bitCount_0f7a4 33 = .ok (.istore_n 0, 1) := by decide +kernel
theorem dJ6_bitCount_0f7a4_34 : decode cJ6_bitCount_0f7a4 34 = .ok (.iload_n 0, 1) := by decide +kernel
theorem dJ6_bitCount_0f7a4_35 : decode cJ6_bitCount_0f7a4 35 = .ok (.iload_n 0, 1) := by decide +kernel
theorem dJ6_bitCount_0f7a4_36 : decode cJ6_bitCount_0f7a4 36 = .ok (.bipush 8, 2) := by decide +kernel
theorem dJ6_bitCount_0f7a4_38 : decode cJ6_bitCount_0f7a4 38 = .ok (.iushr, 1) := by decide +kernel
theorem dJ6_bitCount_0f7a4_39 : decode cJ6_bitCount_0f7a4 39 = .ok (.iadd, 1) := by decide +kernel
theorem dJ6_bitCount_0f7a4_40 : decode cJ6_bitCount_0f7a4 40 = .ok (.istore_n 0, 1) := by decide +kernel
theorem dJ6_bitCount_0f7a4_41 : decode cJ6_bitCount_0f7a4 41 = .ok (.iload_n 0, 1) := by decide +kernel
theorem dJ6_bitCount_0f7a4_42 : decode cJ6_bitCount_0f7a4 42 = .ok (.iload_n 0, 1) := by decide +kernel
theorem dJ6_bitCount_0f7a4_43 : decode cJ6_bitCount_0f7a4 43 = .ok (.bipush 16, 2) := by decide +kernel
theorem dJ6_bitCount_0f7a4_45 : decode cJ6_bitCount_0f7a4 45 = .ok (.iushr, 1) := by decide +kernel
theorem dJ6_bitCount_0f7a4_46 : decode cJ6_bitCount_0f7a4 46 = .ok (.iadd, 1) := by decide +kernel
theorem dJ6_bitCount_0f7a4_47 : decode cJ6_bitCount_0f7a4 47 = .ok (.istore_n 0, 1) := by decide +kernel
theorem dJ6_bitCount_0f7a4_48 : decode cJ6_bitCount_0f7a4 48 = .ok (.iload_n 0, 1) := by decide +kernel
theorem dJ6_bitCount_0f7a4_49 : decode cJ6_bitCount_0f7a4 49 = .ok (.bipush 63, 2) := by decide +kernel
theorem dJ6_bitCount_0f7a4_51 : decode cJ6_bitCount_0f7a4 51 = .ok (.iand, 1) := by decide +kernel
theorem dJ6_bitCount_0f7a4_52 : decode cJ6_bitCount_0f7a4 52 = .ok (.ireturn, 1) := by decide +kernel
theorem dJ7_fill_53178_0 : decode cJ7_fill_53178 0 = .ok (.iconst 0, 1) := by decide +kernel
theorem dJ7_fill_53178_1 : decode cJ7_fill_53178 1 = .ok (.istore_n 2, 1) := by decide +kernel
theorem dJ7_fill_53178_2 : decode cJ7_fill_53178 2 = .ok (.aload_n 0, 1) := by decide +kernel
theorem dJ7_fill_53178_3 : decode cJ7_fill_53178 3 = .ok (.arraylength, 1) := by decide +kernel
theorem dJ7_fill_53178_4 : decode cJ7_fill_53178 4 = .ok (.istore_n 3, 1) := by decide +kernel
theorem dJ7_fill_53178_5 : decode cJ7_fill_53178 5 = .ok (.iload_n 2, 1) := by decide +kernel
theorem dJ7_fill_53178_6 : decode cJ7_fill_53178 6 = .ok (.iload_n 3, 1) := by decide +kernel
theorem dJ7_fill_53178_7 : decode cJ7_fill_53178 7 = .ok (.if_icmp .ge 13, 3) := by decide +kernel
theorem dJ7_fill_53178_10 : decode cJ7_fill_53178 10 = .ok (.aload_n 0, 1) := by decide +kernel
theorem dJ7_fill_53178_11 : decode cJ7_fill_53178 11 = .ok (.iload_n 2, 1) := by decide +kernel
theorem dJ7_fill_53178_12 : decode cJ7_fill_53178 12 = .ok (.iload_n 1, 1) := by decide +kernel
theorem dJ7_fill_53178_13 : decode cJ7_fill_53178 13 = .ok (.iastore, 1) := by decide +kernel
theorem dJ7_fill_53178_14 : decode cJ7_fill_53178 14 = .ok (.iinc 2 1, 3) := by decide +kernel
theorem dJ7_fill_53178_17 : decode cJ7_fill_53178 17 = .ok (.goto (-12), 3) := by decide +kernel
theorem dJ7_fill_53178_20 : decode cJ7_fill_53178 20 = .ok (.return_, 1) := by decide +kernel
theorem dJ9_abs_0f7a4_0 : decode cJ9_abs_0f7a4 0 = .ok (.iload_n 0, 1) := by decide +kernel
theorem dJ9_abs_0f7a4_1 : decode cJ9_abs_0f7a4 1 = .ok (.ifCond .ge 8, 3) := by decide +kernel
theorem dJ9_abs_0f7a4_4 : decode cJ9_abs_0f7a4 4 = .ok (.iload_n 0, 1) := by decide +kernel
theorem dJ9_abs_0f7a4_5 : decode cJ9_abs_0f7a4 5 = .ok (.ineg, 1) := by decide +kernel
theorem dJ9_abs_0f7a4_6 : decode cJ9_abs_0f7a4 6 = .ok (.goto 4, 3) := by decide +kernel
theorem dJ9_abs_0f7a4_9 : decode cJ9_abs_0f7a4 9 = .ok (.iload_n 0, 1) := by decide +kernel
theorem dJ9_abs_0f7a4_10 : decode cJ9_abs_0f7a4 10 = .ok (.ireturn, 1) := by decide +kernel
theorem dJ9_max_7cf53_0 : decode cJ9_max_7cf53 0 = .ok (.iload_n 0, 1) := by decide +kernel
theorem dJ9_max_7cf53_1 : decode cJ9_max_7cf53 1 = .ok (.iload_n 1, 1) := by decide +kernel
theorem dJ9_max_7cf53_2 : decode cJ9_max_7cf53 2 = .ok (.if_icmp .lt 7, 3) := by decide +kernel
theorem dJ9_max_7cf53_5 : decode cJ9_max_7cf53 5 = .ok (.iload_n 0, 1) := by decide +kernel
theorem dJ9_max_7cf53_6 : decode cJ9_max_7cf53 6 = .ok (.goto 4, 3) := by decide +kernel
theorem dJ9_max_7cf53_9 : decode cJ9_max_7cf53 9 = .ok (.iload_n 1, 1) := by decide +kernel
theorem dJ9_max_7cf53_10 : decode cJ9_max_7cf53 10 = .ok (.ireturn, 1) := by decide +kernel
theorem dJ9_min_7cf53_0 : decode cJ9_min_7cf53 0 = .ok (.iload_n 0, 1) := by decide +kernel
theorem dJ9_min_7cf53_1 : decode cJ9_min_7cf53 1 = .ok (.iload_n 1, 1) := by decide +kernel
theorem dJ9_min_7cf53_2 : decode cJ9_min_7cf53 2 = .ok (.if_icmp .gt 7, 3) := by decide +kernel
theorem dJ9_min_7cf53_5 : decode cJ9_min_7cf53 5 = .ok (.iload_n 0, 1) := by decide +kernel
theorem dJ9_min_7cf53_6 : decode cJ9_min_7cf53 6 = .ok (.goto 4, 3) := by decide +kernel
theorem dJ9_min_7cf53_9 : decode cJ9_min_7cf53 9 = .ok (.iload_n 1, 1) := by decide +kernel
theorem dJ9_min_7cf53_10 : decode cJ9_min_7cf53 10 = .ok (.ireturn, 1) := by decide +kernel
