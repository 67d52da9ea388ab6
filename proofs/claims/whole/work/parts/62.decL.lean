theorem dL_setChimney_0 : decode cL_setChimney 0 = .ok (.aload 6, 2) := by decide +kernel
theorem dL_setChimney_2 : decode cL_setChimney 2 = .ok (.iconst 0, 1) := by decide +kernel
theorem dL_setChimney_3 : decode cL_setChimney 3 = .ok (.aload_n 0, 1) := by decide +kernel
theorem dL_setChimney_4 : decode cL_setChimney 4 = .ok (.iload_n 1, 1) := by decide +kernel
theorem dL_setChimney_5 : decode cL_setChimney 5 = .ok (.iload_n 2, 1) := by decide +kernel
theorem dL_setChimney_6 : decode cL_setChimney 6 = .ok (.iload_n 3, 1) := by decide +kernel
theorem dL_setChimney_7 : decode cL_setChimney 7 = .ok (.iload 4, 2) := by decide +kernel
theorem dL_setChimney_9 : decode cL_setChimney 9 = .ok (.iload 5, 2) := by decide +kernel
theorem dL_setChimney_11 : decode cL_setChimney 11 = .ok (.invokevirtual 7, 3) := by decide +kernel
theorem dL_setChimney_14 : decode cL_setChimney 14 = .ok (.i2l, 1) := by decide +kernel
theorem dL_setChimney_15 : decode cL_setChimney 15 = .ok (.lastore, 1) := by decide +kernel
theorem dL_setChimney_16 : decode cL_setChimney 16 = .ok (.goto 11, 3) := by decide +kernel
theorem dL_setChimney_19 : decode cL_setChimney 19 = .ok (.astore 7, 2) := by decide +kernel
theorem dL_setChimney_21 : decode cL_setChimney 21 = .ok (.iconst 1, 1) := by decide +kernel
theorem dL_setChimney_22 : decode cL_setChimney 22 = .ok (.ireturn, 1) := by decide +kernel
theorem dL_setChimney_23 : decode cL_setChimney 23 = .ok (.astore 7, 2) := by decide +kernel
theorem dL_setChimney_25 : decode cL_setChimney 25 = .ok (.iconst 2, 1) := by decide +kernel
theorem dL_setChimney_26 : decode cL_setChimney 26 = .ok (.ireturn, 1) := by decide +kernel
theorem dL_setChimney_27 : decode cL_setChimney 27 = .ok (.iconst 0, 1) := by decide +kernel
theorem dL_setChimney_28 : decode cL_setChimney 28 = .ok (.ireturn, 1) := by decide +kernel
theorem dL_setGrey_0 : decode cL_setGrey 0 = .ok (.aload_n 3, 1) := by decide +kernel
theorem dL_setGrey_1 : decode cL_setGrey 1 = .ok (.iconst 0, 1) := by decide +kernel
theorem dL_setGrey_2 : decode cL_setGrey 2 = .ok (.aload_n 0, 1) := by decide +kernel
theorem dL_setGrey_3 : decode cL_setGrey 3 = .ok (.iload_n 1, 1) := by decide +kernel
theorem dL_setGrey_4 : decode cL_setGrey 4 = .ok (.iload_n 2, 1) := by decide +kernel
theorem dL_setGrey_5 : decode cL_setGrey 5 = .ok (.invokevirtual 17, 3) := by decide +kernel
theorem dL_setGrey_8 : decode cL_setGrey 8 = .ok (.i2l, 1) := by decide +kernel
theorem dL_setGrey_9 : decode cL_setGrey 9 = .ok (.lastore, 1) := by decide +kernel
theorem dL_setGrey_10 : decode cL_setGrey 10 = .ok (.goto 7, 3) := by decide +kernel
theorem dL_setGrey_13 : decode cL_setGrey 13 = .ok (.astore 4, 2) := by decide +kernel
theorem dL_setGrey_15 : decode cL_setGrey 15 = .ok (.iconst 1, 1) := by decide +kernel
theorem dL_setGrey_16 : decode cL_setGrey 16 = .ok (.ireturn, 1) := by decide +kernel
theorem dL_setGrey_17 : decode cL_setGrey 17 = .ok (.iconst 0, 1) := by decide +kernel
theorem dL_setGrey_18 : decode cL_setGrey 18 = .ok (.ireturn, 1) := by decide +kernel
theorem dL_watch_0 : decode cL_watch 0 = .ok (.aload_n 3, 1) := by decide +kernel
theorem dL_watch_1 : decode cL_watch 1 = .ok (.iconst 0, 1) := by decide +kernel
theorem dL_watch_2 : decode cL_watch 2 = .ok (.aload_n 0, 1) := by decide +kernel
theorem dL_watch_3 : decode cL_watch 3 = .ok (.iload_n 1, 1) := by decide +kernel
theorem dL_watch_4 : decode cL_watch 4 = .ok (.iload_n 2, 1) := by decide +kernel
theorem dL_watch_5 : decode cL_watch 5 = .ok (.invokevirtual 21, 3) := by decide +kernel
theorem dL_watch_8 : decode cL_watch 8 = .ok (.i2l, 1) := by decide +kernel
theorem dL_watch_9 : decode cL_watch 9 = .ok (.lastore, 1) := by decide +kernel
theorem dL_watch_10 : decode cL_watch 10 = .ok (.goto 11, 3) := by decide +kernel
theorem dL_watch_13 : decode cL_watch 13 = .ok (.astore 4, 2) := by decide +kernel
theorem dL_watch_15 : decode cL_watch 15 = .ok (.iconst 1, 1) := by decide +kernel
theorem dL_watch_16 : decode cL_watch 16 = .ok (.ireturn, 1) := by decide +kernel
theorem dL_watch_17 : decode cL_watch 17 = .ok (.astore 4, 2) := by decide +kernel
theorem dL_watch_19 : decode cL_watch 19 = .ok (.iconst 2, 1) := by decide +kernel
theorem dL_watch_20 : decode cL_watch 20 = .ok (.ireturn, 1) := by decide +kernel
theorem dL_watch_21 : decode cL_watch 21 = .ok (.iconst 0, 1) := by decide +kernel
theorem dL_watch_22 : decode cL_watch 22 = .ok (.ireturn, 1) := by decide +kernel
theorem dL_setBias_0 : decode cL_setBias 0 = .ok (.aload_n 3, 1) := by decide +kernel
theorem dL_setBias_1 : decode cL_setBias 1 = .ok (.iconst 0, 1) := by decide +kernel
theorem dL_setBias_2 : decode cL_setBias 2 = .ok (.aload_n 0, 1) := by decide +kernel
theorem dL_setBias_3 : decode cL_setBias 3 = .ok (.iload_n 1, 1) := by decide +kernel
theorem dL_setBias_4 : decode cL_setBias 4 = .ok (.iload_n 2, 1) := by decide +kernel
theorem dL_setBias_5 : decode cL_setBias 5 = .ok (.invokevirtual 24, 3) := by decide +kernel
theorem dL_setBias_8 : decode cL_setBias 8 = .ok (.i2l, 1) := by decide +kernel
theorem dL_setBias_9 : decode cL_setBias 9 = .ok (.lastore, 1) := by decide +kernel
theorem dL_setBias_10 : decode cL_setBias 10 = .ok (.goto 11, 3) := by decide +kernel
theorem dL_setBias_13 : decode cL_setBias 13 = .ok (.astore 4, 2) := by decide +kernel
theorem dL_setBias_15 : decode cL_setBias 15 = .ok (.iconst 1, 1) := by decide +kernel
theorem dL_setBias_16 : decode cL_setBias 16 = .ok (.ireturn, 1) := by decide +kernel
theorem dL_setBias_17 : decode cL_setBias 17 = .ok (.astore 4, 2) := by decide +kernel
theorem dL_setBias_19 : decode cL_setBias 19 = .ok (.iconst 2, 1) := by decide +kernel
theorem dL_setBias_20 : decode cL_setBias 20 = .ok (.ireturn, 1) := by decide +kernel
theorem dL_setBias_21 : decode cL_setBias 21 = .ok (.iconst 0, 1) := by decide +kernel
theorem dL_setBias_22 : decode cL_setBias 22 = .ok (.ireturn, 1) := by decide +kernel
theorem dL_setLimit_0 : decode cL_setLimit 0 = .ok (.aload_n 3, 1) := by decide +kernel
theorem dL_setLimit_1 : decode cL_setLimit 1 = .ok (.iconst 0, 1) := by decide +kernel
theorem dL_setLimit_2 : decode cL_setLimit 2 = .ok (.aload_n 0, 1) := by decide +kernel
theorem dL_setLimit_3 : decode cL_setLimit 3 = .ok (.iload_n 1, 1) := by decide +kernel
theorem dL_setLimit_4 : decode cL_setLimit 4 = .ok (.iload_n 2, 1) := by decide +kernel
theorem dL_setLimit_5 : decode cL_setLimit 5 = .ok (.invokevirtual 27, 3) := by decide +kernel
theorem dL_setLimit_8 : decode cL_setLimit 8 = .ok (.i2l, 1) := by decide +kernel
theorem dL_setLimit_9 : decode cL_setLimit 9 = .ok (.lastore, 1) := by decide +kernel
theorem dL_setLimit_10 : decode cL_setLimit 10 = .ok (.goto 7, 3) := by decide +kernel
theorem dL_setLimit_13 : decode cL_setLimit 13 = .ok (.astore 4, 2) := by decide +kernel
theorem dL_setLimit_15 : decode cL_setLimit 15 = .ok (.iconst 1, 1) := by decide +kernel
theorem dL_setLimit_16 : decode cL_setLimit 16 = .ok (.ireturn, 1) := by decide +kernel
theorem dL_setLimit_17 : decode cL_setLimit 17 = .ok (.iconst 0, 1) := by decide +kernel
theorem dL_setLimit_18 : decode cL_setLimit 18 = .ok (.ireturn, 1) := by decide +kernel
theorem dL_pass_0 : decode cL_pass 0 = .ok (.aload_n 2, 1) := by decide +kernel
theorem dL_pass_1 : decode cL_pass 1 = .ok (.iconst 0, 1) := by decide +kernel
theorem dL_pass_2 : decode cL_pass 2 = .ok (.aload_n 0, 1) := by decide +kernel
theorem dL_pass_3 : decode cL_pass 3 = .ok (.iload_n 1, 1) := by decide +kernel
theorem dL_pass_4 : decode cL_pass 4 = .ok (.invokevirtual 30, 3) := by decide +kernel
theorem dL_pass_7 : decode cL_pass 7 = .ok (.i2l, 1) := by decide +kernel
theorem dL_pass_8 : decode cL_pass 8 = .ok (.lastore, 1) := by decide +kernel
theorem dL_pass_9 : decode cL_pass 9 = .ok (.goto 6, 3) := by decide +kernel
theorem dL_pass_12 : decode cL_pass 12 = .ok (.astore_n 3, 1) := by decide +kernel
theorem dL_pass_13 : decode cL_pass 13 = .ok (.iconst 1, 1) := by decide +kernel
theorem dL_pass_14 : decode cL_pass 14 = .ok (.ireturn, 1) := by decide +kernel
theorem dL_pass_15 : decode cL_pass 15 = .ok (.iconst 0, 1) := by decide +kernel
theorem dL_pass_16 : decode cL_pass 16 = .ok (.ireturn, 1) := by decide +kernel
theorem dL_appeal_0 : decode cL_appeal 0 = .ok (.aload_n 2, 1) := by decide +kernel
theorem dL_appeal_1 : decode cL_appeal 1 = .ok (.iconst 0, 1) := by decide +kernel
theorem dL_appeal_2 : decode cL_appeal 2 = .ok (.aload_n 0, 1) := by decide +kernel
theorem dL_appeal_3 : decode cL_appeal 3 = .ok (.iload_n 1, 1) := by decide +kernel
theorem dL_appeal_4 : decode cL_appeal 4 = .ok (.invokevirtual 34, 3) := by decide +kernel
theorem dL_appeal_7 : decode cL_appeal 7 = .ok (.ifCond .eq 7, 3) := by decide +kernel
theorem dL_appeal_10 : decode cL_appeal 10 = .ok (.lconst 1, 1) := by decide +kernel
theorem dL_appeal_11 : decode cL_appeal 11 = .ok (.goto 4, 3) := by decide +kernel
theorem dL_appeal_14 : decode cL_appeal 14 = .ok (.lconst 0, 1) := by decide +kernel
theorem dL_appeal_15 : decode cL_appeal 15 = .ok (.lastore, 1) := by decide +kernel
theorem dL_appeal_16 : decode cL_appeal 16 = .ok (.goto 9, 3) := by decide +kernel
theorem dL_appeal_19 : decode cL_appeal 19 = .ok (.astore_n 3, 1) := by decide +kernel
theorem dL_appeal_20 : decode cL_appeal 20 = .ok (.iconst 1, 1) := by decide +kernel
theorem dL_appeal_21 : decode cL_appeal 21 = .ok (.ireturn, 1) := by decide +kernel
theorem dL_appeal_22 : decode cL_appeal 22 = .ok (.astore_n 3, 1) := by decide +kernel
theorem dL_appeal_23 : decode cL_appeal 23 = .ok (.iconst 2, 1) := by decide +kernel
theorem dL_appeal_24 : decode cL_appeal 24 = .ok (.ireturn, 1) := by decide +kernel
theorem dL_appeal_25 : decode cL_appeal 25 = .ok (.iconst 0, 1) := by decide +kernel
theorem dL_appeal_26 : decode cL_appeal 26 = .ok (.ireturn, 1) := by decide +kernel
theorem dL_read_0 : decode cL_read 0 = .ok (.aload_n 1, 1) := by decide +kernel
theorem dL_read_1 : decode cL_read 1 = .ok (.iconst 0, 1) := by decide +kernel
theorem dL_read_2 : decode cL_read 2 = .ok (.aload_n 0, 1) := by decide +kernel
theorem dL_read_3 : decode cL_read 3 = .ok (.invokevirtual 40, 3) := by decide +kernel
theorem dL_read_6 : decode cL_read 6 = .ok (.i2l, 1) := by decide +kernel
theorem dL_read_7 : decode cL_read 7 = .ok (.lastore, 1) := by decide +kernel
theorem dL_read_8 : decode cL_read 8 = .ok (.goto 6, 3) := by decide +kernel
theorem dL_read_11 : decode cL_read 11 = .ok (.astore_n 2, 1) := by decide +kernel
theorem dL_read_12 : decode cL_read 12 = .ok (.iconst 1, 1) := by decide +kernel
theorem dL_read_13 : decode cL_read 13 = .ok (.ireturn, 1) := by decide +kernel
theorem dL_read_14 : decode cL_read 14 = .ok (.iconst 0, 1) := by decide +kernel
theorem dL_read_15 : decode cL_read 15 = .ok (.ireturn, 1) := by decide +kernel
theorem dL_shadeOf_0 : decode cL_shadeOf 0 = .ok (.aload_n 3, 1) := by decide +kernel
theorem dL_shadeOf_1 : decode cL_shadeOf 1 = .ok (.iconst 0, 1) := by decide +kernel
theorem dL_shadeOf_2 : decode cL_shadeOf 2 = .ok (.aload_n 0, 1) := by decide +kernel
theorem dL_shadeOf_3 : decode cL_shadeOf 3 = .ok (.iload_n 1, 1) := by decide +kernel
theorem dL_shadeOf_4 : decode cL_shadeOf 4 = .ok (.iload_n 2, 1) := by decide +kernel
theorem dL_shadeOf_5 : decode cL_shadeOf 5 = .ok (.invokevirtual 44, 3) := by decide +kernel
theorem dL_shadeOf_8 : decode cL_shadeOf 8 = .ok (.i2l, 1) := by decide +kernel
theorem dL_shadeOf_9 : decode cL_shadeOf 9 = .ok (.lastore, 1) := by decide +kernel
theorem dL_shadeOf_10 : decode cL_shadeOf 10 = .ok (.goto 11, 3) := by decide +kernel
theorem dL_shadeOf_13 : decode cL_shadeOf 13 = .ok (.astore 4, 2) := by decide +kernel
theorem dL_shadeOf_15 : decode cL_shadeOf 15 = .ok (.iconst 1, 1) := by decide +kernel
theorem dL_shadeOf_16 : decode cL_shadeOf 16 = .ok (.ireturn, 1) := by decide +kernel
theorem dL_shadeOf_17 : decode cL_shadeOf 17 = .ok (.astore 4, 2) := by decide +kernel
theorem dL_shadeOf_19 : decode cL_shadeOf 19 = .ok (.iconst 2, 1) := by decide +kernel
theorem dL_shadeOf_20 : decode cL_shadeOf 20 = .ok (.ireturn, 1) := by decide +kernel
theorem dL_shadeOf_21 : decode cL_shadeOf 21 = .ok (.iconst 0, 1) := by decide +kernel
theorem dL_shadeOf_22 : decode cL_shadeOf 22 = .ok (.ireturn, 1) := by decide +kernel
theorem dL_nextStoking_0 : decode cL_nextStoking 0 = .ok (.aload_n 3, 1) := by decide +kernel
theorem dL_nextStoking_1 : decode cL_nextStoking 1 = .ok (.iconst 0, 1) := by decide +kernel
theorem dL_nextStoking_2 : decode cL_nextStoking 2 = .ok (.aload_n 0, 1) := by decide +kernel
theorem dL_nextStoking_3 : decode cL_nextStoking 3 = .ok (.iload_n 1, 1) := by decide +kernel
theorem dL_nextStoking_4 : decode cL_nextStoking 4 = .ok (.iload_n 2, 1) := by decide +kernel
theorem dL_nextStoking_5 : decode cL_nextStoking 5 = .ok (.invokevirtual 47, 3) := by decide +kernel
theorem dL_nextStoking_8 : decode cL_nextStoking 8 = .ok (.i2l, 1) := by decide +kernel
theorem dL_nextStoking_9 : decode cL_nextStoking 9 = .ok (.lastore, 1) := by decide +kernel
theorem dL_nextStoking_10 : decode cL_nextStoking 10 = .ok (.goto 11, 3) := by decide +kernel
theorem dL_nextStoking_13 : decode cL_nextStoking 13 = .ok (.astore 4, 2) := by decide +kernel
theorem dL_nextStoking_15 : decode cL_nextStoking 15 = .ok (.iconst 1, 1) := by decide +kernel
theorem dL_nextStoking_16 : decode cL_nextStoking 16 = .ok (.ireturn, 1) := by decide +kernel
theorem dL_nextStoking_17 : decode cL_nextStoking 17 = .ok (.astore 4, 2) := by decide +kernel
theorem dL_nextStoking_19 : decode cL_nextStoking 19 = .ok (.iconst 2, 1) := by decide +kernel
theorem dL_nextStoking_20 : decode cL_nextStoking 20 = .ok (.ireturn, 1) := by decide +kernel
theorem dL_nextStoking_21 : decode cL_nextStoking 21 = .ok (.iconst 0, 1) := by decide +kernel
theorem dL_nextStoking_22 : decode cL_nextStoking 22 = .ok (.ireturn, 1) := by decide +kernel
theorem dL_smoke_0 : decode cL_smoke 0 = .ok (.aload 5, 2) := by decide +kernel
theorem dL_smoke_2 : decode cL_smoke 2 = .ok (.iconst 0, 1) := by decide +kernel
theorem dL_smoke_3 : decode cL_smoke 3 = .ok (.aload_n 0, 1) := by decide +kernel
theorem dL_smoke_4 : decode cL_smoke 4 = .ok (.iload_n 1, 1) := by decide +kernel
theorem dL_smoke_5 : decode cL_smoke 5 = .ok (.iload_n 2, 1) := by decide +kernel
theorem dL_smoke_6 : decode cL_smoke 6 = .ok (.iload_n 3, 1) := by decide +kernel
theorem dL_smoke_7 : decode cL_smoke 7 = .ok (.iload 4, 2) := by decide +kernel
theorem dL_smoke_9 : decode cL_smoke 9 = .ok (.invokevirtual 50, 3) := by decide +kernel
theorem dL_smoke_12 : decode cL_smoke 12 = .ok (.i2l, 1) := by decide +kernel
theorem dL_smoke_13 : decode cL_smoke 13 = .ok (.lastore, 1) := by decide +kernel
theorem dL_smoke_14 : decode cL_smoke 14 = .ok (.goto 11, 3) := by decide +kernel
theorem dL_smoke_17 : decode cL_smoke 17 = .ok (.astore 6, 2) := by decide +kernel
theorem dL_smoke_19 : decode cL_smoke 19 = .ok (.iconst 1, 1) := by decide +kernel
theorem dL_smoke_20 : decode cL_smoke 20 = .ok (.ireturn, 1) := by decide +kernel
theorem dL_smoke_21 : decode cL_smoke 21 = .ok (.astore 6, 2) := by decide +kernel
theorem dL_smoke_23 : decode cL_smoke 23 = .ok (.iconst 2, 1) := by decide +kernel
theorem dL_smoke_24 : decode cL_smoke 24 = .ok (.ireturn, 1) := by decide +kernel
theorem dL_smoke_25 : decode cL_smoke 25 = .ok (.iconst 0, 1) := by decide +kernel
theorem dL_smoke_26 : decode cL_smoke 26 = .ok (.ireturn, 1) := by decide +kernel
theorem dL_greyOf_0 : decode cL_greyOf 0 = .ok (.aload_n 2, 1) := by decide +kernel
theorem dL_greyOf_1 : decode cL_greyOf 1 = .ok (.iconst 0, 1) := by decide +kernel
theorem dL_greyOf_2 : decode cL_greyOf 2 = .ok (.aload_n 0, 1) := by decide +kernel
theorem dL_greyOf_3 : decode cL_greyOf 3 = .ok (.iload_n 1, 1) := by decide +kernel
theorem dL_greyOf_4 : decode cL_greyOf 4 = .ok (.invokevirtual 54, 3) := by decide +kernel
theorem dL_greyOf_7 : decode cL_greyOf 7 = .ok (.i2l, 1) := by decide +kernel
theorem dL_greyOf_8 : decode cL_greyOf 8 = .ok (.lastore, 1) := by decide +kernel
theorem dL_greyOf_9 : decode cL_greyOf 9 = .ok (.goto 6, 3) := by decide +kernel
theorem dL_greyOf_12 : decode cL_greyOf 12 = .ok (.astore_n 3, 1) := by decide +kernel
theorem dL_greyOf_13 : decode cL_greyOf 13 = .ok (.iconst 1, 1) := by decide +kernel
theorem dL_greyOf_14 : decode cL_greyOf 14 = .ok (.ireturn, 1) := by decide +kernel
theorem dL_greyOf_15 : decode cL_greyOf 15 = .ok (.iconst 0, 1) := by decide +kernel
theorem dL_greyOf_16 : decode cL_greyOf 16 = .ok (.ireturn, 1) := by decide +kernel
theorem dL_watchedBy_0 : decode cL_watchedBy 0 = .ok (.aload_n 2, 1) := by decide +kernel
theorem dL_watchedBy_1 : decode cL_watchedBy 1 = .ok (.iconst 0, 1) := by decide +kernel
theorem dL_watchedBy_2 : decode cL_watchedBy 2 = .ok (.aload_n 0, 1) := by decide +kernel
theorem dL_watchedBy_3 : decode cL_watchedBy 3 = .ok (.iload_n 1, 1) := by decide +kernel
theorem dL_watchedBy_4 : decode cL_watchedBy 4 = .ok (.invokevirtual 57, 3) := by decide +kernel
theorem dL_watchedBy_7 : decode cL_watchedBy 7 = .ok (.i2l, 1) := by decide +kernel
theorem dL_watchedBy_8 : decode cL_watchedBy 8 = .ok (.lastore, 1) := by decide +kernel
theorem dL_watchedBy_9 : decode cL_watchedBy 9 = .ok (.goto 6, 3) := by decide +kernel
theorem dL_watchedBy_12 : decode cL_watchedBy 12 = .ok (.astore_n 3, 1) := by decide +kernel
theorem dL_watchedBy_13 : decode cL_watchedBy 13 = .ok (.iconst 1, 1) := by decide +kernel
theorem dL_watchedBy_14 : decode cL_watchedBy 14 = .ok (.ireturn, 1) := by decide +kernel
theorem dL_watchedBy_15 : decode cL_watchedBy 15 = .ok (.iconst 0, 1) := by decide +kernel
theorem dL_watchedBy_16 : decode cL_watchedBy 16 = .ok (.ireturn, 1) := by decide +kernel
theorem dL_tirednessOf_0 : decode cL_tirednessOf 0 = .ok (.aload_n 2, 1) := by decide +kernel
theorem dL_tirednessOf_1 : decode cL_tirednessOf 1 = .ok (.iconst 0, 1) := by decide +kernel
theorem dL_tirednessOf_2 : decode cL_tirednessOf 2 = .ok (.aload_n 0, 1) := by decide +kernel
theorem dL_tirednessOf_3 : decode cL_tirednessOf 3 = .ok (.iload_n 1, 1) := by decide +kernel
theorem dL_tirednessOf_4 : decode cL_tirednessOf 4 = .ok (.invokevirtual 60, 3) := by decide +kernel
theorem dL_tirednessOf_7 : decode cL_tirednessOf 7 = .ok (.i2l, 1) := by decide +kernel
theorem dL_tirednessOf_8 : decode cL_tirednessOf 8 = .ok (.lastore, 1) := by decide +kernel
theorem dL_tirednessOf_9 : decode cL_tirednessOf 9 = .ok (.goto 6, 3) := by decide +kernel
theorem dL_tirednessOf_12 : decode cL_tirednessOf 12 = .ok (.astore_n 3, 1) := by decide +kernel
theorem dL_tirednessOf_13 : decode cL_tirednessOf 13 = .ok (.iconst 1, 1) := by decide +kernel
theorem dL_tirednessOf_14 : decode cL_tirednessOf 14 = .ok (.ireturn, 1) := by decide +kernel
theorem dL_tirednessOf_15 : decode cL_tirednessOf 15 = .ok (.iconst 0, 1) := by decide +kernel
theorem dL_tirednessOf_16 : decode cL_tirednessOf 16 = .ok (.ireturn, 1) := by decide +kernel
theorem dL_wouldRead_0 : decode cL_wouldRead 0 = .ok (.aload_n 3, 1) := by decide +kernel
theorem dL_wouldRead_1 : decode cL_wouldRead 1 = .ok (.iconst 0, 1) := by decide +kernel
theorem dL_wouldRead_2 : decode cL_wouldRead 2 = .ok (.aload_n 0, 1) := by decide +kernel
theorem dL_wouldRead_3 : decode cL_wouldRead 3 = .ok (.iload_n 1, 1) := by decide +kernel
theorem dL_wouldRead_4 : decode cL_wouldRead 4 = .ok (.iload_n 2, 1) := by decide +kernel
theorem dL_wouldRead_5 : decode cL_wouldRead 5 = .ok (.invokevirtual 63, 3) := by decide +kernel
theorem dL_wouldRead_8 : decode cL_wouldRead 8 = .ok (.i2l, 1) := by decide +kernel
theorem dL_wouldRead_9 : decode cL_wouldRead 9 = .ok (.lastore, 1) := by decide +kernel
theorem dL_wouldRead_10 : decode cL_wouldRead 10 = .ok (.goto 7, 3) := by decide +kernel
theorem dL_wouldRead_13 : decode cL_wouldRead 13 = .ok (.astore 4, 2) := by decide +kernel
theorem dL_wouldRead_15 : decode cL_wouldRead 15 = .ok (.iconst 1, 1) := by decide +kernel
theorem dL_wouldRead_16 : decode cL_wouldRead 16 = .ok (.ireturn, 1) := by decide +kernel
theorem dL_wouldRead_17 : decode cL_wouldRead 17 = .ok (.iconst 0, 1) := by decide +kernel
theorem dL_wouldRead_18 : decode cL_wouldRead 18 = .ok (.ireturn, 1) := by decide +kernel
theorem dL_readingOf_0 : decode cL_readingOf 0 = .ok (.aload_n 3, 1) := by decide +kernel
theorem dL_readingOf_1 : decode cL_readingOf 1 = .ok (.iconst 0, 1) := by decide +kernel
theorem dL_readingOf_2 : decode cL_readingOf 2 = .ok (.aload_n 0, 1) := by decide +kernel
theorem dL_readingOf_3 : decode cL_readingOf 3 = .ok (.iload_n 1, 1) := by decide +kernel
theorem dL_readingOf_4 : decode cL_readingOf 4 = .ok (.iload_n 2, 1) := by decide +kernel
theorem dL_readingOf_5 : decode cL_readingOf 5 = .ok (.invokevirtual 66, 3) := by decide +kernel
theorem dL_readingOf_8 : decode cL_readingOf 8 = .ok (.i2l, 1) := by decide +kernel
theorem dL_readingOf_9 : decode cL_readingOf 9 = .ok (.lastore, 1) := by decide +kernel
theorem dL_readingOf_10 : decode cL_readingOf 10 = .ok (.goto 11, 3) := by decide +kernel
theorem dL_readingOf_13 : decode cL_readingOf 13 = .ok (.astore 4, 2) := by decide +kernel
theorem dL_readingOf_15 : decode cL_readingOf 15 = .ok (.iconst 1, 1) := by decide +kernel
theorem dL_readingOf_16 : decode cL_readingOf 16 = .ok (.ireturn, 1) := by decide +kernel
theorem dL_readingOf_17 : decode cL_readingOf 17 = .ok (.astore 4, 2) := by decide +kernel
theorem dL_readingOf_19 : decode cL_readingOf 19 = .ok (.iconst 2, 1) := by decide +kernel
theorem dL_readingOf_20 : decode cL_readingOf 20 = .ok (.ireturn, 1) := by decide +kernel
theorem dL_readingOf_21 : decode cL_readingOf 21 = .ok (.iconst 0, 1) := by decide +kernel
theorem dL_readingOf_22 : decode cL_readingOf 22 = .ok (.ireturn, 1) := by decide +kernel
theorem dL_readingsFrom_0 : decode cL_readingsFrom 0 = .ok (.aload_n 3, 1) := by decide +kernel
theorem dL_readingsFrom_1 : decode cL_readingsFrom 1 = .ok (.iconst 0, 1) := by decide +kernel
theorem dL_readingsFrom_2 : decode cL_readingsFrom 2 = .ok (.aload_n 0, 1) := by decide +kernel
theorem dL_readingsFrom_3 : decode cL_readingsFrom 3 = .ok (.iload_n 1, 1) := by decide +kernel
theorem dL_readingsFrom_4 : decode cL_readingsFrom 4 = .ok (.iload_n 2, 1) := by decide +kernel
theorem dL_readingsFrom_5 : decode cL_readingsFrom 5 = .ok (.invokevirtual 69, 3) := by decide +kernel
theorem dL_readingsFrom_8 : decode cL_readingsFrom 8 = .ok (.i2l, 1) := by decide +kernel
theorem dL_readingsFrom_9 : decode cL_readingsFrom 9 = .ok (.lastore, 1) := by decide +kernel
theorem dL_readingsFrom_10 : decode cL_readingsFrom 10 = .ok (.goto 11, 3) := by decide +kernel
theorem dL_readingsFrom_13 : decode cL_readingsFrom 13 = .ok (.astore 4, 2) := by decide +kernel
theorem dL_readingsFrom_15 : decode cL_readingsFrom 15 = .ok (.iconst 1, 1) := by decide +kernel
theorem dL_readingsFrom_16 : decode cL_readingsFrom 16 = .ok (.ireturn, 1) := by decide +kernel
theorem dL_readingsFrom_17 : decode cL_readingsFrom 17 = .ok (.astore 4, 2) := by decide +kernel
theorem dL_readingsFrom_19 : decode cL_readingsFrom 19 = .ok (.iconst 2, 1) := by decide +kernel
theorem dL_readingsFrom_20 : decode cL_readingsFrom 20 = .ok (.ireturn, 1) := by decide +kernel
theorem dL_readingsFrom_21 : decode cL_readingsFrom 21 = .ok (.iconst 0, 1) := by decide +kernel
theorem dL_readingsFrom_22 : decode cL_readingsFrom 22 = .ok (.ireturn, 1) := by decide +kernel
theorem dL_longestRow_0 : decode cL_longestRow 0 = .ok (.aload 4, 2) := by decide +kernel
theorem dL_longestRow_2 : decode cL_longestRow 2 = .ok (.iconst 0, 1) := by decide +kernel
theorem dL_longestRow_3 : decode cL_longestRow 3 = .ok (.aload_n 0, 1) := by decide +kernel
theorem dL_longestRow_4 : decode cL_longestRow 4 = .ok (.iload_n 1, 1) := by decide +kernel
theorem dL_longestRow_5 : decode cL_longestRow 5 = .ok (.iload_n 2, 1) := by decide +kernel
theorem dL_longestRow_6 : decode cL_longestRow 6 = .ok (.iload_n 3, 1) := by decide +kernel
theorem dL_longestRow_7 : decode cL_longestRow 7 = .ok (.invokevirtual 72, 3) := by decide +kernel
theorem dL_longestRow_10 : decode cL_longestRow 10 = .ok (.i2l, 1) := by decide +kernel
theorem dL_longestRow_11 : decode cL_longestRow 11 = .ok (.lastore, 1) := by decide +kernel
theorem dL_longestRow_12 : decode cL_longestRow 12 = .ok (.goto 11, 3) := by decide +kernel
theorem dL_longestRow_15 : decode cL_longestRow 15 = .ok (.astore 5, 2) := by decide +kernel
theorem dL_longestRow_17 : decode cL_longestRow 17 = .ok (.iconst 1, 1) := by decide +kernel
theorem dL_longestRow_18 : decode cL_longestRow 18 = .ok (.ireturn, 1) := by decide +kernel
theorem dL_longestRow_19 : decode cL_longestRow 19 = .ok (.astore 5, 2) := by decide +kernel
theorem dL_longestRow_21 : decode cL_longestRow 21 = .ok (.iconst 2, 1) := by decide +kernel
theorem dL_longestRow_22 : decode cL_longestRow 22 = .ok (.ireturn, 1) := by decide +kernel
theorem dL_longestRow_23 : decode cL_longestRow 23 = .ok (.iconst 0, 1) := by decide +kernel
theorem dL_longestRow_24 : decode cL_longestRow 24 = .ok (.ireturn, 1) := by decide +kernel
theorem dL_errorsOf_0 : decode cL_errorsOf 0 = .ok (.aload_n 2, 1) := by decide +kernel
theorem dL_errorsOf_1 : decode cL_errorsOf 1 = .ok (.iconst 0, 1) := by decide +kernel
theorem dL_errorsOf_2 : decode cL_errorsOf 2 = .ok (.aload_n 0, 1) := by decide +kernel
theorem dL_errorsOf_3 : decode cL_errorsOf 3 = .ok (.iload_n 1, 1) := by decide +kernel
theorem dL_errorsOf_4 : decode cL_errorsOf 4 = .ok (.invokevirtual 76, 3) := by decide +kernel
theorem dL_errorsOf_7 : decode cL_errorsOf 7 = .ok (.i2l, 1) := by decide +kernel
theorem dL_errorsOf_8 : decode cL_errorsOf 8 = .ok (.lastore, 1) := by decide +kernel
theorem dL_errorsOf_9 : decode cL_errorsOf 9 = .ok (.goto 6, 3) := by decide +kernel
theorem dL_errorsOf_12 : decode cL_errorsOf 12 = .ok (.astore_n 3, 1) := by decide +kernel
theorem dL_errorsOf_13 : decode cL_errorsOf 13 = .ok (.iconst 1, 1) := by decide +kernel
theorem dL_errorsOf_14 : decode cL_errorsOf 14 = .ok (.ireturn, 1) := by decide +kernel
theorem dL_errorsOf_15 : decode cL_errorsOf 15 = .ok (.iconst 0, 1) := by decide +kernel
theorem dL_errorsOf_16 : decode cL_errorsOf 16 = .ok (.ireturn, 1) := by decide +kernel
theorem dL_chimneyOf_0 : decode cL_chimneyOf 0 = .ok (.aload_n 2, 1) := by decide +kernel
theorem dL_chimneyOf_1 : decode cL_chimneyOf 1 = .ok (.iconst 0, 1) := by decide +kernel
theorem dL_chimneyOf_2 : decode cL_chimneyOf 2 = .ok (.aload_n 0, 1) := by decide +kernel
theorem dL_chimneyOf_3 : decode cL_chimneyOf 3 = .ok (.iload_n 1, 1) := by decide +kernel
theorem dL_chimneyOf_4 : decode cL_chimneyOf 4 = .ok (.invokevirtual 79, 3) := by decide +kernel
theorem dL_chimneyOf_7 : decode cL_chimneyOf 7 = .ok (.i2l, 1) := by decide +kernel
theorem dL_chimneyOf_8 : decode cL_chimneyOf 8 = .ok (.lastore, 1) := by decide +kernel
theorem dL_chimneyOf_9 : decode cL_chimneyOf 9 = .ok (.goto 6, 3) := by decide +kernel
theorem dL_chimneyOf_12 : decode cL_chimneyOf 12 = .ok (.astore_n 3, 1) := by decide +kernel
theorem dL_chimneyOf_13 : decode cL_chimneyOf 13 = .ok (.iconst 1, 1) := by decide +kernel
theorem dL_chimneyOf_14 : decode cL_chimneyOf 14 = .ok (.ireturn, 1) := by decide +kernel
theorem dL_chimneyOf_15 : decode cL_chimneyOf 15 = .ok (.iconst 0, 1) := by decide +kernel
theorem dL_chimneyOf_16 : decode cL_chimneyOf 16 = .ok (.ireturn, 1) := by decide +kernel
theorem dL_fineOf_0 : decode cL_fineOf 0 = .ok (.aload_n 2, 1) := by decide +kernel
theorem dL_fineOf_1 : decode cL_fineOf 1 = .ok (.iconst 0, 1) := by decide +kernel
theorem dL_fineOf_2 : decode cL_fineOf 2 = .ok (.aload_n 0, 1) := by decide +kernel
theorem dL_fineOf_3 : decode cL_fineOf 3 = .ok (.iload_n 1, 1) := by decide +kernel
theorem dL_fineOf_4 : decode cL_fineOf 4 = .ok (.invokevirtual 82, 3) := by decide +kernel
theorem dL_fineOf_7 : decode cL_fineOf 7 = .ok (.i2l, 1) := by decide +kernel
theorem dL_fineOf_8 : decode cL_fineOf 8 = .ok (.lastore, 1) := by decide +kernel
theorem dL_fineOf_9 : decode cL_fineOf 9 = .ok (.goto 6, 3) := by decide +kernel
theorem dL_fineOf_12 : decode cL_fineOf 12 = .ok (.astore_n 3, 1) := by decide +kernel
theorem dL_fineOf_13 : decode cL_fineOf 13 = .ok (.iconst 1, 1) := by decide +kernel
theorem dL_fineOf_14 : decode cL_fineOf 14 = .ok (.ireturn, 1) := by decide +kernel
theorem dL_fineOf_15 : decode cL_fineOf 15 = .ok (.iconst 0, 1) := by decide +kernel
theorem dL_fineOf_16 : decode cL_fineOf 16 = .ok (.ireturn, 1) := by decide +kernel
theorem dL_stands_0 : decode cL_stands 0 = .ok (.aload_n 2, 1) := by decide +kernel
theorem dL_stands_1 : decode cL_stands 1 = .ok (.iconst 0, 1) := by decide +kernel
theorem dL_stands_2 : decode cL_stands 2 = .ok (.aload_n 0, 1) := by decide +kernel
theorem dL_stands_3 : decode cL_stands 3 = .ok (.iload_n 1, 1) := by decide +kernel
theorem dL_stands_4 : decode cL_stands 4 = .ok (.invokevirtual 85, 3) := by decide +kernel
theorem dL_stands_7 : decode cL_stands 7 = .ok (.ifCond .eq 7, 3) := by decide +kernel
theorem dL_stands_10 : decode cL_stands 10 = .ok (.lconst 1, 1) := by decide +kernel
theorem dL_stands_11 : decode cL_stands 11 = .ok (.goto 4, 3) := by decide +kernel
theorem dL_stands_14 : decode cL_stands 14 = .ok (.lconst 0, 1) := by decide +kernel
theorem dL_stands_15 : decode cL_stands 15 = .ok (.lastore, 1) := by decide +kernel
theorem dL_stands_16 : decode cL_stands 16 = .ok (.goto 6, 3) := by decide +kernel
theorem dL_stands_19 : decode cL_stands 19 = .ok (.astore_n 3, 1) := by decide +kernel
theorem dL_stands_20 : decode cL_stands 20 = .ok (.iconst 1, 1) := by decide +kernel
theorem dL_stands_21 : decode cL_stands 21 = .ok (.ireturn, 1) := by decide +kernel
theorem dL_stands_22 : decode cL_stands 22 = .ok (.iconst 0, 1) := by decide +kernel
theorem dL_stands_23 : decode cL_stands 23 = .ok (.ireturn, 1) := by decide +kernel
theorem dL_wouldAppeal_0 : decode cL_wouldAppeal 0 = .ok (.aload_n 2, 1) := by decide +kernel
theorem dL_wouldAppeal_1 : decode cL_wouldAppeal 1 = .ok (.iconst 0, 1) := by decide +kernel
theorem dL_wouldAppeal_2 : decode cL_wouldAppeal 2 = .ok (.aload_n 0, 1) := by decide +kernel
theorem dL_wouldAppeal_3 : decode cL_wouldAppeal 3 = .ok (.iload_n 1, 1) := by decide +kernel
theorem dL_wouldAppeal_4 : decode cL_wouldAppeal 4 = .ok (.invokevirtual 88, 3) := by decide +kernel
theorem dL_wouldAppeal_7 : decode cL_wouldAppeal 7 = .ok (.i2l, 1) := by decide +kernel
theorem dL_wouldAppeal_8 : decode cL_wouldAppeal 8 = .ok (.lastore, 1) := by decide +kernel
theorem dL_wouldAppeal_9 : decode cL_wouldAppeal 9 = .ok (.goto 6, 3) := by decide +kernel
theorem dL_wouldAppeal_12 : decode cL_wouldAppeal 12 = .ok (.astore_n 3, 1) := by decide +kernel
theorem dL_wouldAppeal_13 : decode cL_wouldAppeal 13 = .ok (.iconst 1, 1) := by decide +kernel
theorem dL_wouldAppeal_14 : decode cL_wouldAppeal 14 = .ok (.ireturn, 1) := by decide +kernel
theorem dL_wouldAppeal_15 : decode cL_wouldAppeal 15 = .ok (.iconst 0, 1) := by decide +kernel
theorem dL_wouldAppeal_16 : decode cL_wouldAppeal 16 = .ok (.ireturn, 1) := by decide +kernel
theorem dL_finesOf_0 : decode cL_finesOf 0 = .ok (.aload_n 3, 1) := by decide +kernel
theorem dL_finesOf_1 : decode cL_finesOf 1 = .ok (.iconst 0, 1) := by decide +kernel
theorem dL_finesOf_2 : decode cL_finesOf 2 = .ok (.aload_n 0, 1) := by decide +kernel
theorem dL_finesOf_3 : decode cL_finesOf 3 = .ok (.iload_n 1, 1) := by decide +kernel
theorem dL_finesOf_4 : decode cL_finesOf 4 = .ok (.iload_n 2, 1) := by decide +kernel
theorem dL_finesOf_5 : decode cL_finesOf 5 = .ok (.invokevirtual 91, 3) := by decide +kernel
theorem dL_finesOf_8 : decode cL_finesOf 8 = .ok (.i2l, 1) := by decide +kernel
theorem dL_finesOf_9 : decode cL_finesOf 9 = .ok (.lastore, 1) := by decide +kernel
theorem dL_finesOf_10 : decode cL_finesOf 10 = .ok (.goto 7, 3) := by decide +kernel
theorem dL_finesOf_13 : decode cL_finesOf 13 = .ok (.astore 4, 2) := by decide +kernel
theorem dL_finesOf_15 : decode cL_finesOf 15 = .ok (.iconst 1, 1) := by decide +kernel
theorem dL_finesOf_16 : decode cL_finesOf 16 = .ok (.ireturn, 1) := by decide +kernel
theorem dL_finesOf_17 : decode cL_finesOf 17 = .ok (.iconst 0, 1) := by decide +kernel
theorem dL_finesOf_18 : decode cL_finesOf 18 = .ok (.ireturn, 1) := by decide +kernel
theorem dL_toWatch_0 : decode cL_toWatch 0 = .ok (.aload_n 3, 1) := by decide +kernel
theorem dL_toWatch_1 : decode cL_toWatch 1 = .ok (.iconst 0, 1) := by decide +kernel
theorem dL_toWatch_2 : decode cL_toWatch 2 = .ok (.aload_n 0, 1) := by decide +kernel
theorem dL_toWatch_3 : decode cL_toWatch 3 = .ok (.iload_n 1, 1) := by decide +kernel
theorem dL_toWatch_4 : decode cL_toWatch 4 = .ok (.iload_n 2, 1) := by decide +kernel
theorem dL_toWatch_5 : decode cL_toWatch 5 = .ok (.invokevirtual 95, 3) := by decide +kernel
theorem dL_toWatch_8 : decode cL_toWatch 8 = .ok (.i2l, 1) := by decide +kernel
theorem dL_toWatch_9 : decode cL_toWatch 9 = .ok (.lastore, 1) := by decide +kernel
theorem dL_toWatch_10 : decode cL_toWatch 10 = .ok (.goto 7, 3) := by decide +kernel
theorem dL_toWatch_13 : decode cL_toWatch 13 = .ok (.astore 4, 2) := by decide +kernel
theorem dL_toWatch_15 : decode cL_toWatch 15 = .ok (.iconst 1, 1) := by decide +kernel
theorem dL_toWatch_16 : decode cL_toWatch 16 = .ok (.ireturn, 1) := by decide +kernel
theorem dL_toWatch_17 : decode cL_toWatch 17 = .ok (.iconst 0, 1) := by decide +kernel
theorem dL_toWatch_18 : decode cL_toWatch 18 = .ok (.ireturn, 1) := by decide +kernel
theorem dL_noticesIn_0 : decode cL_noticesIn 0 = .ok (.aload_n 2, 1) := by decide +kernel
theorem dL_noticesIn_1 : decode cL_noticesIn 1 = .ok (.iconst 0, 1) := by decide +kernel
theorem dL_noticesIn_2 : decode cL_noticesIn 2 = .ok (.aload_n 0, 1) := by decide +kernel
theorem dL_noticesIn_3 : decode cL_noticesIn 3 = .ok (.iload_n 1, 1) := by decide +kernel
theorem dL_noticesIn_4 : decode cL_noticesIn 4 = .ok (.invokevirtual 98, 3) := by decide +kernel
theorem dL_noticesIn_7 : decode cL_noticesIn 7 = .ok (.i2l, 1) := by decide +kernel
theorem dL_noticesIn_8 : decode cL_noticesIn 8 = .ok (.lastore, 1) := by decide +kernel
theorem dL_noticesIn_9 : decode cL_noticesIn 9 = .ok (.goto 6, 3) := by decide +kernel
theorem dL_noticesIn_12 : decode cL_noticesIn 12 = .ok (.astore_n 3, 1) := by decide +kernel
theorem dL_noticesIn_13 : decode cL_noticesIn 13 = .ok (.iconst 1, 1) := by decide +kernel
theorem dL_noticesIn_14 : decode cL_noticesIn 14 = .ok (.ireturn, 1) := by decide +kernel
theorem dL_noticesIn_15 : decode cL_noticesIn 15 = .ok (.iconst 0, 1) := by decide +kernel
theorem dL_noticesIn_16 : decode cL_noticesIn 16 = .ok (.ireturn, 1) := by decide +kernel
theorem dL_ticksToNotice_0 : decode cL_ticksToNotice 0 = .ok (.aload_n 2, 1) := by decide +kernel
theorem dL_ticksToNotice_1 : decode cL_ticksToNotice 1 = .ok (.iconst 0, 1) := by decide +kernel
theorem dL_ticksToNotice_2 : decode cL_ticksToNotice 2 = .ok (.aload_n 0, 1) := by decide +kernel
theorem dL_ticksToNotice_3 : decode cL_ticksToNotice 3 = .ok (.iload_n 1, 1) := by decide +kernel
theorem dL_ticksToNotice_4 : decode cL_ticksToNotice 4 = .ok (.invokevirtual 101, 3) := by decide +kernel
theorem dL_ticksToNotice_7 : decode cL_ticksToNotice 7 = .ok (.i2l, 1) := by decide +kernel
theorem dL_ticksToNotice_8 : decode cL_ticksToNotice 8 = .ok (.lastore, 1) := by decide +kernel
theorem dL_ticksToNotice_9 : decode cL_ticksToNotice 9 = .ok (.goto 6, 3) := by decide +kernel
theorem dL_ticksToNotice_12 : decode cL_ticksToNotice 12 = .ok (.astore_n 3, 1) := by decide +kernel
theorem dL_ticksToNotice_13 : decode cL_ticksToNotice 13 = .ok (.iconst 1, 1) := by decide +kernel
theorem dL_ticksToNotice_14 : decode cL_ticksToNotice 14 = .ok (.ireturn, 1) := by decide +kernel
theorem dL_ticksToNotice_15 : decode cL_ticksToNotice 15 = .ok (.iconst 0, 1) := by decide +kernel
theorem dL_ticksToNotice_16 : decode cL_ticksToNotice 16 = .ok (.ireturn, 1) := by decide +kernel
theorem dL_mildLimit_0 : decode cL_mildLimit 0 = .ok (.aload_n 2, 1) := by decide +kernel
theorem dL_mildLimit_1 : decode cL_mildLimit 1 = .ok (.iconst 0, 1) := by decide +kernel
theorem dL_mildLimit_2 : decode cL_mildLimit 2 = .ok (.aload_n 0, 1) := by decide +kernel
theorem dL_mildLimit_3 : decode cL_mildLimit 3 = .ok (.iload_n 1, 1) := by decide +kernel
theorem dL_mildLimit_4 : decode cL_mildLimit 4 = .ok (.invokevirtual 104, 3) := by decide +kernel
theorem dL_mildLimit_7 : decode cL_mildLimit 7 = .ok (.i2l, 1) := by decide +kernel
theorem dL_mildLimit_8 : decode cL_mildLimit 8 = .ok (.lastore, 1) := by decide +kernel
theorem dL_mildLimit_9 : decode cL_mildLimit 9 = .ok (.goto 6, 3) := by decide +kernel
theorem dL_mildLimit_12 : decode cL_mildLimit 12 = .ok (.astore_n 3, 1) := by decide +kernel
theorem dL_mildLimit_13 : decode cL_mildLimit 13 = .ok (.iconst 1, 1) := by decide +kernel
theorem dL_mildLimit_14 : decode cL_mildLimit 14 = .ok (.ireturn, 1) := by decide +kernel
theorem dL_mildLimit_15 : decode cL_mildLimit 15 = .ok (.iconst 0, 1) := by decide +kernel
theorem dL_mildLimit_16 : decode cL_mildLimit 16 = .ok (.ireturn, 1) := by decide +kernel
theorem dL_put_0 : decode cL_put 0 = .ok (.aload_n 3, 1) := by decide +kernel
theorem dL_put_1 : decode cL_put 1 = .ok (.iconst 0, 1) := by decide +kernel
theorem dL_put_2 : decode cL_put 2 = .ok (.aload_n 0, 1) := by decide +kernel
theorem dL_put_3 : decode cL_put 3 = .ok (.lload_n 1, 1) := by decide +kernel
theorem dL_put_4 : decode cL_put 4 = .ok (.invokevirtual 107, 3) := by decide +kernel
theorem dL_put_7 : decode cL_put 7 = .ok (.i2l, 1) := by decide +kernel
theorem dL_put_8 : decode cL_put 8 = .ok (.lastore, 1) := by decide +kernel
theorem dL_put_9 : decode cL_put 9 = .ok (.goto 11, 3) := by decide +kernel
theorem dL_put_12 : decode cL_put 12 = .ok (.astore 4, 2) := by decide +kernel
theorem dL_put_14 : decode cL_put 14 = .ok (.iconst 1, 1) := by decide +kernel
theorem dL_put_15 : decode cL_put 15 = .ok (.ireturn, 1) := by decide +kernel
theorem dL_put_16 : decode cL_put 16 = .ok (.astore 4, 2) := by decide +kernel
theorem dL_put_18 : decode cL_put 18 = .ok (.iconst 2, 1) := by decide +kernel
theorem dL_put_19 : decode cL_put 19 = .ok (.ireturn, 1) := by decide +kernel
theorem dL_put_20 : decode cL_put 20 = .ok (.iconst 0, 1) := by decide +kernel
theorem dL_put_21 : decode cL_put 21 = .ok (.ireturn, 1) := by decide +kernel
theorem dL_undo_0 : decode cL_undo 0 = .ok (.aload_n 1, 1) := by decide +kernel
theorem dL_undo_1 : decode cL_undo 1 = .ok (.iconst 0, 1) := by decide +kernel
theorem dL_undo_2 : decode cL_undo 2 = .ok (.aload_n 0, 1) := by decide +kernel
theorem dL_undo_3 : decode cL_undo 3 = .ok (.invokevirtual 111, 3) := by decide +kernel
theorem dL_undo_6 : decode cL_undo 6 = .ok (.i2l, 1) := by decide +kernel
theorem dL_undo_7 : decode cL_undo 7 = .ok (.lastore, 1) := by decide +kernel
theorem dL_undo_8 : decode cL_undo 8 = .ok (.goto 6, 3) := by decide +kernel
theorem dL_undo_11 : decode cL_undo 11 = .ok (.astore_n 2, 1) := by decide +kernel
theorem dL_undo_12 : decode cL_undo 12 = .ok (.iconst 1, 1) := by decide +kernel
theorem dL_undo_13 : decode cL_undo 13 = .ok (.ireturn, 1) := by decide +kernel
theorem dL_undo_14 : decode cL_undo 14 = .ok (.iconst 0, 1) := by decide +kernel
theorem dL_undo_15 : decode cL_undo 15 = .ok (.ireturn, 1) := by decide +kernel
theorem dL_save_0 : decode cL_save 0 = .ok (.aload_n 2, 1) := by decide +kernel
theorem dL_save_1 : decode cL_save 1 = .ok (.iconst 0, 1) := by decide +kernel
theorem dL_save_2 : decode cL_save 2 = .ok (.aload_n 0, 1) := by decide +kernel
theorem dL_save_3 : decode cL_save 3 = .ok (.iload_n 1, 1) := by decide +kernel
theorem dL_save_4 : decode cL_save 4 = .ok (.invokevirtual 114, 3) := by decide +kernel
theorem dL_save_7 : decode cL_save 7 = .ok (.i2l, 1) := by decide +kernel
theorem dL_save_8 : decode cL_save 8 = .ok (.lastore, 1) := by decide +kernel
theorem dL_save_9 : decode cL_save 9 = .ok (.goto 6, 3) := by decide +kernel
theorem dL_save_12 : decode cL_save 12 = .ok (.astore_n 3, 1) := by decide +kernel
theorem dL_save_13 : decode cL_save 13 = .ok (.iconst 1, 1) := by decide +kernel
theorem dL_save_14 : decode cL_save 14 = .ok (.ireturn, 1) := by decide +kernel
theorem dL_save_15 : decode cL_save 15 = .ok (.iconst 0, 1) := by decide +kernel
theorem dL_save_16 : decode cL_save 16 = .ok (.ireturn, 1) := by decide +kernel
theorem dL_restore_0 : decode cL_restore 0 = .ok (.aload_n 2, 1) := by decide +kernel
theorem dL_restore_1 : decode cL_restore 1 = .ok (.iconst 0, 1) := by decide +kernel
theorem dL_restore_2 : decode cL_restore 2 = .ok (.aload_n 0, 1) := by decide +kernel
theorem dL_restore_3 : decode cL_restore 3 = .ok (.iload_n 1, 1) := by decide +kernel
theorem dL_restore_4 : decode cL_restore 4 = .ok (.invokevirtual 117, 3) := by decide +kernel
theorem dL_restore_7 : decode cL_restore 7 = .ok (.i2l, 1) := by decide +kernel
theorem dL_restore_8 : decode cL_restore 8 = .ok (.lastore, 1) := by decide +kernel
theorem dL_restore_9 : decode cL_restore 9 = .ok (.goto 9, 3) := by decide +kernel
theorem dL_restore_12 : decode cL_restore 12 = .ok (.astore_n 3, 1) := by decide +kernel
theorem dL_restore_13 : decode cL_restore 13 = .ok (.iconst 1, 1) := by decide +kernel
theorem dL_restore_14 : decode cL_restore 14 = .ok (.ireturn, 1) := by decide +kernel
theorem dL_restore_15 : decode cL_restore 15 = .ok (.astore_n 3, 1) := by decide +kernel
theorem dL_restore_16 : decode cL_restore 16 = .ok (.iconst 2, 1) := by decide +kernel
theorem dL_restore_17 : decode cL_restore 17 = .ok (.ireturn, 1) := by decide +kernel
theorem dL_restore_18 : decode cL_restore 18 = .ok (.iconst 0, 1) := by decide +kernel
theorem dL_restore_19 : decode cL_restore 19 = .ok (.ireturn, 1) := by decide +kernel
