theorem dL_cell_0 : decode cL_cell 0 = .ok (.iload_n 1, 1) := by decide +kernel
theorem dL_cell_1 : decode cL_cell 1 = .ok (.aload_n 0, 1) := by decide +kernel
theorem dL_cell_2 : decode cL_cell 2 = .ok (.arraylength, 1) := by decide +kernel
theorem dL_cell_3 : decode cL_cell 3 = .ok (.if_icmp .ge 9, 3) := by decide +kernel
theorem dL_cell_6 : decode cL_cell 6 = .ok (.aload_n 0, 1) := by decide +kernel
theorem dL_cell_7 : decode cL_cell 7 = .ok (.iload_n 1, 1) := by decide +kernel
theorem dL_cell_8 : decode cL_cell 8 = .ok (.iaload, 1) := by decide +kernel
theorem dL_cell_9 : decode cL_cell 9 = .ok (.goto 13, 3) := by decide +kernel
theorem dL_cell_12 : decode cL_cell 12 = .ok (.ldc 7, 2) := by decide +kernel
theorem dL_cell_14 : decode cL_cell 14 = .ok (.iload_n 1, 1) := by decide +kernel
theorem dL_cell_15 : decode cL_cell 15 = .ok (.bipush 17, 2) := by decide +kernel
theorem dL_cell_17 : decode cL_cell 17 = .ok (.iadd, 1) := by decide +kernel
theorem dL_cell_18 : decode cL_cell 18 = .ok (.imul, 1) := by decide +kernel
theorem dL_cell_19 : decode cL_cell 19 = .ok (.ldc 8, 2) := by decide +kernel
theorem dL_cell_21 : decode cL_cell 21 = .ok (.iadd, 1) := by decide +kernel
theorem dL_cell_22 : decode cL_cell 22 = .ok (.ireturn, 1) := by decide +kernel
theorem dL_low_0 : decode cL_low 0 = .ok (.iload_n 0, 1) := by decide +kernel
theorem dL_low_1 : decode cL_low 1 = .ok (.ldc 9, 2) := by decide +kernel
theorem dL_low_3 : decode cL_low 3 = .ok (.iand, 1) := by decide +kernel
theorem dL_low_4 : decode cL_low 4 = .ok (.iload_n 1, 1) := by decide +kernel
theorem dL_low_5 : decode cL_low 5 = .ok (.irem, 1) := by decide +kernel
theorem dL_low_6 : decode cL_low 6 = .ok (.ireturn, 1) := by decide +kernel
theorem dL_setChimney_0 : decode cL_setChimney 0 = .ok (.aload_n 0, 1) := by decide +kernel
theorem dL_setChimney_1 : decode cL_setChimney 1 = .ok (.iload_n 1, 1) := by decide +kernel
theorem dL_setChimney_2 : decode cL_setChimney 2 = .ok (.iload_n 2, 1) := by decide +kernel
theorem dL_setChimney_3 : decode cL_setChimney 3 = .ok (.iload_n 3, 1) := by decide +kernel
theorem dL_setChimney_4 : decode cL_setChimney 4 = .ok (.iload 4, 2) := by decide +kernel
theorem dL_setChimney_6 : decode cL_setChimney 6 = .ok (.iload 5, 2) := by decide +kernel
theorem dL_setChimney_8 : decode cL_setChimney 8 = .ok (.invokevirtual 10, 3) := by decide +kernel
theorem dL_setChimney_11 : decode cL_setChimney 11 = .ok (.ireturn, 1) := by decide +kernel
theorem dL_setChimney_12 : decode cL_setChimney 12 = .ok (.astore 6, 2) := by decide +kernel
theorem dL_setChimney_14 : decode cL_setChimney 14 = .ok (.bipush (-101), 2) := by decide +kernel
theorem dL_setChimney_16 : decode cL_setChimney 16 = .ok (.ireturn, 1) := by decide +kernel
theorem dL_setChimney_17 : decode cL_setChimney 17 = .ok (.astore 6, 2) := by decide +kernel
theorem dL_setChimney_19 : decode cL_setChimney 19 = .ok (.bipush (-102), 2) := by decide +kernel
theorem dL_setChimney_21 : decode cL_setChimney 21 = .ok (.ireturn, 1) := by decide +kernel
theorem dL_setGrey_0 : decode cL_setGrey 0 = .ok (.aload_n 0, 1) := by decide +kernel
theorem dL_setGrey_1 : decode cL_setGrey 1 = .ok (.iload_n 1, 1) := by decide +kernel
theorem dL_setGrey_2 : decode cL_setGrey 2 = .ok (.iload_n 2, 1) := by decide +kernel
theorem dL_setGrey_3 : decode cL_setGrey 3 = .ok (.invokevirtual 20, 3) := by decide +kernel
theorem dL_setGrey_6 : decode cL_setGrey 6 = .ok (.ireturn, 1) := by decide +kernel
theorem dL_setGrey_7 : decode cL_setGrey 7 = .ok (.astore_n 3, 1) := by decide +kernel
theorem dL_setGrey_8 : decode cL_setGrey 8 = .ok (.bipush (-102), 2) := by decide +kernel
theorem dL_setGrey_10 : decode cL_setGrey 10 = .ok (.ireturn, 1) := by decide +kernel
theorem dL_watch_0 : decode cL_watch 0 = .ok (.aload_n 0, 1) := by decide +kernel
theorem dL_watch_1 : decode cL_watch 1 = .ok (.iload_n 1, 1) := by decide +kernel
theorem dL_watch_2 : decode cL_watch 2 = .ok (.iload_n 2, 1) := by decide +kernel
theorem dL_watch_3 : decode cL_watch 3 = .ok (.invokevirtual 24, 3) := by decide +kernel
theorem dL_watch_6 : decode cL_watch 6 = .ok (.ireturn, 1) := by decide +kernel
theorem dL_watch_7 : decode cL_watch 7 = .ok (.astore_n 3, 1) := by decide +kernel
theorem dL_watch_8 : decode cL_watch 8 = .ok (.bipush (-101), 2) := by decide +kernel
theorem dL_watch_10 : decode cL_watch 10 = .ok (.ireturn, 1) := by decide +kernel
theorem dL_watch_11 : decode cL_watch 11 = .ok (.astore_n 3, 1) := by decide +kernel
theorem dL_watch_12 : decode cL_watch 12 = .ok (.bipush (-102), 2) := by decide +kernel
theorem dL_watch_14 : decode cL_watch 14 = .ok (.ireturn, 1) := by decide +kernel
theorem dL_setBias_0 : decode cL_setBias 0 = .ok (.aload_n 0, 1) := by decide +kernel
theorem dL_setBias_1 : decode cL_setBias 1 = .ok (.iload_n 1, 1) := by decide +kernel
theorem dL_setBias_2 : decode cL_setBias 2 = .ok (.iload_n 2, 1) := by decide +kernel
theorem dL_setBias_3 : decode cL_setBias 3 = .ok (.invokevirtual 27, 3) := by decide +kernel
theorem dL_setBias_6 : decode cL_setBias 6 = .ok (.ireturn, 1) := by decide +kernel
theorem dL_setBias_7 : decode cL_setBias 7 = .ok (.astore_n 3, 1) := by decide +kernel
theorem dL_setBias_8 : decode cL_setBias 8 = .ok (.bipush (-101), 2) := by decide +kernel
theorem dL_setBias_10 : decode cL_setBias 10 = .ok (.ireturn, 1) := by decide +kernel
theorem dL_setBias_11 : decode cL_setBias 11 = .ok (.astore_n 3, 1) := by decide +kernel
theorem dL_setBias_12 : decode cL_setBias 12 = .ok (.bipush (-102), 2) := by decide +kernel
theorem dL_setBias_14 : decode cL_setBias 14 = .ok (.ireturn, 1) := by decide +kernel
theorem dL_setLimit_0 : decode cL_setLimit 0 = .ok (.aload_n 0, 1) := by decide +kernel
theorem dL_setLimit_1 : decode cL_setLimit 1 = .ok (.iload_n 1, 1) := by decide +kernel
theorem dL_setLimit_2 : decode cL_setLimit 2 = .ok (.iload_n 2, 1) := by decide +kernel
theorem dL_setLimit_3 : decode cL_setLimit 3 = .ok (.invokevirtual 30, 3) := by decide +kernel
theorem dL_setLimit_6 : decode cL_setLimit 6 = .ok (.ireturn, 1) := by decide +kernel
theorem dL_setLimit_7 : decode cL_setLimit 7 = .ok (.astore_n 3, 1) := by decide +kernel
theorem dL_setLimit_8 : decode cL_setLimit 8 = .ok (.bipush (-102), 2) := by decide +kernel
theorem dL_setLimit_10 : decode cL_setLimit 10 = .ok (.ireturn, 1) := by decide +kernel
theorem dL_pass_0 : decode cL_pass 0 = .ok (.aload_n 0, 1) := by decide +kernel
theorem dL_pass_1 : decode cL_pass 1 = .ok (.iload_n 1, 1) := by decide +kernel
theorem dL_pass_2 : decode cL_pass 2 = .ok (.invokevirtual 33, 3) := by decide +kernel
theorem dL_pass_5 : decode cL_pass 5 = .ok (.ireturn, 1) := by decide +kernel
theorem dL_pass_6 : decode cL_pass 6 = .ok (.astore_n 2, 1) := by decide +kernel
theorem dL_pass_7 : decode cL_pass 7 = .ok (.bipush (-102), 2) := by decide +kernel
theorem dL_pass_9 : decode cL_pass 9 = .ok (.ireturn, 1) := by decide +kernel
theorem dL_appeal_0 : decode cL_appeal 0 = .ok (.aload_n 0, 1) := by decide +kernel
theorem dL_appeal_1 : decode cL_appeal 1 = .ok (.iload_n 1, 1) := by decide +kernel
theorem dL_appeal_2 : decode cL_appeal 2 = .ok (.invokevirtual 37, 3) := by decide +kernel
theorem dL_appeal_5 : decode cL_appeal 5 = .ok (.ifCond .eq 7, 3) := by decide +kernel
theorem dL_appeal_8 : decode cL_appeal 8 = .ok (.iconst 1, 1) := by decide +kernel
theorem dL_appeal_9 : decode cL_appeal 9 = .ok (.goto 4, 3) := by decide +kernel
theorem dL_appeal_12 : decode cL_appeal 12 = .ok (.iconst 0, 1) := by decide +kernel
theorem dL_appeal_13 : decode cL_appeal 13 = .ok (.ireturn, 1) := by decide +kernel
theorem dL_appeal_14 : decode cL_appeal 14 = .ok (.astore_n 2, 1) := by decide +kernel
theorem dL_appeal_15 : decode cL_appeal 15 = .ok (.bipush (-101), 2) := by decide +kernel
theorem dL_appeal_17 : decode cL_appeal 17 = .ok (.ireturn, 1) := by decide +kernel
theorem dL_appeal_18 : decode cL_appeal 18 = .ok (.astore_n 2, 1) := by decide +kernel
theorem dL_appeal_19 : decode cL_appeal 19 = .ok (.bipush (-103), 2) := by decide +kernel
theorem dL_appeal_21 : decode cL_appeal 21 = .ok (.ireturn, 1) := by decide +kernel
theorem dL_shadeOf_0 : decode cL_shadeOf 0 = .ok (.aload_n 0, 1) := by decide +kernel
theorem dL_shadeOf_1 : decode cL_shadeOf 1 = .ok (.iload_n 1, 1) := by decide +kernel
theorem dL_shadeOf_2 : decode cL_shadeOf 2 = .ok (.iload_n 2, 1) := by decide +kernel
theorem dL_shadeOf_3 : decode cL_shadeOf 3 = .ok (.invokevirtual 43, 3) := by decide +kernel
theorem dL_shadeOf_6 : decode cL_shadeOf 6 = .ok (.ireturn, 1) := by decide +kernel
theorem dL_shadeOf_7 : decode cL_shadeOf 7 = .ok (.astore_n 3, 1) := by decide +kernel
theorem dL_shadeOf_8 : decode cL_shadeOf 8 = .ok (.bipush (-101), 2) := by decide +kernel
theorem dL_shadeOf_10 : decode cL_shadeOf 10 = .ok (.ireturn, 1) := by decide +kernel
theorem dL_shadeOf_11 : decode cL_shadeOf 11 = .ok (.astore_n 3, 1) := by decide +kernel
theorem dL_shadeOf_12 : decode cL_shadeOf 12 = .ok (.bipush (-102), 2) := by decide +kernel
theorem dL_shadeOf_14 : decode cL_shadeOf 14 = .ok (.ireturn, 1) := by decide +kernel
theorem dL_nextStoking_0 : decode cL_nextStoking 0 = .ok (.aload_n 0, 1) := by decide +kernel
theorem dL_nextStoking_1 : decode cL_nextStoking 1 = .ok (.iload_n 1, 1) := by decide +kernel
theorem dL_nextStoking_2 : decode cL_nextStoking 2 = .ok (.iload_n 2, 1) := by decide +kernel
theorem dL_nextStoking_3 : decode cL_nextStoking 3 = .ok (.invokevirtual 46, 3) := by decide +kernel
theorem dL_nextStoking_6 : decode cL_nextStoking 6 = .ok (.ireturn, 1) := by decide +kernel
theorem dL_nextStoking_7 : decode cL_nextStoking 7 = .ok (.astore_n 3, 1) := by decide +kernel
theorem dL_nextStoking_8 : decode cL_nextStoking 8 = .ok (.bipush (-101), 2) := by decide +kernel
theorem dL_nextStoking_10 : decode cL_nextStoking 10 = .ok (.ireturn, 1) := by decide +kernel
theorem dL_nextStoking_11 : decode cL_nextStoking 11 = .ok (.astore_n 3, 1) := by decide +kernel
theorem dL_nextStoking_12 : decode cL_nextStoking 12 = .ok (.bipush (-102), 2) := by decide +kernel
theorem dL_nextStoking_14 : decode cL_nextStoking 14 = .ok (.ireturn, 1) := by decide +kernel
theorem dL_smoke_0 : decode cL_smoke 0 = .ok (.aload_n 0, 1) := by decide +kernel
theorem dL_smoke_1 : decode cL_smoke 1 = .ok (.iload_n 1, 1) := by decide +kernel
theorem dL_smoke_2 : decode cL_smoke 2 = .ok (.iload_n 2, 1) := by decide +kernel
theorem dL_smoke_3 : decode cL_smoke 3 = .ok (.iload_n 3, 1) := by decide +kernel
theorem dL_smoke_4 : decode cL_smoke 4 = .ok (.iload 4, 2) := by decide +kernel
theorem dL_smoke_6 : decode cL_smoke 6 = .ok (.invokevirtual 49, 3) := by decide +kernel
theorem dL_smoke_9 : decode cL_smoke 9 = .ok (.ireturn, 1) := by decide +kernel
theorem dL_smoke_10 : decode cL_smoke 10 = .ok (.astore 5, 2) := by decide +kernel
theorem dL_smoke_12 : decode cL_smoke 12 = .ok (.bipush (-101), 2) := by decide +kernel
theorem dL_smoke_14 : decode cL_smoke 14 = .ok (.ireturn, 1) := by decide +kernel
theorem dL_smoke_15 : decode cL_smoke 15 = .ok (.astore 5, 2) := by decide +kernel
theorem dL_smoke_17 : decode cL_smoke 17 = .ok (.bipush (-102), 2) := by decide +kernel
theorem dL_smoke_19 : decode cL_smoke 19 = .ok (.ireturn, 1) := by decide +kernel
theorem dL_greyOf_0 : decode cL_greyOf 0 = .ok (.aload_n 0, 1) := by decide +kernel
theorem dL_greyOf_1 : decode cL_greyOf 1 = .ok (.iload_n 1, 1) := by decide +kernel
theorem dL_greyOf_2 : decode cL_greyOf 2 = .ok (.invokevirtual 53, 3) := by decide +kernel
theorem dL_greyOf_5 : decode cL_greyOf 5 = .ok (.ireturn, 1) := by decide +kernel
theorem dL_greyOf_6 : decode cL_greyOf 6 = .ok (.astore_n 2, 1) := by decide +kernel
theorem dL_greyOf_7 : decode cL_greyOf 7 = .ok (.bipush (-102), 2) := by decide +kernel
theorem dL_greyOf_9 : decode cL_greyOf 9 = .ok (.ireturn, 1) := by decide +kernel
theorem dL_watchedBy_0 : decode cL_watchedBy 0 = .ok (.aload_n 0, 1) := by decide +kernel
theorem dL_watchedBy_1 : decode cL_watchedBy 1 = .ok (.iload_n 1, 1) := by decide +kernel
theorem dL_watchedBy_2 : decode cL_watchedBy 2 = .ok (.invokevirtual 56, 3) := by decide +kernel
theorem dL_watchedBy_5 : decode cL_watchedBy 5 = .ok (.ireturn, 1) := by decide +kernel
theorem dL_watchedBy_6 : decode cL_watchedBy 6 = .ok (.astore_n 2, 1) := by decide +kernel
theorem dL_watchedBy_7 : decode cL_watchedBy 7 = .ok (.bipush (-101), 2) := by decide +kernel
theorem dL_watchedBy_9 : decode cL_watchedBy 9 = .ok (.ireturn, 1) := by decide +kernel
theorem dL_tirednessOf_0 : decode cL_tirednessOf 0 = .ok (.aload_n 0, 1) := by decide +kernel
theorem dL_tirednessOf_1 : decode cL_tirednessOf 1 = .ok (.iload_n 1, 1) := by decide +kernel
theorem dL_tirednessOf_2 : decode cL_tirednessOf 2 = .ok (.invokevirtual 59, 3) := by decide +kernel
theorem dL_tirednessOf_5 : decode cL_tirednessOf 5 = .ok (.ireturn, 1) := by decide +kernel
theorem dL_tirednessOf_6 : decode cL_tirednessOf 6 = .ok (.astore_n 2, 1) := by decide +kernel
theorem dL_tirednessOf_7 : decode cL_tirednessOf 7 = .ok (.bipush (-101), 2) := by decide +kernel
theorem dL_tirednessOf_9 : decode cL_tirednessOf 9 = .ok (.ireturn, 1) := by decide +kernel
theorem dL_wouldRead_0 : decode cL_wouldRead 0 = .ok (.aload_n 0, 1) := by decide +kernel
theorem dL_wouldRead_1 : decode cL_wouldRead 1 = .ok (.iload_n 1, 1) := by decide +kernel
theorem dL_wouldRead_2 : decode cL_wouldRead 2 = .ok (.iload_n 2, 1) := by decide +kernel
theorem dL_wouldRead_3 : decode cL_wouldRead 3 = .ok (.invokevirtual 62, 3) := by decide +kernel
theorem dL_wouldRead_6 : decode cL_wouldRead 6 = .ok (.ireturn, 1) := by decide +kernel
theorem dL_wouldRead_7 : decode cL_wouldRead 7 = .ok (.astore_n 3, 1) := by decide +kernel
theorem dL_wouldRead_8 : decode cL_wouldRead 8 = .ok (.bipush (-101), 2) := by decide +kernel
theorem dL_wouldRead_10 : decode cL_wouldRead 10 = .ok (.ireturn, 1) := by decide +kernel
theorem dL_readingOf_0 : decode cL_readingOf 0 = .ok (.aload_n 0, 1) := by decide +kernel
theorem dL_readingOf_1 : decode cL_readingOf 1 = .ok (.iload_n 1, 1) := by decide +kernel
theorem dL_readingOf_2 : decode cL_readingOf 2 = .ok (.iload_n 2, 1) := by decide +kernel
theorem dL_readingOf_3 : decode cL_readingOf 3 = .ok (.invokevirtual 65, 3) := by decide +kernel
theorem dL_readingOf_6 : decode cL_readingOf 6 = .ok (.ireturn, 1) := by decide +kernel
theorem dL_readingOf_7 : decode cL_readingOf 7 = .ok (.astore_n 3, 1) := by decide +kernel
theorem dL_readingOf_8 : decode cL_readingOf 8 = .ok (.bipush (-101), 2) := by decide +kernel
theorem dL_readingOf_10 : decode cL_readingOf 10 = .ok (.ireturn, 1) := by decide +kernel
theorem dL_readingOf_11 : decode cL_readingOf 11 = .ok (.astore_n 3, 1) := by decide +kernel
theorem dL_readingOf_12 : decode cL_readingOf 12 = .ok (.bipush (-102), 2) := by decide +kernel
theorem dL_readingOf_14 : decode cL_readingOf 14 = .ok (.ireturn, 1) := by decide +kernel
theorem dL_readingsFrom_0 : decode cL_readingsFrom 0 = .ok (.aload_n 0, 1) := by decide +kernel
theorem dL_readingsFrom_1 : decode cL_readingsFrom 1 = .ok (.iload_n 1, 1) := by decide +kernel
theorem dL_readingsFrom_2 : decode cL_readingsFrom 2 = .ok (.iload_n 2, 1) := by decide +kernel
theorem dL_readingsFrom_3 : decode cL_readingsFrom 3 = .ok (.invokevirtual 68, 3) := by decide +kernel
theorem dL_readingsFrom_6 : decode cL_readingsFrom 6 = .ok (.ireturn, 1) := by decide +kernel
theorem dL_readingsFrom_7 : decode cL_readingsFrom 7 = .ok (.astore_n 3, 1) := by decide +kernel
theorem dL_readingsFrom_8 : decode cL_readingsFrom 8 = .ok (.bipush (-101), 2) := by decide +kernel
theorem dL_readingsFrom_10 : decode cL_readingsFrom 10 = .ok (.ireturn, 1) := by decide +kernel
theorem dL_readingsFrom_11 : decode cL_readingsFrom 11 = .ok (.astore_n 3, 1) := by decide +kernel
theorem dL_readingsFrom_12 : decode cL_readingsFrom 12 = .ok (.bipush (-102), 2) := by decide +kernel
theorem dL_readingsFrom_14 : decode cL_readingsFrom 14 = .ok (.ireturn, 1) := by decide +kernel
theorem dL_longestRow_0 : decode cL_longestRow 0 = .ok (.aload_n 0, 1) := by decide +kernel
theorem dL_longestRow_1 : decode cL_longestRow 1 = .ok (.iload_n 1, 1) := by decide +kernel
theorem dL_longestRow_2 : decode cL_longestRow 2 = .ok (.iload_n 2, 1) := by decide +kernel
theorem dL_longestRow_3 : decode cL_longestRow 3 = .ok (.iload_n 3, 1) := by decide +kernel
theorem dL_longestRow_4 : decode cL_longestRow 4 = .ok (.invokevirtual 71, 3) := by decide +kernel
theorem dL_longestRow_7 : decode cL_longestRow 7 = .ok (.ireturn, 1) := by decide +kernel
theorem dL_longestRow_8 : decode cL_longestRow 8 = .ok (.astore 4, 2) := by decide +kernel
theorem dL_longestRow_10 : decode cL_longestRow 10 = .ok (.bipush (-101), 2) := by decide +kernel
theorem dL_longestRow_12 : decode cL_longestRow 12 = .ok (.ireturn, 1) := by decide +kernel
theorem dL_longestRow_13 : decode cL_longestRow 13 = .ok (.astore 4, 2) := by decide +kernel
theorem dL_longestRow_15 : decode cL_longestRow 15 = .ok (.bipush (-102), 2) := by decide +kernel
theorem dL_longestRow_17 : decode cL_longestRow 17 = .ok (.ireturn, 1) := by decide +kernel
theorem dL_errorsOf_0 : decode cL_errorsOf 0 = .ok (.aload_n 0, 1) := by decide +kernel
theorem dL_errorsOf_1 : decode cL_errorsOf 1 = .ok (.iload_n 1, 1) := by decide +kernel
theorem dL_errorsOf_2 : decode cL_errorsOf 2 = .ok (.invokevirtual 75, 3) := by decide +kernel
theorem dL_errorsOf_5 : decode cL_errorsOf 5 = .ok (.ireturn, 1) := by decide +kernel
theorem dL_errorsOf_6 : decode cL_errorsOf 6 = .ok (.astore_n 2, 1) := by decide +kernel
theorem dL_errorsOf_7 : decode cL_errorsOf 7 = .ok (.bipush (-101), 2) := by decide +kernel
theorem dL_errorsOf_9 : decode cL_errorsOf 9 = .ok (.ireturn, 1) := by decide +kernel
theorem dL_chimneyOf_0 : decode cL_chimneyOf 0 = .ok (.aload_n 0, 1) := by decide +kernel
theorem dL_chimneyOf_1 : decode cL_chimneyOf 1 = .ok (.iload_n 1, 1) := by decide +kernel
theorem dL_chimneyOf_2 : decode cL_chimneyOf 2 = .ok (.invokevirtual 78, 3) := by decide +kernel
theorem dL_chimneyOf_5 : decode cL_chimneyOf 5 = .ok (.ireturn, 1) := by decide +kernel
theorem dL_chimneyOf_6 : decode cL_chimneyOf 6 = .ok (.astore_n 2, 1) := by decide +kernel
theorem dL_chimneyOf_7 : decode cL_chimneyOf 7 = .ok (.bipush (-101), 2) := by decide +kernel
theorem dL_chimneyOf_9 : decode cL_chimneyOf 9 = .ok (.ireturn, 1) := by decide +kernel
theorem dL_fineOf_0 : decode cL_fineOf 0 = .ok (.aload_n 0, 1) := by decide +kernel
theorem dL_fineOf_1 : decode cL_fineOf 1 = .ok (.iload_n 1, 1) := by decide +kernel
theorem dL_fineOf_2 : decode cL_fineOf 2 = .ok (.invokevirtual 81, 3) := by decide +kernel
theorem dL_fineOf_5 : decode cL_fineOf 5 = .ok (.ireturn, 1) := by decide +kernel
theorem dL_fineOf_6 : decode cL_fineOf 6 = .ok (.astore_n 2, 1) := by decide +kernel
theorem dL_fineOf_7 : decode cL_fineOf 7 = .ok (.bipush (-101), 2) := by decide +kernel
theorem dL_fineOf_9 : decode cL_fineOf 9 = .ok (.ireturn, 1) := by decide +kernel
theorem dL_stands_0 : decode cL_stands 0 = .ok (.aload_n 0, 1) := by decide +kernel
theorem dL_stands_1 : decode cL_stands 1 = .ok (.iload_n 1, 1) := by decide +kernel
theorem dL_stands_2 : decode cL_stands 2 = .ok (.invokevirtual 84, 3) := by decide +kernel
theorem dL_stands_5 : decode cL_stands 5 = .ok (.ifCond .eq 7, 3) := by decide +kernel
theorem dL_stands_8 : decode cL_stands 8 = .ok (.iconst 1, 1) := by decide +kernel
theorem dL_stands_9 : decode cL_stands 9 = .ok (.goto 4, 3) := by decide +kernel
theorem dL_stands_12 : decode cL_stands 12 = .ok (.iconst 0, 1) := by decide +kernel
theorem dL_stands_13 : decode cL_stands 13 = .ok (.ireturn, 1) := by decide +kernel
theorem dL_stands_14 : decode cL_stands 14 = .ok (.astore_n 2, 1) := by decide +kernel
theorem dL_stands_15 : decode cL_stands 15 = .ok (.bipush (-101), 2) := by decide +kernel
theorem dL_stands_17 : decode cL_stands 17 = .ok (.ireturn, 1) := by decide +kernel
theorem dL_wouldAppeal_0 : decode cL_wouldAppeal 0 = .ok (.aload_n 0, 1) := by decide +kernel
theorem dL_wouldAppeal_1 : decode cL_wouldAppeal 1 = .ok (.iload_n 1, 1) := by decide +kernel
theorem dL_wouldAppeal_2 : decode cL_wouldAppeal 2 = .ok (.invokevirtual 87, 3) := by decide +kernel
theorem dL_wouldAppeal_5 : decode cL_wouldAppeal 5 = .ok (.ireturn, 1) := by decide +kernel
theorem dL_wouldAppeal_6 : decode cL_wouldAppeal 6 = .ok (.astore_n 2, 1) := by decide +kernel
theorem dL_wouldAppeal_7 : decode cL_wouldAppeal 7 = .ok (.bipush (-101), 2) := by decide +kernel
theorem dL_wouldAppeal_9 : decode cL_wouldAppeal 9 = .ok (.ireturn, 1) := by decide +kernel
theorem dL_finesOf_0 : decode cL_finesOf 0 = .ok (.aload_n 0, 1) := by decide +kernel
theorem dL_finesOf_1 : decode cL_finesOf 1 = .ok (.iload_n 1, 1) := by decide +kernel
theorem dL_finesOf_2 : decode cL_finesOf 2 = .ok (.iload_n 2, 1) := by decide +kernel
theorem dL_finesOf_3 : decode cL_finesOf 3 = .ok (.invokevirtual 90, 3) := by decide +kernel
theorem dL_finesOf_6 : decode cL_finesOf 6 = .ok (.ireturn, 1) := by decide +kernel
theorem dL_finesOf_7 : decode cL_finesOf 7 = .ok (.astore_n 3, 1) := by decide +kernel
theorem dL_finesOf_8 : decode cL_finesOf 8 = .ok (.bipush (-101), 2) := by decide +kernel
theorem dL_finesOf_10 : decode cL_finesOf 10 = .ok (.ireturn, 1) := by decide +kernel
theorem dL_undo_0 : decode cL_undo 0 = .ok (.aload_n 0, 1) := by decide +kernel
theorem dL_undo_1 : decode cL_undo 1 = .ok (.invokevirtual 94, 3) := by decide +kernel
theorem dL_undo_4 : decode cL_undo 4 = .ok (.ireturn, 1) := by decide +kernel
theorem dL_undo_5 : decode cL_undo 5 = .ok (.astore_n 1, 1) := by decide +kernel
theorem dL_undo_6 : decode cL_undo 6 = .ok (.bipush (-103), 2) := by decide +kernel
theorem dL_undo_8 : decode cL_undo 8 = .ok (.ireturn, 1) := by decide +kernel
theorem dL_save_0 : decode cL_save 0 = .ok (.aload_n 0, 1) := by decide +kernel
theorem dL_save_1 : decode cL_save 1 = .ok (.iload_n 1, 1) := by decide +kernel
theorem dL_save_2 : decode cL_save 2 = .ok (.invokevirtual 98, 3) := by decide +kernel
theorem dL_save_5 : decode cL_save 5 = .ok (.ireturn, 1) := by decide +kernel
theorem dL_save_6 : decode cL_save 6 = .ok (.astore_n 2, 1) := by decide +kernel
theorem dL_save_7 : decode cL_save 7 = .ok (.bipush (-101), 2) := by decide +kernel
theorem dL_save_9 : decode cL_save 9 = .ok (.ireturn, 1) := by decide +kernel
theorem dL_restore_0 : decode cL_restore 0 = .ok (.aload_n 0, 1) := by decide +kernel
theorem dL_restore_1 : decode cL_restore 1 = .ok (.iload_n 1, 1) := by decide +kernel
theorem dL_restore_2 : decode cL_restore 2 = .ok (.invokevirtual 101, 3) := by decide +kernel
theorem dL_restore_5 : decode cL_restore 5 = .ok (.ireturn, 1) := by decide +kernel
theorem dL_restore_6 : decode cL_restore 6 = .ok (.astore_n 2, 1) := by decide +kernel
theorem dL_restore_7 : decode cL_restore 7 = .ok (.bipush (-101), 2) := by decide +kernel
theorem dL_restore_9 : decode cL_restore 9 = .ok (.ireturn, 1) := by decide +kernel
theorem dL_restore_10 : decode cL_restore 10 = .ok (.astore_n 2, 1) := by decide +kernel
theorem dL_restore_11 : decode cL_restore 11 = .ok (.bipush (-103), 2) := by decide +kernel
theorem dL_restore_13 : decode cL_restore 13 = .ok (.ireturn, 1) := by decide +kernel
theorem dL_shade_0 : decode cL_shade 0 = .ok (.aload_n 2, 1) := by decide +kernel
theorem dL_shade_1 : decode cL_shade 1 = .ok (.iload_n 0, 1) := by decide +kernel
theorem dL_shade_2 : decode cL_shade 2 = .ok (.iaload, 1) := by decide +kernel
theorem dL_shade_3 : decode cL_shade 3 = .ok (.iconst 1, 1) := by decide +kernel
theorem dL_shade_4 : decode cL_shade 4 = .ok (.iadd, 1) := by decide +kernel
theorem dL_shade_5 : decode cL_shade 5 = .ok (.iconst 2, 1) := by decide +kernel
theorem dL_shade_6 : decode cL_shade 6 = .ok (.idiv, 1) := by decide +kernel
theorem dL_shade_7 : decode cL_shade 7 = .ok (.aload_n 2, 1) := by decide +kernel
theorem dL_shade_8 : decode cL_shade 8 = .ok (.bipush 8, 2) := by decide +kernel
theorem dL_shade_10 : decode cL_shade 10 = .ok (.iload_n 0, 1) := by decide +kernel
theorem dL_shade_11 : decode cL_shade 11 = .ok (.iadd, 1) := by decide +kernel
theorem dL_shade_12 : decode cL_shade 12 = .ok (.iaload, 1) := by decide +kernel
theorem dL_shade_13 : decode cL_shade 13 = .ok (.iadd, 1) := by decide +kernel
theorem dL_shade_14 : decode cL_shade 14 = .ok (.istore_n 3, 1) := by decide +kernel
theorem dL_shade_15 : decode cL_shade 15 = .ok (.aload_n 2, 1) := by decide +kernel
theorem dL_shade_16 : decode cL_shade 16 = .ok (.bipush 24, 2) := by decide +kernel
theorem dL_shade_18 : decode cL_shade 18 = .ok (.iload_n 0, 1) := by decide +kernel
theorem dL_shade_19 : decode cL_shade 19 = .ok (.iadd, 1) := by decide +kernel
theorem dL_shade_20 : decode cL_shade 20 = .ok (.iaload, 1) := by decide +kernel
theorem dL_shade_21 : decode cL_shade 21 = .ok (.istore 4, 2) := by decide +kernel
theorem dL_shade_23 : decode cL_shade 23 = .ok (.iload 4, 2) := by decide +kernel
theorem dL_shade_25 : decode cL_shade 25 = .ok (.aload_n 2, 1) := by decide +kernel
theorem dL_shade_26 : decode cL_shade 26 = .ok (.bipush 16, 2) := by decide +kernel
theorem dL_shade_28 : decode cL_shade 28 = .ok (.iload_n 0, 1) := by decide +kernel
theorem dL_shade_29 : decode cL_shade 29 = .ok (.iadd, 1) := by decide +kernel
theorem dL_shade_30 : decode cL_shade 30 = .ok (.iaload, 1) := by decide +kernel
theorem dL_shade_31 : decode cL_shade 31 = .ok (.iadd, 1) := by decide +kernel
theorem dL_shade_32 : decode cL_shade 32 = .ok (.iload_n 1, 1) := by decide +kernel
theorem dL_shade_33 : decode cL_shade 33 = .ok (.if_icmp .gt 17, 3) := by decide +kernel
theorem dL_shade_36 : decode cL_shade 36 = .ok (.iload 4, 2) := by decide +kernel
theorem dL_shade_38 : decode cL_shade 38 = .ok (.aload_n 2, 1) := by decide +kernel
theorem dL_shade_39 : decode cL_shade 39 = .ok (.bipush 16, 2) := by decide +kernel
theorem dL_shade_41 : decode cL_shade 41 = .ok (.iload_n 0, 1) := by decide +kernel
theorem dL_shade_42 : decode cL_shade 42 = .ok (.iadd, 1) := by decide +kernel
theorem dL_shade_43 : decode cL_shade 43 = .ok (.iaload, 1) := by decide +kernel
theorem dL_shade_44 : decode cL_shade 44 = .ok (.iadd, 1) := by decide +kernel
theorem dL_shade_45 : decode cL_shade 45 = .ok (.istore 4, 2) := by decide +kernel
theorem dL_shade_47 : decode cL_shade 47 = .ok (.goto (-24), 3) := by decide +kernel
theorem dL_shade_50 : decode cL_shade 50 = .ok (.iload_n 3, 1) := by decide +kernel
theorem dL_shade_51 : decode cL_shade 51 = .ok (.iload_n 1, 1) := by decide +kernel
theorem dL_shade_52 : decode cL_shade 52 = .ok (.iload 4, 2) := by decide +kernel
theorem dL_shade_54 : decode cL_shade 54 = .ok (.isub, 1) := by decide +kernel
theorem dL_shade_55 : decode cL_shade 55 = .ok (.isub, 1) := by decide +kernel
theorem dL_shade_56 : decode cL_shade 56 = .ok (.istore_n 3, 1) := by decide +kernel
theorem dL_shade_57 : decode cL_shade 57 = .ok (.iload_n 1, 1) := by decide +kernel
theorem dL_shade_58 : decode cL_shade 58 = .ok (.aload_n 2, 1) := by decide +kernel
theorem dL_shade_59 : decode cL_shade 59 = .ok (.bipush 24, 2) := by decide +kernel
theorem dL_shade_61 : decode cL_shade 61 = .ok (.iload_n 0, 1) := by decide +kernel
theorem dL_shade_62 : decode cL_shade 62 = .ok (.iadd, 1) := by decide +kernel
theorem dL_shade_63 : decode cL_shade 63 = .ok (.iaload, 1) := by decide +kernel
theorem dL_shade_64 : decode cL_shade 64 = .ok (.if_icmp .lt 7, 3) := by decide +kernel
theorem dL_shade_67 : decode cL_shade 67 = .ok (.iload_n 3, 1) := by decide +kernel
theorem dL_shade_68 : decode cL_shade 68 = .ok (.ifCond .ge 7, 3) := by decide +kernel
theorem dL_shade_71 : decode cL_shade 71 = .ok (.iconst 0, 1) := by decide +kernel
theorem dL_shade_72 : decode cL_shade 72 = .ok (.goto 13, 3) := by decide +kernel
theorem dL_shade_75 : decode cL_shade 75 = .ok (.iload_n 3, 1) := by decide +kernel
theorem dL_shade_76 : decode cL_shade 76 = .ok (.iconst 5, 1) := by decide +kernel
theorem dL_shade_77 : decode cL_shade 77 = .ok (.if_icmp .le 7, 3) := by decide +kernel
theorem dL_shade_80 : decode cL_shade 80 = .ok (.iconst 5, 1) := by decide +kernel
theorem dL_shade_81 : decode cL_shade 81 = .ok (.goto 4, 3) := by decide +kernel
theorem dL_shade_84 : decode cL_shade 84 = .ok (.iload_n 3, 1) := by decide +kernel
theorem dL_shade_85 : decode cL_shade 85 = .ok (.ireturn, 1) := by decide +kernel
theorem dL_sees_0 : decode cL_sees 0 = .ok (.iload_n 1, 1) := by decide +kernel
theorem dL_sees_1 : decode cL_sees 1 = .ok (.aload 4, 2) := by decide +kernel
theorem dL_sees_3 : decode cL_sees 3 = .ok (.bipush 18, 2) := by decide +kernel
theorem dL_sees_5 : decode cL_sees 5 = .ok (.iaload, 1) := by decide +kernel
theorem dL_sees_6 : decode cL_sees 6 = .ok (.aload_n 2, 1) := by decide +kernel
theorem dL_sees_7 : decode cL_sees 7 = .ok (.invokestatic 104, 3) := by decide +kernel
theorem dL_sees_10 : decode cL_sees 10 = .ok (.istore 5, 2) := by decide +kernel
theorem dL_sees_12 : decode cL_sees 12 = .ok (.iload 5, 2) := by decide +kernel
theorem dL_sees_14 : decode cL_sees 14 = .ok (.aload 4, 2) := by decide +kernel
theorem dL_sees_16 : decode cL_sees 16 = .ok (.iload_n 0, 1) := by decide +kernel
theorem dL_sees_17 : decode cL_sees 17 = .ok (.iaload, 1) := by decide +kernel
theorem dL_sees_18 : decode cL_sees 18 = .ok (.iadd, 1) := by decide +kernel
theorem dL_sees_19 : decode cL_sees 19 = .ok (.aload 4, 2) := by decide +kernel
theorem dL_sees_21 : decode cL_sees 21 = .ok (.iconst 3, 1) := by decide +kernel
theorem dL_sees_22 : decode cL_sees 22 = .ok (.iload_n 0, 1) := by decide +kernel
theorem dL_sees_23 : decode cL_sees 23 = .ok (.iadd, 1) := by decide +kernel
theorem dL_sees_24 : decode cL_sees 24 = .ok (.iaload, 1) := by decide +kernel
theorem dL_sees_25 : decode cL_sees 25 = .ok (.bipush 11, 2) := by decide +kernel
theorem dL_sees_27 : decode cL_sees 27 = .ok (.if_icmp .le 7, 3) := by decide +kernel
theorem dL_sees_30 : decode cL_sees 30 = .ok (.iconst 1, 1) := by decide +kernel
theorem dL_sees_31 : decode cL_sees 31 = .ok (.goto 4, 3) := by decide +kernel
theorem dL_sees_34 : decode cL_sees 34 = .ok (.iconst 0, 1) := by decide +kernel
theorem dL_sees_35 : decode cL_sees 35 = .ok (.isub, 1) := by decide +kernel
theorem dL_sees_36 : decode cL_sees 36 = .ok (.istore 6, 2) := by decide +kernel
theorem dL_sees_38 : decode cL_sees 38 = .ok (.aload_n 3, 1) := by decide +kernel
theorem dL_sees_39 : decode cL_sees 39 = .ok (.aload 4, 2) := by decide +kernel
theorem dL_sees_41 : decode cL_sees 41 = .ok (.bipush 18, 2) := by decide +kernel
theorem dL_sees_43 : decode cL_sees 43 = .ok (.iaload, 1) := by decide +kernel
theorem dL_sees_44 : decode cL_sees 44 = .ok (.iconst 4, 1) := by decide +kernel
theorem dL_sees_45 : decode cL_sees 45 = .ok (.idiv, 1) := by decide +kernel
theorem dL_sees_46 : decode cL_sees 46 = .ok (.iaload, 1) := by decide +kernel
theorem dL_sees_47 : decode cL_sees 47 = .ok (.iconst 3, 1) := by decide +kernel
theorem dL_sees_48 : decode cL_sees 48 = .ok (.if_icmp .lt 13, 3) := by decide +kernel
theorem dL_sees_51 : decode cL_sees 51 = .ok (.iload 5, 2) := by decide +kernel
