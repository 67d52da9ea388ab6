set_option maxRecDepth 20000 in
theorem ggX9_init_X9_forget : GoodIn wsX9_init wsX9_forget := goodIn_r _ [16, 5, 17, 18, 19, 20, 21, 22, 23, 24, 25, 26, 27, 28, 29, 30, 31] rfl (by decide +kernel)
set_option maxRecDepth 20000 in
theorem gX9_init_X9_forget : GoodIn wsX9_init (wsV RX9 31 RX9 yX9_forget wsX9_forget) := goodIn_app (goodIn_of _ (by decide +kernel)) ggX9_init_X9_forget
set_option maxRecDepth 20000 in
theorem ggX9_isChimney_X9_within : GoodIn wsX9_isChimney wsX9_within := goodIn_r _ [4] rfl (by decide +kernel)
set_option maxRecDepth 20000 in
theorem gX9_isChimney_X9_within : GoodIn wsX9_isChimney (va_wsS RX9 38 yX9_within wsX9_within) := goodIn_app (goodIn_of _ (by decide +kernel)) ggX9_isChimney_X9_within
set_option maxRecDepth 20000 in
theorem ggX9_isObserver_X9_within : GoodIn wsX9_isObserver wsX9_within := goodIn_r _ [4] rfl (by decide +kernel)
set_option maxRecDepth 20000 in
theorem gX9_isObserver_X9_within : GoodIn wsX9_isObserver (va_wsS RX9 38 yX9_within wsX9_within) := goodIn_app (goodIn_of _ (by decide +kernel)) ggX9_isObserver_X9_within
set_option maxRecDepth 20000 in
theorem ggX9_isTick_X9_within : GoodIn wsX9_isTick wsX9_within := goodIn_r _ [4] rfl (by decide +kernel)
set_option maxRecDepth 20000 in
theorem gX9_isTick_X9_within : GoodIn wsX9_isTick (va_wsS RX9 38 yX9_within wsX9_within) := goodIn_app (goodIn_of _ (by decide +kernel)) ggX9_isTick_X9_within
set_option maxRecDepth 20000 in
theorem ggX9_isHour_X9_within : GoodIn wsX9_isHour wsX9_within := goodIn_r _ [4] rfl (by decide +kernel)
set_option maxRecDepth 20000 in
theorem gX9_isHour_X9_within : GoodIn wsX9_isHour (va_wsS RX9 38 yX9_within wsX9_within) := goodIn_app (goodIn_of _ (by decide +kernel)) ggX9_isHour_X9_within
set_option maxRecDepth 20000 in
theorem ggX9_isPass_X9_within : GoodIn wsX9_isPass wsX9_within := goodIn_r _ [4] rfl (by decide +kernel)
set_option maxRecDepth 20000 in
theorem gX9_isPass_X9_within : GoodIn wsX9_isPass (va_wsS RX9 38 yX9_within wsX9_within) := goodIn_app (goodIn_of _ (by decide +kernel)) ggX9_isPass_X9_within
set_option maxRecDepth 20000 in
theorem ggX9_isNotice_X9_within : GoodIn wsX9_isNotice wsX9_within := goodIn_r _ [5] rfl (by decide +kernel)
set_option maxRecDepth 20000 in
theorem gX9_isNotice_X9_within : GoodIn wsX9_isNotice (va_wsS RX9 38 yX9_within wsX9_within) := goodIn_app (goodIn_of _ (by decide +kernel)) ggX9_isNotice_X9_within
set_option maxRecDepth 20000 in
theorem ggX9_undo_X9_fails : GoodIn wsX9_undo wsX9_fails := goodIn_r _ [9, 1, 10, 11, 12, 13, 14, 15, 16, 17, 18, 19, 20, 21, 22, 23, 24] rfl (by decide +kernel)
set_option maxRecDepth 20000 in
theorem gX9_undo_X9_fails : GoodIn wsX9_undo (wsV RX9 45 RX9 yX9_fails wsX9_fails) := goodIn_app (goodIn_of _ (by decide +kernel)) ggX9_undo_X9_fails
set_option maxRecDepth 20000 in
theorem ggX9_save_X9_within : GoodIn wsX9_save wsX9_within := goodIn_r _ [8] rfl (by decide +kernel)
set_option maxRecDepth 20000 in
theorem gX9_save_X9_within : GoodIn wsX9_save (va_wsS RX9 38 yX9_within wsX9_within) := goodIn_app (goodIn_of _ (by decide +kernel)) ggX9_save_X9_within
set_option maxRecDepth 20000 in
theorem ggX9_save_X9_fails : GoodIn wsX9_save wsX9_fails := goodIn_r _ [12, 1, 17, 18, 19, 20, 21, 22, 23, 24, 25, 26, 27, 28, 29, 30, 31] rfl (by decide +kernel)
set_option maxRecDepth 20000 in
theorem gX9_save_X9_fails : GoodIn wsX9_save (wsV RX9 45 RX9 yX9_fails wsX9_fails) := goodIn_app (goodIn_of _ (by decide +kernel)) ggX9_save_X9_fails
set_option maxRecDepth 20000 in
theorem ggX9_save_X9_standing : GoodIn wsX9_save wsX9_standing := goodIn_r _ [16, 3, 17, 18, 19, 20, 21, 22, 23, 24, 25, 26, 27, 28, 29, 30, 31] rfl (by decide +kernel)
set_option maxRecDepth 20000 in
theorem gX9_save_X9_standing : GoodIn wsX9_save (wsV RX9 49 RX9 yX9_standing wsX9_standing) := goodIn_app (goodIn_of _ (by decide +kernel)) ggX9_save_X9_standing
set_option maxRecDepth 20000 in
theorem ggX9_restore_X9_within : GoodIn wsX9_restore wsX9_within := goodIn_r _ [8] rfl (by decide +kernel)
set_option maxRecDepth 20000 in
theorem gX9_restore_X9_within : GoodIn wsX9_restore (va_wsS RX9 38 yX9_within wsX9_within) := goodIn_app (goodIn_of _ (by decide +kernel)) ggX9_restore_X9_within
set_option maxRecDepth 20000 in
theorem ggX9_restore_X9_fails : GoodIn wsX9_restore wsX9_fails := goodIn_r _ [12, 1, 23, 24, 25, 26, 27, 28, 29, 30, 31, 32, 33, 34, 35, 36, 37] rfl (by decide +kernel)
set_option maxRecDepth 20000 in
theorem gX9_restore_X9_fails : GoodIn wsX9_restore (wsV RX9 45 RX9 yX9_fails wsX9_fails) := goodIn_app (goodIn_of _ (by decide +kernel)) ggX9_restore_X9_fails
set_option maxRecDepth 20000 in
theorem ggX9_restore_X9_record : GoodIn wsX9_restore wsX9_record := goodIn_r _ [16, 17, 18, 3, 23, 24, 25, 26, 27, 28, 29, 30, 31, 32, 33, 34, 35, 36, 37] rfl (by decide +kernel)
set_option maxRecDepth 20000 in
theorem gX9_restore_X9_record : GoodIn wsX9_restore (wsV RX9 53 RX9 yX9_record wsX9_record) := goodIn_app (goodIn_of _ (by decide +kernel)) ggX9_restore_X9_record
set_option maxRecDepth 20000 in
theorem ggX9_restore_X9_standing : GoodIn wsX9_restore wsX9_standing := goodIn_r _ [22, 3, 23, 24, 25, 26, 27, 28, 29, 30, 31, 32, 33, 34, 35, 36, 37] rfl (by decide +kernel)
set_option maxRecDepth 20000 in
theorem gX9_restore_X9_standing : GoodIn wsX9_restore (wsV RX9 49 RX9 yX9_standing wsX9_standing) := goodIn_app (goodIn_of _ (by decide +kernel)) ggX9_restore_X9_standing
set_option maxRecDepth 20000 in
theorem ggX9_reads_X9_shade : GoodIn wsX9_reads wsX9_shade := goodIn_r _ [6, 1, 11, 12, 13, 14, 15, 16, 17, 18, 19, 20, 21, 22, 23, 24, 25] rfl (by decide +kernel)
set_option maxRecDepth 20000 in
theorem gX9_reads_X9_shade : GoodIn wsX9_reads (wsV RX9 56 RX9 yX9_shade wsX9_shade) := goodIn_app (goodIn_of _ (by decide +kernel)) ggX9_reads_X9_shade
set_option maxRecDepth 20000 in
theorem ggX9_reads_X9_greyIn : GoodIn wsX9_reads wsX9_greyIn := goodIn_r _ [10, 1, 11, 12, 13, 14, 15, 16, 17, 18, 19, 20, 21, 22, 23, 24, 25] rfl (by decide +kernel)
set_option maxRecDepth 20000 in
theorem gX9_reads_X9_greyIn : GoodIn wsX9_reads (wsV RX9 60 RX9 yX9_greyIn wsX9_greyIn) := goodIn_app (goodIn_of _ (by decide +kernel)) ggX9_reads_X9_greyIn
set_option maxRecDepth 20000 in
theorem ggX9_rowUpTo_X9_readingIn : GoodIn wsX9_rowUpTo wsX9_readingIn := goodIn_r _ [5, 6, 7, 8, 9, 10, 11, 12, 13, 14, 15, 16, 17, 18, 19, 20, 21] rfl (by decide +kernel)
set_option maxRecDepth 20000 in
theorem gX9_rowUpTo_X9_readingIn : GoodIn wsX9_rowUpTo (wsV RX9 63 RX9 yX9_readingIn wsX9_readingIn) := goodIn_app (goodIn_of _ (by decide +kernel)) ggX9_rowUpTo_X9_readingIn
set_option maxRecDepth 20000 in
theorem ggX9_watches_X9_reads : GoodIn wsX9_watches wsX9_reads := goodIn_r _ [6, 1, 7, 8, 9, 5, 10, 11, 12, 13, 14, 15, 16, 17, 18, 19, 20, 21, 22, 23, 24, 25, 26, 27, 28, 29] rfl (by decide +kernel)
set_option maxRecDepth 20000 in
theorem gX9_watches_X9_reads : GoodIn wsX9_watches (wsV RX9 66 RX9 yX9_reads wsX9_reads) := goodIn_app (goodIn_of _ (by decide +kernel)) ggX9_watches_X9_reads
set_option maxRecDepth 20000 in
theorem ggX9_watches_X9_shade : GoodIn wsX9_watches wsX9_shade := goodIn_r _ [10, 1, 15, 16, 17, 18, 19, 20, 21, 22, 23, 24, 25, 26, 27, 28, 29] rfl (by decide +kernel)
set_option maxRecDepth 20000 in
theorem gX9_watches_X9_shade : GoodIn wsX9_watches (wsV RX9 56 RX9 yX9_shade wsX9_shade) := goodIn_app (goodIn_of _ (by decide +kernel)) ggX9_watches_X9_shade
set_option maxRecDepth 20000 in
theorem ggX9_noteDown_X9_greyIn : GoodIn wsX9_noteDown wsX9_greyIn := goodIn_r _ [6, 1, 11, 12, 13, 14, 15, 16, 17, 18, 19, 20, 21, 22, 23, 24, 25] rfl (by decide +kernel)
set_option maxRecDepth 20000 in
theorem gX9_noteDown_X9_greyIn : GoodIn wsX9_noteDown (wsV RX9 60 RX9 yX9_greyIn wsX9_greyIn) := goodIn_app (goodIn_of _ (by decide +kernel)) ggX9_noteDown_X9_greyIn
set_option maxRecDepth 20000 in
theorem ggX9_noteDown_X9_shade : GoodIn wsX9_noteDown wsX9_shade := goodIn_r _ [10, 1, 11, 12, 13, 14, 15, 16, 17, 18, 19, 20, 21, 22, 23, 24, 25] rfl (by decide +kernel)
set_option maxRecDepth 20000 in
theorem gX9_noteDown_X9_shade : GoodIn wsX9_noteDown (wsV RX9 56 RX9 yX9_shade wsX9_shade) := goodIn_app (goodIn_of _ (by decide +kernel)) ggX9_noteDown_X9_shade
set_option maxRecDepth 20000 in
theorem ggX9_gets_X9_whyFor : GoodIn wsX9_gets wsX9_whyFor := goodIn_r _ [6, 1, 7, 8, 9, 10, 11, 12, 13, 14, 15, 16, 17, 18, 19, 20, 21] rfl (by decide +kernel)
set_option maxRecDepth 20000 in
theorem gX9_gets_X9_whyFor : GoodIn wsX9_gets (wsV RX9 69 RX9 yX9_whyFor wsX9_whyFor) := goodIn_app (goodIn_of _ (by decide +kernel)) ggX9_gets_X9_whyFor
set_option maxRecDepth 20000 in
theorem ggX9_tick_X9_noteDown : GoodIn wsX9_tick wsX9_noteDown := goodIn_r _ [6, 1, 7, 8, 9, 5, 10, 11, 12, 13, 14, 43, 44, 45, 46, 47, 48, 49, 50, 51, 52, 53, 54, 55, 56, 57] rfl (by decide +kernel)
set_option maxRecDepth 20000 in
theorem gX9_tick_X9_noteDown : GoodIn wsX9_tick (wsV RX9 72 RX9 yX9_noteDown wsX9_noteDown) := goodIn_app (goodIn_of _ (by decide +kernel)) ggX9_tick_X9_noteDown
set_option maxRecDepth 20000 in
theorem ggX9_tick_X9_watches : GoodIn wsX9_tick wsX9_watches := goodIn_r _ [18, 1, 19, 20, 21, 5, 22, 11, 12, 13, 14, 7, 8, 9, 10, 43, 44, 45, 46, 47, 48, 49, 50, 51, 52, 53, 54, 55, 56, 57] rfl (by decide +kernel)
set_option maxRecDepth 20000 in
theorem gX9_tick_X9_watches : GoodIn wsX9_tick (wsV RX9 75 RX9 yX9_watches wsX9_watches) := goodIn_app (goodIn_of _ (by decide +kernel)) ggX9_tick_X9_watches
set_option maxRecDepth 20000 in
theorem ggX9_tick_X9_rowUpTo : GoodIn wsX9_tick wsX9_rowUpTo := goodIn_r _ [26, 27, 28, 29, 5, 30, 1, 43, 44, 45, 46, 47, 48, 49, 50, 51, 52, 53, 54, 55, 56, 57] rfl (by decide +kernel)
set_option maxRecDepth 20000 in
theorem gX9_tick_X9_rowUpTo : GoodIn wsX9_tick (wsV RX9 79 RX9 yX9_rowUpTo wsX9_rowUpTo) := goodIn_app (goodIn_of _ (by decide +kernel)) ggX9_tick_X9_rowUpTo
set_option maxRecDepth 20000 in
theorem ggX9_tick_X9_gets : GoodIn wsX9_tick wsX9_gets := goodIn_r _ [34, 1, 35, 36, 37, 5, 38, 43, 44, 45, 46, 47, 48, 49, 50, 51, 52, 53, 54, 55, 56, 57] rfl (by decide +kernel)
set_option maxRecDepth 20000 in
theorem gX9_tick_X9_gets : GoodIn wsX9_tick (wsV RX9 83 RX9 yX9_gets wsX9_gets) := goodIn_app (goodIn_of _ (by decide +kernel)) ggX9_tick_X9_gets
set_option maxRecDepth 20000 in
theorem ggX9_tick_X9_forget : GoodIn wsX9_tick wsX9_forget := goodIn_r _ [42, 1, 43, 44, 45, 46, 47, 48, 49, 50, 51, 52, 53, 54, 55, 56, 57] rfl (by decide +kernel)
set_option maxRecDepth 20000 in
theorem gX9_tick_X9_forget : GoodIn wsX9_tick (wsV RX9 31 RX9 yX9_forget wsX9_forget) := goodIn_app (goodIn_of _ (by decide +kernel)) ggX9_tick_X9_forget
set_option maxRecDepth 20000 in
theorem ggX9_passes_X9_tick : GoodIn wsX9_passes wsX9_tick := goodIn_r _ [6, 1, 7, 8, 9, 5, 10, 11, 12, 13, 14, 15, 16, 17, 18, 19, 20, 21, 22, 23, 24, 25, 26, 27, 28, 29, 30, 31, 32, 33, 34, 35, 36, 37, 38, 39, 40, 41, 42, 43, 44, 45, 46, 47, 48, 49, 50, 51, 52, 53, 54, 55, 56, 57, 58, 59, 60, 61] rfl (by decide +kernel)
set_option maxRecDepth 20000 in
theorem gX9_passes_X9_tick : GoodIn wsX9_passes (wsV RX9 86 RX9 yX9_tick wsX9_tick) := goodIn_app (goodIn_of _ (by decide +kernel)) ggX9_passes_X9_tick
set_option maxRecDepth 20000 in
theorem ggX9_setChimney_X9_isChimney : GoodIn wsX9_setChimney wsX9_isChimney := goodIn_r _ [6, 7, 8, 5, 9] rfl (by decide +kernel)
set_option maxRecDepth 20000 in
theorem gX9_setChimney_X9_isChimney : GoodIn wsX9_setChimney (va_wsS RX9 89 yX9_isChimney wsX9_isChimney) := goodIn_app (goodIn_of _ (by decide +kernel)) ggX9_setChimney_X9_isChimney
set_option maxRecDepth 20000 in
theorem ggX9_setChimney_X9_fails : GoodIn wsX9_setChimney wsX9_fails := goodIn_r _ [13, 1, 24, 25, 26, 27, 28, 29, 30, 31, 32, 33, 34, 35, 36, 37, 38] rfl (by decide +kernel)
set_option maxRecDepth 20000 in
theorem gX9_setChimney_X9_fails : GoodIn wsX9_setChimney (wsV RX9 45 RX9 yX9_fails wsX9_fails) := goodIn_app (goodIn_of _ (by decide +kernel)) ggX9_setChimney_X9_fails
set_option maxRecDepth 20000 in
theorem ggX9_setChimney_X9_within : GoodIn wsX9_setChimney wsX9_within := goodIn_r _ [9] rfl (by decide +kernel)
set_option maxRecDepth 20000 in
theorem gX9_setChimney_X9_within : GoodIn wsX9_setChimney (va_wsS RX9 38 yX9_within wsX9_within) := goodIn_app (goodIn_of _ (by decide +kernel)) ggX9_setChimney_X9_within
set_option maxRecDepth 20000 in
theorem ggX9_setChimney_X9_record : GoodIn wsX9_setChimney wsX9_record := goodIn_r _ [17, 18, 19, 2, 24, 25, 26, 27, 28, 29, 30, 31, 32, 33, 34, 35, 36, 37, 38] rfl (by decide +kernel)
set_option maxRecDepth 20000 in
theorem gX9_setChimney_X9_record : GoodIn wsX9_setChimney (wsV RX9 53 RX9 yX9_record wsX9_record) := goodIn_app (goodIn_of _ (by decide +kernel)) ggX9_setChimney_X9_record
set_option maxRecDepth 20000 in
theorem ggX9_setChimney_X9_shade : GoodIn wsX9_setChimney wsX9_shade := goodIn_r _ [23, 2, 24, 25, 26, 27, 28, 29, 30, 31, 32, 33, 34, 35, 36, 37, 38] rfl (by decide +kernel)
set_option maxRecDepth 20000 in
theorem gX9_setChimney_X9_shade : GoodIn wsX9_setChimney (wsV RX9 56 RX9 yX9_shade wsX9_shade) := goodIn_app (goodIn_of _ (by decide +kernel)) ggX9_setChimney_X9_shade
set_option maxRecDepth 20000 in
theorem ggX9_setGrey_X9_isHour : GoodIn wsX9_setGrey wsX9_isHour := goodIn_r _ [6, 7, 8, 5, 9] rfl (by decide +kernel)
set_option maxRecDepth 20000 in
theorem gX9_setGrey_X9_isHour : GoodIn wsX9_setGrey (va_wsS RX9 93 yX9_isHour wsX9_isHour) := goodIn_app (goodIn_of _ (by decide +kernel)) ggX9_setGrey_X9_isHour
set_option maxRecDepth 20000 in
theorem ggX9_setGrey_X9_within : GoodIn wsX9_setGrey wsX9_within := goodIn_r _ [9] rfl (by decide +kernel)
set_option maxRecDepth 20000 in
theorem gX9_setGrey_X9_within : GoodIn wsX9_setGrey (va_wsS RX9 38 yX9_within wsX9_within) := goodIn_app (goodIn_of _ (by decide +kernel)) ggX9_setGrey_X9_within
set_option maxRecDepth 20000 in
theorem ggX9_setGrey_X9_fails : GoodIn wsX9_setGrey wsX9_fails := goodIn_r _ [13, 1, 20, 21, 22, 23, 24, 25, 26, 27, 28, 29, 30, 31, 32, 33, 34] rfl (by decide +kernel)
set_option maxRecDepth 20000 in
theorem gX9_setGrey_X9_fails : GoodIn wsX9_setGrey (wsV RX9 45 RX9 yX9_fails wsX9_fails) := goodIn_app (goodIn_of _ (by decide +kernel)) ggX9_setGrey_X9_fails
set_option maxRecDepth 20000 in
theorem ggX9_setGrey_X9_record : GoodIn wsX9_setGrey wsX9_record := goodIn_r _ [17, 18, 19, 2, 20, 21, 22, 23, 24, 25, 26, 27, 28, 29, 30, 31, 32, 33, 34] rfl (by decide +kernel)
set_option maxRecDepth 20000 in
theorem gX9_setGrey_X9_record : GoodIn wsX9_setGrey (wsV RX9 53 RX9 yX9_record wsX9_record) := goodIn_app (goodIn_of _ (by decide +kernel)) ggX9_setGrey_X9_record
set_option maxRecDepth 20000 in
theorem ggX9_watch_X9_isObserver : GoodIn wsX9_watch wsX9_isObserver := goodIn_r _ [6, 7, 8, 5, 9] rfl (by decide +kernel)
set_option maxRecDepth 20000 in
theorem gX9_watch_X9_isObserver : GoodIn wsX9_watch (va_wsS RX9 96 yX9_isObserver wsX9_isObserver) := goodIn_app (goodIn_of _ (by decide +kernel)) ggX9_watch_X9_isObserver
set_option maxRecDepth 20000 in
theorem ggX9_watch_X9_fails : GoodIn wsX9_watch wsX9_fails := goodIn_r _ [13, 1, 23, 24, 25, 26, 27, 28, 29, 30, 31, 32, 33, 34, 35, 36, 37] rfl (by decide +kernel)
set_option maxRecDepth 20000 in
theorem gX9_watch_X9_fails : GoodIn wsX9_watch (wsV RX9 45 RX9 yX9_fails wsX9_fails) := goodIn_app (goodIn_of _ (by decide +kernel)) ggX9_watch_X9_fails
set_option maxRecDepth 20000 in
theorem ggX9_watch_X9_isChimney : GoodIn wsX9_watch wsX9_isChimney := goodIn_r _ [16, 7, 8, 5, 9] rfl (by decide +kernel)
set_option maxRecDepth 20000 in
theorem gX9_watch_X9_isChimney : GoodIn wsX9_watch (va_wsS RX9 89 yX9_isChimney wsX9_isChimney) := goodIn_app (goodIn_of _ (by decide +kernel)) ggX9_watch_X9_isChimney
set_option maxRecDepth 20000 in
theorem ggX9_watch_X9_record : GoodIn wsX9_watch wsX9_record := goodIn_r _ [20, 21, 22, 2, 23, 24, 25, 26, 27, 28, 29, 30, 31, 32, 33, 34, 35, 36, 37] rfl (by decide +kernel)
set_option maxRecDepth 20000 in
theorem gX9_watch_X9_record : GoodIn wsX9_watch (wsV RX9 53 RX9 yX9_record wsX9_record) := goodIn_app (goodIn_of _ (by decide +kernel)) ggX9_watch_X9_record
set_option maxRecDepth 20000 in
theorem ggX9_setBias_X9_isObserver : GoodIn wsX9_setBias wsX9_isObserver := goodIn_r _ [6, 7, 8, 5, 9] rfl (by decide +kernel)
set_option maxRecDepth 20000 in
theorem gX9_setBias_X9_isObserver : GoodIn wsX9_setBias (va_wsS RX9 96 yX9_isObserver wsX9_isObserver) := goodIn_app (goodIn_of _ (by decide +kernel)) ggX9_setBias_X9_isObserver
set_option maxRecDepth 20000 in
theorem ggX9_setBias_X9_fails : GoodIn wsX9_setBias wsX9_fails := goodIn_r _ [13, 1, 20, 21, 22, 23, 24, 25, 26, 27, 28, 29, 30, 31, 32, 33, 34] rfl (by decide +kernel)
set_option maxRecDepth 20000 in
theorem gX9_setBias_X9_fails : GoodIn wsX9_setBias (wsV RX9 45 RX9 yX9_fails wsX9_fails) := goodIn_app (goodIn_of _ (by decide +kernel)) ggX9_setBias_X9_fails
set_option maxRecDepth 20000 in
theorem ggX9_setBias_X9_within : GoodIn wsX9_setBias wsX9_within := goodIn_r _ [9] rfl (by decide +kernel)
set_option maxRecDepth 20000 in
theorem gX9_setBias_X9_within : GoodIn wsX9_setBias (va_wsS RX9 38 yX9_within wsX9_within) := goodIn_app (goodIn_of _ (by decide +kernel)) ggX9_setBias_X9_within
set_option maxRecDepth 20000 in
theorem ggX9_setBias_X9_record : GoodIn wsX9_setBias wsX9_record := goodIn_r _ [17, 18, 19, 2, 20, 21, 22, 23, 24, 25, 26, 27, 28, 29, 30, 31, 32, 33, 34] rfl (by decide +kernel)
set_option maxRecDepth 20000 in
theorem gX9_setBias_X9_record : GoodIn wsX9_setBias (wsV RX9 53 RX9 yX9_record wsX9_record) := goodIn_app (goodIn_of _ (by decide +kernel)) ggX9_setBias_X9_record
set_option maxRecDepth 20000 in
theorem ggX9_setLimit_X9_within : GoodIn wsX9_setLimit wsX9_within := goodIn_r _ [6] rfl (by decide +kernel)
set_option maxRecDepth 20000 in
theorem gX9_setLimit_X9_within : GoodIn wsX9_setLimit (va_wsS RX9 38 yX9_within wsX9_within) := goodIn_app (goodIn_of _ (by decide +kernel)) ggX9_setLimit_X9_within
set_option maxRecDepth 20000 in
theorem ggX9_setLimit_X9_fails : GoodIn wsX9_setLimit wsX9_fails := goodIn_r _ [10, 1, 17, 18, 19, 20, 21, 22, 23, 24, 25, 26, 27, 28, 29, 30, 31] rfl (by decide +kernel)
set_option maxRecDepth 20000 in
theorem gX9_setLimit_X9_fails : GoodIn wsX9_setLimit (wsV RX9 45 RX9 yX9_fails wsX9_fails) := goodIn_app (goodIn_of _ (by decide +kernel)) ggX9_setLimit_X9_fails
set_option maxRecDepth 20000 in
theorem ggX9_setLimit_X9_record : GoodIn wsX9_setLimit wsX9_record := goodIn_r _ [14, 15, 16, 2, 17, 18, 19, 20, 21, 22, 23, 24, 25, 26, 27, 28, 29, 30, 31] rfl (by decide +kernel)
set_option maxRecDepth 20000 in
theorem gX9_setLimit_X9_record : GoodIn wsX9_setLimit (wsV RX9 53 RX9 yX9_record wsX9_record) := goodIn_app (goodIn_of _ (by decide +kernel)) ggX9_setLimit_X9_record
set_option maxRecDepth 20000 in
theorem ggX9_pass_X9_isPass : GoodIn wsX9_pass wsX9_isPass := goodIn_r _ [5, 6, 7, 4, 8] rfl (by decide +kernel)
set_option maxRecDepth 20000 in
theorem gX9_pass_X9_isPass : GoodIn wsX9_pass (va_wsS RX9 99 yX9_isPass wsX9_isPass) := goodIn_app (goodIn_of _ (by decide +kernel)) ggX9_pass_X9_isPass
set_option maxRecDepth 20000 in
theorem ggX9_pass_X9_fails : GoodIn wsX9_pass wsX9_fails := goodIn_r _ [12, 1, 68, 69, 70, 71, 72, 73, 74, 75, 76, 77, 78, 79, 80, 81, 82] rfl (by decide +kernel)
set_option maxRecDepth 20000 in
theorem gX9_pass_X9_fails : GoodIn wsX9_pass (wsV RX9 45 RX9 yX9_fails wsX9_fails) := goodIn_app (goodIn_of _ (by decide +kernel)) ggX9_pass_X9_fails
set_option maxRecDepth 20000 in
theorem ggX9_pass_X9_record : GoodIn wsX9_pass wsX9_record := goodIn_r _ [16, 17, 18, 19, 68, 69, 70, 71, 72, 73, 74, 75, 76, 77, 78, 79, 80, 81, 82] rfl (by decide +kernel)
set_option maxRecDepth 20000 in
theorem gX9_pass_X9_record : GoodIn wsX9_pass (wsV RX9 53 RX9 yX9_record wsX9_record) := goodIn_app (goodIn_of _ (by decide +kernel)) ggX9_pass_X9_record
set_option maxRecDepth 20000 in
theorem ggX9_pass_X9_passes : GoodIn wsX9_pass wsX9_passes := goodIn_r _ [23, 19, 24, 25, 26, 4, 27, 28, 29, 30, 31, 32, 33, 34, 35, 36, 37, 38, 39, 40, 41, 42, 43, 44, 45, 46, 47, 48, 49, 50, 51, 52, 53, 54, 55, 56, 57, 58, 59, 60, 61, 62, 63, 64, 65, 66, 67, 68, 69, 70, 71, 72, 73, 74, 75, 76, 77, 78, 79, 80, 81, 82] rfl (by decide +kernel)
set_option maxRecDepth 20000 in
theorem gX9_pass_X9_passes : GoodIn wsX9_pass (wsV RX9 102 RX9 yX9_passes wsX9_passes) := goodIn_app (goodIn_of _ (by decide +kernel)) ggX9_pass_X9_passes
set_option maxRecDepth 20000 in
theorem ggX9_appeal_X9_isNotice : GoodIn wsX9_appeal wsX9_isNotice := goodIn_r _ [7, 1, 8, 9, 6, 10, 21, 22, 23, 24, 25, 26, 27, 28, 29, 30, 31, 32, 33, 34, 35] rfl (by decide +kernel)
set_option maxRecDepth 20000 in
theorem gX9_appeal_X9_isNotice : GoodIn wsX9_appeal (wsV RX9 105 RX9 yX9_isNotice wsX9_isNotice) := goodIn_app (goodIn_of _ (by decide +kernel)) ggX9_appeal_X9_isNotice
set_option maxRecDepth 20000 in
theorem ggX9_appeal_X9_record : GoodIn wsX9_appeal wsX9_record := goodIn_r _ [14, 15, 16, 1, 21, 22, 23, 24, 25, 26, 27, 28, 29, 30, 31, 32, 33, 34, 35] rfl (by decide +kernel)
set_option maxRecDepth 20000 in
theorem gX9_appeal_X9_record : GoodIn wsX9_appeal (wsV RX9 53 RX9 yX9_record wsX9_record) := goodIn_app (goodIn_of _ (by decide +kernel)) ggX9_appeal_X9_record
set_option maxRecDepth 20000 in
theorem ggX9_appeal_X9_doAppeal : GoodIn wsX9_appeal wsX9_doAppeal := goodIn_r _ [20, 1, 21, 22, 23, 24, 25, 26, 27, 28, 29, 30, 31, 32, 33, 34, 35] rfl (by decide +kernel)
set_option maxRecDepth 20000 in
theorem gX9_appeal_X9_doAppeal : GoodIn wsX9_appeal (wsV RX9 108 RX9 yX9_doAppeal wsX9_doAppeal) := goodIn_app (goodIn_of _ (by decide +kernel)) ggX9_appeal_X9_doAppeal
set_option maxRecDepth 20000 in
theorem ggX9_shadeOf_X9_isChimney : GoodIn wsX9_shadeOf wsX9_isChimney := goodIn_r _ [5, 6, 7, 4, 8] rfl (by decide +kernel)
set_option maxRecDepth 20000 in
theorem gX9_shadeOf_X9_isChimney : GoodIn wsX9_shadeOf (va_wsS RX9 89 yX9_isChimney wsX9_isChimney) := goodIn_app (goodIn_of _ (by decide +kernel)) ggX9_shadeOf_X9_isChimney
set_option maxRecDepth 20000 in
theorem ggX9_shadeOf_X9_fails : GoodIn wsX9_shadeOf wsX9_fails := goodIn_r _ [12, 1, 21, 22, 23, 24, 25, 26, 27, 28, 29, 30, 31, 32, 33, 34, 35] rfl (by decide +kernel)
set_option maxRecDepth 20000 in
theorem gX9_shadeOf_X9_fails : GoodIn wsX9_shadeOf (wsV RX9 45 RX9 yX9_fails wsX9_fails) := goodIn_app (goodIn_of _ (by decide +kernel)) ggX9_shadeOf_X9_fails
set_option maxRecDepth 20000 in
theorem ggX9_shadeOf_X9_isTick : GoodIn wsX9_shadeOf wsX9_isTick := goodIn_r _ [15, 6, 7, 4, 8] rfl (by decide +kernel)
set_option maxRecDepth 20000 in
theorem gX9_shadeOf_X9_isTick : GoodIn wsX9_shadeOf (va_wsS RX9 111 yX9_isTick wsX9_isTick) := goodIn_app (goodIn_of _ (by decide +kernel)) ggX9_shadeOf_X9_isTick
set_option maxRecDepth 20000 in
theorem ggX9_shadeOf_X9_shade : GoodIn wsX9_shadeOf wsX9_shade := goodIn_r _ [19, 20, 21, 22, 23, 24, 25, 26, 27, 28, 29, 30, 31, 32, 33, 34, 35] rfl (by decide +kernel)
set_option maxRecDepth 20000 in
theorem gX9_shadeOf_X9_shade : GoodIn wsX9_shadeOf (wsV RX9 56 RX9 yX9_shade wsX9_shade) := goodIn_app (goodIn_of _ (by decide +kernel)) ggX9_shadeOf_X9_shade
set_option maxRecDepth 20000 in
theorem ggX9_nextStoking_X9_isChimney : GoodIn wsX9_nextStoking wsX9_isChimney := goodIn_r _ [6, 7, 8, 5, 9] rfl (by decide +kernel)
set_option maxRecDepth 20000 in
theorem gX9_nextStoking_X9_isChimney : GoodIn wsX9_nextStoking (va_wsS RX9 89 yX9_isChimney wsX9_isChimney) := goodIn_app (goodIn_of _ (by decide +kernel)) ggX9_nextStoking_X9_isChimney
set_option maxRecDepth 20000 in
theorem ggX9_nextStoking_X9_fails : GoodIn wsX9_nextStoking wsX9_fails := goodIn_r _ [13, 1, 17, 18, 19, 20, 21, 22, 23, 24, 25, 26, 27, 28, 29, 30, 31] rfl (by decide +kernel)
set_option maxRecDepth 20000 in
theorem gX9_nextStoking_X9_fails : GoodIn wsX9_nextStoking (wsV RX9 45 RX9 yX9_fails wsX9_fails) := goodIn_app (goodIn_of _ (by decide +kernel)) ggX9_nextStoking_X9_fails
set_option maxRecDepth 20000 in
theorem ggX9_nextStoking_X9_isTick : GoodIn wsX9_nextStoking wsX9_isTick := goodIn_r _ [16, 7, 8, 5, 9] rfl (by decide +kernel)
set_option maxRecDepth 20000 in
theorem gX9_nextStoking_X9_isTick : GoodIn wsX9_nextStoking (va_wsS RX9 111 yX9_isTick wsX9_isTick) := goodIn_app (goodIn_of _ (by decide +kernel)) ggX9_nextStoking_X9_isTick
set_option maxRecDepth 20000 in
theorem ggX9_smokes_X9_shade : GoodIn wsX9_smokes wsX9_shade := goodIn_r _ [5, 6, 7, 8, 9, 10, 11, 12, 13, 14, 15, 16, 17, 18, 19, 20, 21] rfl (by decide +kernel)
set_option maxRecDepth 20000 in
theorem gX9_smokes_X9_shade : GoodIn wsX9_smokes (wsV RX9 56 RX9 yX9_shade wsX9_shade) := goodIn_app (goodIn_of _ (by decide +kernel)) ggX9_smokes_X9_shade
set_option maxRecDepth 20000 in
theorem ggX9_smoke_X9_isChimney : GoodIn wsX9_smoke wsX9_isChimney := goodIn_r _ [5, 6, 7, 4, 8] rfl (by decide +kernel)
set_option maxRecDepth 20000 in
theorem gX9_smoke_X9_isChimney : GoodIn wsX9_smoke (va_wsS RX9 89 yX9_isChimney wsX9_isChimney) := goodIn_app (goodIn_of _ (by decide +kernel)) ggX9_smoke_X9_isChimney
set_option maxRecDepth 20000 in
theorem ggX9_smoke_X9_fails : GoodIn wsX9_smoke wsX9_fails := goodIn_r _ [12, 1, 25, 26, 27, 28, 29, 30, 31, 32, 33, 34, 35, 36, 37, 38, 39] rfl (by decide +kernel)
set_option maxRecDepth 20000 in
theorem gX9_smoke_X9_fails : GoodIn wsX9_smoke (wsV RX9 45 RX9 yX9_fails wsX9_fails) := goodIn_app (goodIn_of _ (by decide +kernel)) ggX9_smoke_X9_fails
set_option maxRecDepth 20000 in
theorem ggX9_smoke_X9_isTick : GoodIn wsX9_smoke wsX9_isTick := goodIn_r _ [15, 6, 7, 4, 8] rfl (by decide +kernel)
set_option maxRecDepth 20000 in
theorem gX9_smoke_X9_isTick : GoodIn wsX9_smoke (va_wsS RX9 111 yX9_isTick wsX9_isTick) := goodIn_app (goodIn_of _ (by decide +kernel)) ggX9_smoke_X9_isTick
set_option maxRecDepth 20000 in
theorem ggX9_smoke_X9_within : GoodIn wsX9_smoke wsX9_within := goodIn_r _ [8] rfl (by decide +kernel)
set_option maxRecDepth 20000 in
theorem gX9_smoke_X9_within : GoodIn wsX9_smoke (va_wsS RX9 38 yX9_within wsX9_within) := goodIn_app (goodIn_of _ (by decide +kernel)) ggX9_smoke_X9_within
set_option maxRecDepth 20000 in
theorem ggX9_smoke_X9_smokes : GoodIn wsX9_smoke wsX9_smokes := goodIn_r _ [19, 20, 21, 22, 4, 23, 24, 25, 26, 27, 28, 29, 30, 31, 32, 33, 34, 35, 36, 37, 38, 39] rfl (by decide +kernel)
set_option maxRecDepth 20000 in
theorem gX9_smoke_X9_smokes : GoodIn wsX9_smoke (wsV RX9 114 RX9 yX9_smokes wsX9_smokes) := goodIn_app (goodIn_of _ (by decide +kernel)) ggX9_smoke_X9_smokes
set_option maxRecDepth 20000 in
theorem ggX9_greyOf_X9_isHour : GoodIn wsX9_greyOf wsX9_isHour := goodIn_r _ [6, 7, 8, 5, 9] rfl (by decide +kernel)
set_option maxRecDepth 20000 in
theorem gX9_greyOf_X9_isHour : GoodIn wsX9_greyOf (va_wsS RX9 93 yX9_isHour wsX9_isHour) := goodIn_app (goodIn_of _ (by decide +kernel)) ggX9_greyOf_X9_isHour
set_option maxRecDepth 20000 in
theorem ggX9_greyOf_X9_fails : GoodIn wsX9_greyOf wsX9_fails := goodIn_r _ [13, 1, 14, 15, 16, 17, 18, 19, 20, 21, 22, 23, 24, 25, 26, 27, 28] rfl (by decide +kernel)
set_option maxRecDepth 20000 in
theorem gX9_greyOf_X9_fails : GoodIn wsX9_greyOf (wsV RX9 45 RX9 yX9_fails wsX9_fails) := goodIn_app (goodIn_of _ (by decide +kernel)) ggX9_greyOf_X9_fails
set_option maxRecDepth 20000 in
theorem ggX9_tellObserver_X9_isObserver : GoodIn wsX9_tellObserver wsX9_isObserver := goodIn_r _ [6, 7, 8, 5, 9] rfl (by decide +kernel)
set_option maxRecDepth 20000 in
theorem gX9_tellObserver_X9_isObserver : GoodIn wsX9_tellObserver (va_wsS RX9 96 yX9_isObserver wsX9_isObserver) := goodIn_app (goodIn_of _ (by decide +kernel)) ggX9_tellObserver_X9_isObserver
set_option maxRecDepth 20000 in
theorem ggX9_tellObserver_X9_fails : GoodIn wsX9_tellObserver wsX9_fails := goodIn_r _ [13, 1, 14, 15, 16, 17, 18, 19, 20, 21, 22, 23, 24, 25, 26, 27, 28] rfl (by decide +kernel)
set_option maxRecDepth 20000 in
theorem gX9_tellObserver_X9_fails : GoodIn wsX9_tellObserver (wsV RX9 45 RX9 yX9_fails wsX9_fails) := goodIn_app (goodIn_of _ (by decide +kernel)) ggX9_tellObserver_X9_fails
set_option maxRecDepth 20000 in
theorem ggX9_watchedBy_X9_tellObserver : GoodIn wsX9_watchedBy wsX9_tellObserver := goodIn_r _ [5, 6, 7, 8, 9, 4, 10, 11, 12, 13, 14, 15, 16, 17, 18, 19, 20, 21, 22, 23, 24, 25, 26, 27, 28, 29, 30, 31, 32] rfl (by decide +kernel)
set_option maxRecDepth 20000 in
theorem gX9_watchedBy_X9_tellObserver : GoodIn wsX9_watchedBy (wsV RX9 117 RX9 yX9_tellObserver wsX9_tellObserver) := goodIn_app (goodIn_of _ (by decide +kernel)) ggX9_watchedBy_X9_tellObserver
set_option maxRecDepth 20000 in
theorem ggX9_tirednessOf_X9_tellObserver : GoodIn wsX9_tirednessOf wsX9_tellObserver := goodIn_r _ [5, 6, 7, 8, 9, 4, 10, 11, 12, 13, 14, 15, 16, 17, 18, 19, 20, 21, 22, 23, 24, 25, 26, 27, 28, 29, 30, 31, 32] rfl (by decide +kernel)
set_option maxRecDepth 20000 in
theorem gX9_tirednessOf_X9_tellObserver : GoodIn wsX9_tirednessOf (wsV RX9 117 RX9 yX9_tellObserver wsX9_tellObserver) := goodIn_app (goodIn_of _ (by decide +kernel)) ggX9_tirednessOf_X9_tellObserver
set_option maxRecDepth 20000 in
theorem ggX9_errorsOf_X9_tellObserver : GoodIn wsX9_errorsOf wsX9_tellObserver := goodIn_r _ [5, 6, 7, 8, 9, 4, 10, 11, 12, 13, 14, 15, 16, 17, 18, 19, 20, 21, 22, 23, 24, 25, 26, 27, 28, 29, 30, 31, 32] rfl (by decide +kernel)
set_option maxRecDepth 20000 in
theorem gX9_errorsOf_X9_tellObserver : GoodIn wsX9_errorsOf (wsV RX9 117 RX9 yX9_tellObserver wsX9_tellObserver) := goodIn_app (goodIn_of _ (by decide +kernel)) ggX9_errorsOf_X9_tellObserver
set_option maxRecDepth 20000 in
theorem ggX9_wouldRead_X9_isObserver : GoodIn wsX9_wouldRead wsX9_isObserver := goodIn_r _ [5, 6, 7, 4, 8] rfl (by decide +kernel)
set_option maxRecDepth 20000 in
theorem gX9_wouldRead_X9_isObserver : GoodIn wsX9_wouldRead (va_wsS RX9 96 yX9_isObserver wsX9_isObserver) := goodIn_app (goodIn_of _ (by decide +kernel)) ggX9_wouldRead_X9_isObserver
set_option maxRecDepth 20000 in
theorem ggX9_wouldRead_X9_isChimney : GoodIn wsX9_wouldRead wsX9_isChimney := goodIn_r _ [11, 6, 7, 4, 8] rfl (by decide +kernel)
set_option maxRecDepth 20000 in
theorem gX9_wouldRead_X9_isChimney : GoodIn wsX9_wouldRead (va_wsS RX9 89 yX9_isChimney wsX9_isChimney) := goodIn_app (goodIn_of _ (by decide +kernel)) ggX9_wouldRead_X9_isChimney
set_option maxRecDepth 20000 in
theorem ggX9_wouldRead_X9_reads : GoodIn wsX9_wouldRead wsX9_reads := goodIn_r _ [15, 16, 17, 18, 19, 4, 20, 21, 22, 23, 24, 29, 30, 31, 32, 33, 34, 35, 36, 37, 38, 39, 40, 41, 42, 43] rfl (by decide +kernel)
set_option maxRecDepth 20000 in
theorem gX9_wouldRead_X9_reads : GoodIn wsX9_wouldRead (wsV RX9 66 RX9 yX9_reads wsX9_reads) := goodIn_app (goodIn_of _ (by decide +kernel)) ggX9_wouldRead_X9_reads
set_option maxRecDepth 20000 in
theorem ggX9_wouldRead_X9_fails : GoodIn wsX9_wouldRead wsX9_fails := goodIn_r _ [28, 1, 29, 30, 31, 32, 33, 34, 35, 36, 37, 38, 39, 40, 41, 42, 43] rfl (by decide +kernel)
set_option maxRecDepth 20000 in
theorem gX9_wouldRead_X9_fails : GoodIn wsX9_wouldRead (wsV RX9 45 RX9 yX9_fails wsX9_fails) := goodIn_app (goodIn_of _ (by decide +kernel)) ggX9_wouldRead_X9_fails
set_option maxRecDepth 20000 in
theorem ggX9_readingOf_X9_isChimney : GoodIn wsX9_readingOf wsX9_isChimney := goodIn_r _ [5, 6, 7, 4, 8] rfl (by decide +kernel)
set_option maxRecDepth 20000 in
theorem gX9_readingOf_X9_isChimney : GoodIn wsX9_readingOf (va_wsS RX9 89 yX9_isChimney wsX9_isChimney) := goodIn_app (goodIn_of _ (by decide +kernel)) ggX9_readingOf_X9_isChimney
set_option maxRecDepth 20000 in
theorem ggX9_readingOf_X9_fails : GoodIn wsX9_readingOf wsX9_fails := goodIn_r _ [12, 1, 21, 22, 23, 24, 25, 26, 27, 28, 29, 30, 31, 32, 33, 34, 35] rfl (by decide +kernel)
set_option maxRecDepth 20000 in
theorem gX9_readingOf_X9_fails : GoodIn wsX9_readingOf (wsV RX9 45 RX9 yX9_fails wsX9_fails) := goodIn_app (goodIn_of _ (by decide +kernel)) ggX9_readingOf_X9_fails
set_option maxRecDepth 20000 in
theorem ggX9_readingOf_X9_isTick : GoodIn wsX9_readingOf wsX9_isTick := goodIn_r _ [15, 6, 7, 4, 8] rfl (by decide +kernel)
set_option maxRecDepth 20000 in
theorem gX9_readingOf_X9_isTick : GoodIn wsX9_readingOf (va_wsS RX9 111 yX9_isTick wsX9_isTick) := goodIn_app (goodIn_of _ (by decide +kernel)) ggX9_readingOf_X9_isTick
set_option maxRecDepth 20000 in
theorem ggX9_readingOf_X9_readingIn : GoodIn wsX9_readingOf wsX9_readingIn := goodIn_r _ [19, 20, 21, 22, 23, 24, 25, 26, 27, 28, 29, 30, 31, 32, 33, 34, 35] rfl (by decide +kernel)
set_option maxRecDepth 20000 in
theorem gX9_readingOf_X9_readingIn : GoodIn wsX9_readingOf (wsV RX9 63 RX9 yX9_readingIn wsX9_readingIn) := goodIn_app (goodIn_of _ (by decide +kernel)) ggX9_readingOf_X9_readingIn
set_option maxRecDepth 20000 in
theorem ggX9_readingsFrom_X9_isChimney : GoodIn wsX9_readingsFrom wsX9_isChimney := goodIn_r _ [5, 6, 7, 4, 8] rfl (by decide +kernel)
set_option maxRecDepth 20000 in
theorem gX9_readingsFrom_X9_isChimney : GoodIn wsX9_readingsFrom (va_wsS RX9 89 yX9_isChimney wsX9_isChimney) := goodIn_app (goodIn_of _ (by decide +kernel)) ggX9_readingsFrom_X9_isChimney
set_option maxRecDepth 20000 in
theorem ggX9_readingsFrom_X9_fails : GoodIn wsX9_readingsFrom wsX9_fails := goodIn_r _ [12, 1, 18, 19, 20, 21, 22, 23, 24, 25, 26, 27, 28, 29, 30, 31, 32] rfl (by decide +kernel)
set_option maxRecDepth 20000 in
theorem gX9_readingsFrom_X9_fails : GoodIn wsX9_readingsFrom (wsV RX9 45 RX9 yX9_fails wsX9_fails) := goodIn_app (goodIn_of _ (by decide +kernel)) ggX9_readingsFrom_X9_fails
set_option maxRecDepth 20000 in
theorem ggX9_readingsFrom_X9_within : GoodIn wsX9_readingsFrom wsX9_within := goodIn_r _ [8] rfl (by decide +kernel)
set_option maxRecDepth 20000 in
theorem gX9_readingsFrom_X9_within : GoodIn wsX9_readingsFrom (va_wsS RX9 38 yX9_within wsX9_within) := goodIn_app (goodIn_of _ (by decide +kernel)) ggX9_readingsFrom_X9_within
set_option maxRecDepth 20000 in
theorem ggX9_readingsFrom_X9_readingIn : GoodIn wsX9_readingsFrom wsX9_readingIn := goodIn_r _ [16, 17, 18, 19, 20, 21, 22, 23, 24, 25, 26, 27, 28, 29, 30, 31, 32] rfl (by decide +kernel)
set_option maxRecDepth 20000 in
theorem gX9_readingsFrom_X9_readingIn : GoodIn wsX9_readingsFrom (wsV RX9 63 RX9 yX9_readingIn wsX9_readingIn) := goodIn_app (goodIn_of _ (by decide +kernel)) ggX9_readingsFrom_X9_readingIn
set_option maxRecDepth 20000 in
theorem ggX9_longestRow_X9_isChimney : GoodIn wsX9_longestRow wsX9_isChimney := goodIn_r _ [5, 6, 7, 4, 8] rfl (by decide +kernel)
set_option maxRecDepth 20000 in
theorem gX9_longestRow_X9_isChimney : GoodIn wsX9_longestRow (va_wsS RX9 89 yX9_isChimney wsX9_isChimney) := goodIn_app (goodIn_of _ (by decide +kernel)) ggX9_longestRow_X9_isChimney
set_option maxRecDepth 20000 in
theorem ggX9_longestRow_X9_fails : GoodIn wsX9_longestRow wsX9_fails := goodIn_r _ [12, 1, 22, 23, 24, 25, 26, 27, 28, 29, 30, 31, 32, 33, 34, 35, 36] rfl (by decide +kernel)
set_option maxRecDepth 20000 in
theorem gX9_longestRow_X9_fails : GoodIn wsX9_longestRow (wsV RX9 45 RX9 yX9_fails wsX9_fails) := goodIn_app (goodIn_of _ (by decide +kernel)) ggX9_longestRow_X9_fails
set_option maxRecDepth 20000 in
theorem ggX9_longestRow_X9_within : GoodIn wsX9_longestRow wsX9_within := goodIn_r _ [8] rfl (by decide +kernel)
set_option maxRecDepth 20000 in
theorem gX9_longestRow_X9_within : GoodIn wsX9_longestRow (va_wsS RX9 38 yX9_within wsX9_within) := goodIn_app (goodIn_of _ (by decide +kernel)) ggX9_longestRow_X9_within
set_option maxRecDepth 20000 in
theorem ggX9_longestRow_X9_rowUpTo : GoodIn wsX9_longestRow wsX9_rowUpTo := goodIn_r _ [16, 17, 18, 19, 4, 20, 21, 22, 23, 24, 25, 26, 27, 28, 29, 30, 31, 32, 33, 34, 35, 36] rfl (by decide +kernel)
set_option maxRecDepth 20000 in
theorem gX9_longestRow_X9_rowUpTo : GoodIn wsX9_longestRow (wsV RX9 79 RX9 yX9_rowUpTo wsX9_rowUpTo) := goodIn_app (goodIn_of _ (by decide +kernel)) ggX9_longestRow_X9_rowUpTo
set_option maxRecDepth 20000 in
theorem ggX9_tellNotice_X9_isNotice : GoodIn wsX9_tellNotice wsX9_isNotice := goodIn_r _ [7, 2, 8, 9, 6, 10, 15, 16, 17, 18, 19, 20, 21, 22, 23, 24, 25, 26, 27, 28, 29] rfl (by decide +kernel)
set_option maxRecDepth 20000 in
theorem gX9_tellNotice_X9_isNotice : GoodIn wsX9_tellNotice (wsV RX9 105 RX9 yX9_isNotice wsX9_isNotice) := goodIn_app (goodIn_of _ (by decide +kernel)) ggX9_tellNotice_X9_isNotice
set_option maxRecDepth 20000 in
theorem ggX9_tellNotice_X9_fails : GoodIn wsX9_tellNotice wsX9_fails := goodIn_r _ [14, 1, 15, 16, 17, 18, 19, 20, 21, 22, 23, 24, 25, 26, 27, 28, 29] rfl (by decide +kernel)
set_option maxRecDepth 20000 in
theorem gX9_tellNotice_X9_fails : GoodIn wsX9_tellNotice (wsV RX9 45 RX9 yX9_fails wsX9_fails) := goodIn_app (goodIn_of _ (by decide +kernel)) ggX9_tellNotice_X9_fails
set_option maxRecDepth 20000 in
theorem ggX9_chimneyOf_X9_tellNotice : GoodIn wsX9_chimneyOf wsX9_tellNotice := goodIn_r _ [5, 6, 7, 8, 9, 10, 4, 11, 12, 13, 14, 15, 16, 17, 18, 19, 20, 21, 22, 23, 24, 25, 26, 27, 28, 29, 30, 31, 32, 33] rfl (by decide +kernel)
set_option maxRecDepth 20000 in
theorem gX9_chimneyOf_X9_tellNotice : GoodIn wsX9_chimneyOf (wsV RX9 120 RX9 yX9_tellNotice wsX9_tellNotice) := goodIn_app (goodIn_of _ (by decide +kernel)) ggX9_chimneyOf_X9_tellNotice
set_option maxRecDepth 20000 in
theorem ggX9_fineOf_X9_tellNotice : GoodIn wsX9_fineOf wsX9_tellNotice := goodIn_r _ [5, 6, 7, 8, 9, 10, 4, 11, 12, 13, 14, 15, 16, 17, 18, 19, 20, 21, 22, 23, 24, 25, 26, 27, 28, 29, 30, 31, 32, 33] rfl (by decide +kernel)
set_option maxRecDepth 20000 in
theorem gX9_fineOf_X9_tellNotice : GoodIn wsX9_fineOf (wsV RX9 120 RX9 yX9_tellNotice wsX9_tellNotice) := goodIn_app (goodIn_of _ (by decide +kernel)) ggX9_fineOf_X9_tellNotice
set_option maxRecDepth 20000 in
theorem ggX9_stands_X9_isNotice : GoodIn wsX9_stands wsX9_isNotice := goodIn_r _ [7, 2, 8, 9, 6, 10, 11, 12, 13, 14, 15, 16, 17, 18, 19, 20, 21, 22, 23, 24, 25] rfl (by decide +kernel)
set_option maxRecDepth 20000 in
theorem gX9_stands_X9_isNotice : GoodIn wsX9_stands (wsV RX9 105 RX9 yX9_isNotice wsX9_isNotice) := goodIn_app (goodIn_of _ (by decide +kernel)) ggX9_stands_X9_isNotice
set_option maxRecDepth 20000 in
theorem ggX9_wouldAppeal_X9_isNotice : GoodIn wsX9_wouldAppeal wsX9_isNotice := goodIn_r _ [7, 2, 8, 9, 6, 10, 15, 16, 17, 18, 19, 20, 21, 22, 23, 24, 25, 26, 27, 28, 29] rfl (by decide +kernel)
set_option maxRecDepth 20000 in
theorem gX9_wouldAppeal_X9_isNotice : GoodIn wsX9_wouldAppeal (wsV RX9 105 RX9 yX9_isNotice wsX9_isNotice) := goodIn_app (goodIn_of _ (by decide +kernel)) ggX9_wouldAppeal_X9_isNotice
set_option maxRecDepth 20000 in
theorem ggX9_wouldAppeal_X9_fails : GoodIn wsX9_wouldAppeal wsX9_fails := goodIn_r _ [14, 1, 15, 16, 17, 18, 19, 20, 21, 22, 23, 24, 25, 26, 27, 28, 29] rfl (by decide +kernel)
set_option maxRecDepth 20000 in
theorem gX9_wouldAppeal_X9_fails : GoodIn wsX9_wouldAppeal (wsV RX9 45 RX9 yX9_fails wsX9_fails) := goodIn_app (goodIn_of _ (by decide +kernel)) ggX9_wouldAppeal_X9_fails
set_option maxRecDepth 20000 in
theorem ggX9_finesOf_X9_isChimney : GoodIn wsX9_finesOf wsX9_isChimney := goodIn_r _ [6, 7, 8, 5, 9] rfl (by decide +kernel)
set_option maxRecDepth 20000 in
theorem gX9_finesOf_X9_isChimney : GoodIn wsX9_finesOf (va_wsS RX9 89 yX9_isChimney wsX9_isChimney) := goodIn_app (goodIn_of _ (by decide +kernel)) ggX9_finesOf_X9_isChimney
set_option maxRecDepth 20000 in
theorem ggX9_finesOf_X9_fails : GoodIn wsX9_finesOf wsX9_fails := goodIn_r _ [13, 1, 18, 19, 20, 21, 22, 23, 24, 25, 26, 27, 28, 29, 30, 31, 32] rfl (by decide +kernel)
set_option maxRecDepth 20000 in
theorem gX9_finesOf_X9_fails : GoodIn wsX9_finesOf (wsV RX9 45 RX9 yX9_fails wsX9_fails) := goodIn_app (goodIn_of _ (by decide +kernel)) ggX9_finesOf_X9_fails
set_option maxRecDepth 20000 in
theorem ggX9_finesOf_X9_fines : GoodIn wsX9_finesOf wsX9_fines := goodIn_r _ [17, 2, 18, 19, 20, 21, 22, 23, 24, 25, 26, 27, 28, 29, 30, 31, 32] rfl (by decide +kernel)
set_option maxRecDepth 20000 in
theorem gX9_finesOf_X9_fines : GoodIn wsX9_finesOf (wsV RX9 123 RX9 yX9_fines wsX9_fines) := goodIn_app (goodIn_of _ (by decide +kernel)) ggX9_finesOf_X9_fines
set_option maxRecDepth 20000 in
theorem ggX9_worstChimney_X9_fines : GoodIn wsX9_worstChimney wsX9_fines := goodIn_r _ [6, 7, 8, 9, 10, 11, 12, 13, 14, 15, 16, 17, 18, 19, 20, 21, 22] rfl (by decide +kernel)
set_option maxRecDepth 20000 in
theorem gX9_worstChimney_X9_fines : GoodIn wsX9_worstChimney (wsV RX9 123 RX9 yX9_fines wsX9_fines) := goodIn_app (goodIn_of _ (by decide +kernel)) ggX9_worstChimney_X9_fines
set_option maxRecDepth 20000 in
theorem ggX9_toWatch_X9_within : GoodIn wsX9_toWatch wsX9_within := goodIn_r _ [7] rfl (by decide +kernel)
set_option maxRecDepth 20000 in
theorem gX9_toWatch_X9_within : GoodIn wsX9_toWatch (va_wsS RX9 38 yX9_within wsX9_within) := goodIn_app (goodIn_of _ (by decide +kernel)) ggX9_toWatch_X9_within
set_option maxRecDepth 20000 in
theorem ggX9_toWatch_X9_fails : GoodIn wsX9_toWatch wsX9_fails := goodIn_r _ [11, 1, 24, 25, 26, 27, 28, 29, 30, 31, 32, 33, 34, 35, 36, 37, 38] rfl (by decide +kernel)
set_option maxRecDepth 20000 in
theorem gX9_toWatch_X9_fails : GoodIn wsX9_toWatch (wsV RX9 45 RX9 yX9_fails wsX9_fails) := goodIn_app (goodIn_of _ (by decide +kernel)) ggX9_toWatch_X9_fails
set_option maxRecDepth 20000 in
theorem ggX9_toWatch_X9_smokes : GoodIn wsX9_toWatch wsX9_smokes := goodIn_r _ [15, 16, 17, 18, 6, 19, 2, 24, 25, 26, 27, 28, 29, 30, 31, 32, 33, 34, 35, 36, 37, 38] rfl (by decide +kernel)
set_option maxRecDepth 20000 in
theorem gX9_toWatch_X9_smokes : GoodIn wsX9_toWatch (wsV RX9 114 RX9 yX9_smokes wsX9_smokes) := goodIn_app (goodIn_of _ (by decide +kernel)) ggX9_toWatch_X9_smokes
set_option maxRecDepth 20000 in
theorem ggX9_toWatch_X9_pickOne : GoodIn wsX9_toWatch wsX9_pickOne := goodIn_r _ [23, 3, 24, 25, 26, 27, 28, 29, 30, 31, 32, 33, 34, 35, 36, 37, 38] rfl (by decide +kernel)
set_option maxRecDepth 20000 in
theorem gX9_toWatch_X9_pickOne : GoodIn wsX9_toWatch (wsV RX9 126 RX9 yX9_pickOne wsX9_pickOne) := goodIn_app (goodIn_of _ (by decide +kernel)) ggX9_toWatch_X9_pickOne
set_option maxRecDepth 20000 in
theorem ggX9_noticesBehind_X9_putAside : GoodIn wsX9_noticesBehind wsX9_putAside := goodIn_r _ [6, 7, 1, 60, 61, 62, 63, 64, 65, 66, 67, 68, 69, 70, 71, 72, 73, 74] rfl (by decide +kernel)
set_option maxRecDepth 20000 in
theorem gX9_noticesBehind_X9_putAside : GoodIn wsX9_noticesBehind (wsV RX9 129 RX9 yX9_putAside wsX9_putAside) := goodIn_app (goodIn_of _ (by decide +kernel)) ggX9_noticesBehind_X9_putAside
set_option maxRecDepth 20000 in
theorem ggX9_noticesBehind_X9_passes : GoodIn wsX9_noticesBehind wsX9_passes := goodIn_r _ [11, 1, 12, 13, 14, 5, 15, 16, 17, 18, 19, 20, 21, 22, 23, 24, 25, 26, 27, 28, 29, 30, 31, 32, 33, 34, 35, 36, 37, 38, 39, 40, 41, 42, 43, 44, 45, 46, 47, 48, 49, 50, 51, 52, 53, 54, 55, 60, 61, 62, 63, 64, 65, 66, 67, 68, 69, 70, 71, 72, 73, 74] rfl (by decide +kernel)
set_option maxRecDepth 20000 in
theorem gX9_noticesBehind_X9_passes : GoodIn wsX9_noticesBehind (wsV RX9 102 RX9 yX9_passes wsX9_passes) := goodIn_app (goodIn_of _ (by decide +kernel)) ggX9_noticesBehind_X9_passes
set_option maxRecDepth 20000 in
theorem ggX9_noticesBehind_X9_putBack : GoodIn wsX9_noticesBehind wsX9_putBack := goodIn_r _ [59, 1, 7, 60, 61, 62, 63, 64, 65, 66, 67, 68, 69, 70, 71, 72, 73, 74] rfl (by decide +kernel)
set_option maxRecDepth 20000 in
theorem gX9_noticesBehind_X9_putBack : GoodIn wsX9_noticesBehind (wsV RX9 132 RX9 yX9_putBack wsX9_putBack) := goodIn_app (goodIn_of _ (by decide +kernel)) ggX9_noticesBehind_X9_putBack
set_option maxRecDepth 20000 in
theorem ggX9_noticesIn_X9_isPass : GoodIn wsX9_noticesIn wsX9_isPass := goodIn_r _ [6, 7, 8, 5, 9] rfl (by decide +kernel)
set_option maxRecDepth 20000 in
theorem gX9_noticesIn_X9_isPass : GoodIn wsX9_noticesIn (va_wsS RX9 99 yX9_isPass wsX9_isPass) := goodIn_app (goodIn_of _ (by decide +kernel)) ggX9_noticesIn_X9_isPass
set_option maxRecDepth 20000 in
theorem ggX9_noticesIn_X9_noticesBehind : GoodIn wsX9_noticesIn wsX9_noticesBehind := goodIn_r _ [13, 2, 14, 15, 16, 5, 17, 18, 19, 20, 21, 22, 23, 24, 25, 26, 27, 28, 29, 30, 31, 32, 33, 34, 35, 36, 37, 38, 39, 40, 41, 42, 43, 44, 45, 46, 47, 48, 49, 50, 51, 52, 53, 54, 55, 56, 57, 58, 59, 60, 61, 62, 63, 64, 65, 66, 67, 68, 69, 70, 75, 76, 77, 78, 79, 80, 81, 82, 83, 84, 85, 86, 87, 88, 89] rfl (by decide +kernel)
set_option maxRecDepth 20000 in
theorem gX9_noticesIn_X9_noticesBehind : GoodIn wsX9_noticesIn (wsV RX9 135 RX9 yX9_noticesBehind wsX9_noticesBehind) := goodIn_app (goodIn_of _ (by decide +kernel)) ggX9_noticesIn_X9_noticesBehind
set_option maxRecDepth 20000 in
theorem ggX9_noticesIn_X9_fails : GoodIn wsX9_noticesIn wsX9_fails := goodIn_r _ [74, 1, 75, 76, 77, 78, 79, 80, 81, 82, 83, 84, 85, 86, 87, 88, 89] rfl (by decide +kernel)
set_option maxRecDepth 20000 in
theorem gX9_noticesIn_X9_fails : GoodIn wsX9_noticesIn (wsV RX9 45 RX9 yX9_fails wsX9_fails) := goodIn_app (goodIn_of _ (by decide +kernel)) ggX9_noticesIn_X9_fails
set_option maxRecDepth 20000 in
theorem ggX9_ticksToNotice_X9_isChimney : GoodIn wsX9_ticksToNotice wsX9_isChimney := goodIn_r _ [6, 7, 8, 5, 9] rfl (by decide +kernel)
set_option maxRecDepth 20000 in
theorem gX9_ticksToNotice_X9_isChimney : GoodIn wsX9_ticksToNotice (va_wsS RX9 89 yX9_isChimney wsX9_isChimney) := goodIn_app (goodIn_of _ (by decide +kernel)) ggX9_ticksToNotice_X9_isChimney
set_option maxRecDepth 20000 in
theorem ggX9_ticksToNotice_X9_fails : GoodIn wsX9_ticksToNotice wsX9_fails := goodIn_r _ [13, 1, 71, 72, 73, 74, 75, 76, 77, 78, 79, 80, 81, 82, 83, 84, 85] rfl (by decide +kernel)
set_option maxRecDepth 20000 in
theorem gX9_ticksToNotice_X9_fails : GoodIn wsX9_ticksToNotice (wsV RX9 45 RX9 yX9_fails wsX9_fails) := goodIn_app (goodIn_of _ (by decide +kernel)) ggX9_ticksToNotice_X9_fails
set_option maxRecDepth 20000 in
theorem ggX9_ticksToNotice_X9_putAside : GoodIn wsX9_ticksToNotice wsX9_putAside := goodIn_r _ [17, 18, 2, 71, 72, 73, 74, 75, 76, 77, 78, 79, 80, 81, 82, 83, 84, 85] rfl (by decide +kernel)
set_option maxRecDepth 20000 in
theorem gX9_ticksToNotice_X9_putAside : GoodIn wsX9_ticksToNotice (wsV RX9 129 RX9 yX9_putAside wsX9_putAside) := goodIn_app (goodIn_of _ (by decide +kernel)) ggX9_ticksToNotice_X9_putAside
set_option maxRecDepth 20000 in
theorem ggX9_ticksToNotice_X9_hasNotice : GoodIn wsX9_ticksToNotice wsX9_hasNotice := goodIn_r _ [22, 2, 71, 72, 73, 74, 75, 76, 77, 78, 79, 80, 81, 82, 83, 84, 85] rfl (by decide +kernel)
set_option maxRecDepth 20000 in
theorem gX9_ticksToNotice_X9_hasNotice : GoodIn wsX9_ticksToNotice (wsV RX9 138 RX9 yX9_hasNotice wsX9_hasNotice) := goodIn_app (goodIn_of _ (by decide +kernel)) ggX9_ticksToNotice_X9_hasNotice
set_option maxRecDepth 20000 in
theorem ggX9_ticksToNotice_X9_tick : GoodIn wsX9_ticksToNotice wsX9_tick := goodIn_r _ [26, 2, 27, 28, 29, 5, 30, 31, 32, 33, 34, 35, 36, 37, 38, 39, 40, 41, 42, 43, 44, 45, 46, 47, 48, 49, 50, 51, 52, 53, 54, 55, 56, 57, 58, 59, 60, 61, 62, 63, 64, 65, 66, 71, 72, 73, 74, 75, 76, 77, 78, 79, 80, 81, 82, 83, 84, 85] rfl (by decide +kernel)
set_option maxRecDepth 20000 in
theorem gX9_ticksToNotice_X9_tick : GoodIn wsX9_ticksToNotice (wsV RX9 86 RX9 yX9_tick wsX9_tick) := goodIn_app (goodIn_of _ (by decide +kernel)) ggX9_ticksToNotice_X9_tick
set_option maxRecDepth 20000 in
theorem ggX9_ticksToNotice_X9_putBack : GoodIn wsX9_ticksToNotice wsX9_putBack := goodIn_r _ [70, 2, 18, 71, 72, 73, 74, 75, 76, 77, 78, 79, 80, 81, 82, 83, 84, 85] rfl (by decide +kernel)
set_option maxRecDepth 20000 in
theorem gX9_ticksToNotice_X9_putBack : GoodIn wsX9_ticksToNotice (wsV RX9 132 RX9 yX9_putBack wsX9_putBack) := goodIn_app (goodIn_of _ (by decide +kernel)) ggX9_ticksToNotice_X9_putBack
set_option maxRecDepth 20000 in
theorem ggX9_mildLimit_X9_isPass : GoodIn wsX9_mildLimit wsX9_isPass := goodIn_r _ [5, 6, 7, 4, 8] rfl (by decide +kernel)
set_option maxRecDepth 20000 in
theorem gX9_mildLimit_X9_isPass : GoodIn wsX9_mildLimit (va_wsS RX9 99 yX9_isPass wsX9_isPass) := goodIn_app (goodIn_of _ (by decide +kernel)) ggX9_mildLimit_X9_isPass
set_option maxRecDepth 20000 in
theorem ggX9_mildLimit_X9_fails : GoodIn wsX9_mildLimit wsX9_fails := goodIn_r _ [12, 1, 75, 76, 77, 78, 79, 80, 81, 82, 83, 84, 85, 86, 87, 88, 89] rfl (by decide +kernel)
set_option maxRecDepth 20000 in
theorem gX9_mildLimit_X9_fails : GoodIn wsX9_mildLimit (wsV RX9 45 RX9 yX9_fails wsX9_fails) := goodIn_app (goodIn_of _ (by decide +kernel)) ggX9_mildLimit_X9_fails
set_option maxRecDepth 20000 in
theorem ggX9_mildLimit_X9_noticesBehind : GoodIn wsX9_mildLimit wsX9_noticesBehind := goodIn_r _ [16, 17, 18, 19, 20, 4, 21, 22, 23, 24, 25, 26, 27, 28, 29, 30, 31, 32, 33, 34, 35, 36, 37, 38, 39, 40, 41, 42, 43, 44, 45, 46, 47, 48, 49, 50, 51, 52, 53, 54, 55, 56, 57, 58, 59, 60, 61, 62, 63, 64, 65, 66, 67, 68, 69, 70, 71, 72, 73, 74, 75, 76, 77, 78, 79, 80, 81, 82, 83, 84, 85, 86, 87, 88, 89] rfl (by decide +kernel)
set_option maxRecDepth 20000 in
theorem gX9_mildLimit_X9_noticesBehind : GoodIn wsX9_mildLimit (wsV RX9 135 RX9 yX9_noticesBehind wsX9_noticesBehind) := goodIn_app (goodIn_of _ (by decide +kernel)) ggX9_mildLimit_X9_noticesBehind
set_option maxRecDepth 20000 in
theorem ggX9_howMany_X9_within : GoodIn wsX9_howMany wsX9_within := goodIn_r _ [4] rfl (by decide +kernel)
set_option maxRecDepth 20000 in
theorem gX9_howMany_X9_within : GoodIn wsX9_howMany (va_wsS RX9 38 yX9_within wsX9_within) := goodIn_app (goodIn_of _ (by decide +kernel)) ggX9_howMany_X9_within
set_option maxRecDepth 20000 in
theorem ggX9_put_X9_howMany : GoodIn wsX9_put wsX9_howMany := goodIn_r _ [7, 8, 9, 6, 10] rfl (by decide +kernel)
set_option maxRecDepth 20000 in
theorem gX9_put_X9_howMany : GoodIn wsX9_put (va_wsS RX9 142 yX9_howMany wsX9_howMany) := goodIn_app (goodIn_of _ (by decide +kernel)) ggX9_put_X9_howMany
set_option maxRecDepth 20000 in
theorem ggX9_put_X9_fails : GoodIn wsX9_put wsX9_fails := goodIn_r _ [14, 1, 15, 16, 17, 18, 19, 20, 21, 22, 23, 24, 25, 26, 27, 28, 29] rfl (by decide +kernel)
set_option maxRecDepth 20000 in
theorem gX9_put_X9_fails : GoodIn wsX9_put (wsV RX9 45 RX9 yX9_fails wsX9_fails) := goodIn_app (goodIn_of _ (by decide +kernel)) ggX9_put_X9_fails
set_option maxRecDepth 20000 in
theorem ggX9_upTo_X9_within : GoodIn wsX9_upTo wsX9_within := goodIn_r _ [8] rfl (by decide +kernel)
set_option maxRecDepth 20000 in
theorem gX9_upTo_X9_within : GoodIn wsX9_upTo (va_wsS RX9 38 yX9_within wsX9_within) := goodIn_app (goodIn_of _ (by decide +kernel)) ggX9_upTo_X9_within
set_option maxRecDepth 20000 in
theorem ggX9_digit_X9_within : GoodIn wsX9_digit wsX9_within := goodIn_r _ [8] rfl (by decide +kernel)
set_option maxRecDepth 20000 in
theorem gX9_digit_X9_within : GoodIn wsX9_digit (va_wsS RX9 38 yX9_within wsX9_within) := goodIn_app (goodIn_of _ (by decide +kernel)) ggX9_digit_X9_within
set_option maxRecDepth 20000 in
theorem ggX9_pair_X9_digit : GoodIn wsX9_pair wsX9_digit := goodIn_r _ [8, 9, 10, 11, 1, 12, 13, 7, 14, 15, 16, 17, 18, 19, 20, 21, 22, 23, 24, 25, 26, 27, 28, 29] rfl (by decide +kernel)
set_option maxRecDepth 20000 in
theorem gX9_pair_X9_digit : GoodIn wsX9_pair (wsV RX9 155 RX9 yX9_digit wsX9_digit) := goodIn_app (goodIn_of _ (by decide +kernel)) ggX9_pair_X9_digit
set_option maxRecDepth 20000 in
theorem ggX9_part_X9_pair : GoodIn wsX9_part wsX9_pair := goodIn_r _ [12, 5, 6, 7, 13, 14, 15, 11, 16, 1, 2, 3, 17, 18, 19, 28, 29, 30, 31, 32, 33, 34, 35, 36, 37, 38, 39, 40, 41, 42] rfl (by decide +kernel)
set_option maxRecDepth 20000 in
theorem gX9_part_X9_pair : GoodIn wsX9_part (wsV RX9 167 RX9 yX9_pair wsX9_pair) := goodIn_app (goodIn_of _ (by decide +kernel)) ggX9_part_X9_pair
set_option maxRecDepth 20000 in
theorem ggX9_part_X9_digit : GoodIn wsX9_part wsX9_digit := goodIn_r _ [16, 1, 2, 3, 5, 17, 18, 11, 19, 28, 29, 30, 31, 32, 33, 34, 35, 36, 37, 38, 39, 40, 41, 42] rfl (by decide +kernel)
set_option maxRecDepth 20000 in
theorem gX9_part_X9_digit : GoodIn wsX9_part (wsV RX9 155 RX9 yX9_digit wsX9_digit) := goodIn_app (goodIn_of _ (by decide +kernel)) ggX9_part_X9_digit
set_option maxRecDepth 20000 in
theorem ggX9_part_X9_upTo : GoodIn wsX9_part wsX9_upTo := goodIn_r _ [23, 5, 1, 2, 3, 17, 18, 11, 19, 28, 29, 30, 31, 32, 33, 34, 35, 36, 37, 38, 39, 40, 41, 42] rfl (by decide +kernel)
set_option maxRecDepth 20000 in
theorem gX9_part_X9_upTo : GoodIn wsX9_part (wsV RX9 170 RX9 yX9_upTo wsX9_upTo) := goodIn_app (goodIn_of _ (by decide +kernel)) ggX9_part_X9_upTo
set_option maxRecDepth 20000 in
theorem ggX9_part_X9_takes : GoodIn wsX9_part wsX9_takes := goodIn_r _ [27, 1, 2, 3, 28, 29, 30, 31, 32, 33, 34, 35, 36, 37, 38, 39, 40, 41, 42] rfl (by decide +kernel)
set_option maxRecDepth 20000 in
theorem gX9_part_X9_takes : GoodIn wsX9_part (wsV RX9 173 RX9 yX9_takes wsX9_takes) := goodIn_app (goodIn_of _ (by decide +kernel)) ggX9_part_X9_takes
set_option maxRecDepth 20000 in
theorem ggX9_part_X9_within : GoodIn wsX9_part wsX9_within := goodIn_r _ [19] rfl (by decide +kernel)
set_option maxRecDepth 20000 in
theorem gX9_part_X9_within : GoodIn wsX9_part (va_wsS RX9 38 yX9_within wsX9_within) := goodIn_app (goodIn_of _ (by decide +kernel)) ggX9_part_X9_within
set_option maxRecDepth 20000 in
theorem ggX9_fault_X9_part : GoodIn wsX9_fault wsX9_part := goodIn_r _ [8, 2, 3, 9, 10, 11, 12, 13, 14, 15, 16, 7, 17, 18, 19, 20, 21, 22, 23, 24, 25, 26, 27, 28, 29, 30, 31, 32, 33, 34, 35, 36, 37, 38, 39, 40, 41, 42, 43, 44, 45, 46, 47] rfl (by decide +kernel)
set_option maxRecDepth 20000 in
theorem gX9_fault_X9_part : GoodIn wsX9_fault (wsV RX9 176 RX9 yX9_part wsX9_part) := goodIn_app (goodIn_of _ (by decide +kernel)) ggX9_fault_X9_part
set_option maxRecDepth 20000 in
theorem ggX9_fault_X9_takes : GoodIn wsX9_fault wsX9_takes := goodIn_r _ [32, 2, 3, 9, 33, 34, 35, 36, 37, 38, 39, 40, 41, 42, 43, 44, 45, 46, 47] rfl (by decide +kernel)
set_option maxRecDepth 20000 in
theorem gX9_fault_X9_takes : GoodIn wsX9_fault (wsV RX9 173 RX9 yX9_takes wsX9_takes) := goodIn_app (goodIn_of _ (by decide +kernel)) ggX9_fault_X9_takes
set_option maxRecDepth 20000 in
theorem ggX9_does_X9_isNotice : GoodIn wsX9_does wsX9_isNotice := goodIn_r _ [9, 2, 10, 11, 8, 12, 65, 66, 67, 68, 69, 70, 71, 72, 73, 74, 75, 76, 77, 78, 79] rfl (by decide +kernel)
set_option maxRecDepth 20000 in
theorem gX9_does_X9_isNotice : GoodIn wsX9_does (wsV RX9 105 RX9 yX9_isNotice wsX9_isNotice) := goodIn_app (goodIn_of _ (by decide +kernel)) ggX9_does_X9_isNotice
set_option maxRecDepth 20000 in
theorem ggX9_does_X9_doAppeal : GoodIn wsX9_does wsX9_doAppeal := goodIn_r _ [16, 2, 65, 66, 67, 68, 69, 70, 71, 72, 73, 74, 75, 76, 77, 78, 79] rfl (by decide +kernel)
set_option maxRecDepth 20000 in
theorem gX9_does_X9_doAppeal : GoodIn wsX9_does (wsV RX9 108 RX9 yX9_doAppeal wsX9_doAppeal) := goodIn_app (goodIn_of _ (by decide +kernel)) ggX9_does_X9_doAppeal
set_option maxRecDepth 20000 in
theorem ggX9_does_X9_passes : GoodIn wsX9_does wsX9_passes := goodIn_r _ [20, 2, 21, 22, 23, 8, 24, 25, 26, 27, 28, 29, 30, 31, 32, 33, 34, 35, 36, 37, 38, 39, 40, 41, 42, 43, 44, 45, 46, 47, 48, 49, 50, 51, 52, 53, 54, 55, 56, 57, 58, 59, 60, 61, 62, 63, 64, 65, 66, 67, 68, 69, 70, 71, 72, 73, 74, 75, 76, 77, 78, 79] rfl (by decide +kernel)
set_option maxRecDepth 20000 in
theorem gX9_does_X9_passes : GoodIn wsX9_does (wsV RX9 102 RX9 yX9_passes wsX9_passes) := goodIn_app (goodIn_of _ (by decide +kernel)) ggX9_does_X9_passes
set_option maxRecDepth 20000 in
theorem ggX9_read_X9_fault : GoodIn wsX9_read wsX9_fault := goodIn_r _ [7, 8, 1, 2, 9, 10, 11, 6, 12, 13, 14, 15, 16, 17, 18, 19, 20, 21, 22, 23, 24, 25, 26, 27, 28, 29, 30, 31, 32, 33, 34, 35, 36, 108, 109, 110, 111, 112, 113, 114, 115, 116, 117, 118, 119, 120, 121, 122] rfl (by decide +kernel)
set_option maxRecDepth 20000 in
theorem gX9_read_X9_fault : GoodIn wsX9_read (wsV RX9 180 RX9 yX9_fault wsX9_fault) := goodIn_app (goodIn_of _ (by decide +kernel)) ggX9_read_X9_fault
set_option maxRecDepth 20000 in
theorem ggX9_read_X9_fails : GoodIn wsX9_read wsX9_fails := goodIn_r _ [40, 8, 108, 109, 110, 111, 112, 113, 114, 115, 116, 117, 118, 119, 120, 121, 122] rfl (by decide +kernel)
set_option maxRecDepth 20000 in
theorem gX9_read_X9_fails : GoodIn wsX9_read (wsV RX9 45 RX9 yX9_fails wsX9_fails) := goodIn_app (goodIn_of _ (by decide +kernel)) ggX9_read_X9_fails
set_option maxRecDepth 20000 in
theorem ggX9_read_X9_record : GoodIn wsX9_read wsX9_record := goodIn_r _ [44, 45, 46, 47, 108, 109, 110, 111, 112, 113, 114, 115, 116, 117, 118, 119, 120, 121, 122] rfl (by decide +kernel)
set_option maxRecDepth 20000 in
theorem gX9_read_X9_record : GoodIn wsX9_read (wsV RX9 53 RX9 yX9_record wsX9_record) := goodIn_app (goodIn_of _ (by decide +kernel)) ggX9_read_X9_record
set_option maxRecDepth 20000 in
theorem ggX9_read_X9_part : GoodIn wsX9_read wsX9_part := goodIn_r _ [12, 1, 2, 13, 14, 15, 16, 17, 18, 19, 20, 6, 21, 22, 23, 24, 25, 26, 27, 28, 29, 30, 31, 32, 33, 34, 35, 36, 108, 109, 110, 111, 112, 113, 114, 115, 116, 117, 118, 119, 120, 121, 122] rfl (by decide +kernel)
set_option maxRecDepth 20000 in
theorem gX9_read_X9_part : GoodIn wsX9_read (wsV RX9 176 RX9 yX9_part wsX9_part) := goodIn_app (goodIn_of _ (by decide +kernel)) ggX9_read_X9_part
set_option maxRecDepth 20000 in
theorem ggX9_read_X9_does : GoodIn wsX9_read wsX9_does := goodIn_r _ [51, 14, 47, 16, 17, 52, 53, 54, 6, 55, 26, 27, 28, 56, 57, 58, 59, 60, 61, 62, 63, 64, 65, 66, 67, 68, 69, 70, 71, 72, 73, 74, 75, 76, 77, 78, 79, 80, 81, 82, 83, 84, 85, 86, 87, 88, 89, 90, 91, 92, 93, 94, 95, 96, 97, 98, 99, 100, 101, 102, 103, 104, 105, 106, 107, 108, 109, 110, 111, 112, 113, 114, 115, 116, 117, 118, 119, 120, 121, 122] rfl (by decide +kernel)
set_option maxRecDepth 20000 in
theorem gX9_read_X9_does : GoodIn wsX9_read (wsV RX9 183 RX9 yX9_does wsX9_does) := goodIn_app (goodIn_of _ (by decide +kernel)) ggX9_read_X9_does
