set_option maxRecDepth 20000 in
theorem ggX0_init_X0_nearestAllowed : GoodIn wsX0_init wsX0_nearestAllowed := goodIn_r _ [20, 21, 22, 23, 24, 25, 26, 27] (by decide +kernel) (by decide +kernel)
set_option maxRecDepth 20000 in
theorem gX0_init_X0_nearestAllowed : GoodIn wsX0_init (va_wsS RX0 34 yX0_nearestAllowed wsX0_nearestAllowed) := goodIn_app (goodIn_of _ (by decide +kernel)) ggX0_init_X0_nearestAllowed
set_option maxRecDepth 20000 in
theorem ggX0_init_X0_reset : GoodIn wsX0_init wsX0_reset := goodIn_r _ [31, 5, 6, 7, 8, 9, 10, 11, 12, 13, 14, 15, 16, 32, 33, 34, 35, 36, 37, 38, 39, 40, 41, 42, 43, 44, 45, 46, 47, 48, 49] (by decide +kernel) (by decide +kernel)
set_option maxRecDepth 20000 in
theorem gX0_init_X0_reset : GoodIn wsX0_init (wsV RX0 50 RX0 yX0_reset wsX0_reset) := goodIn_app (goodIn_of _ (by decide +kernel)) ggX0_init_X0_reset
theorem dX0_init_0 : decode cX0_init 0 = .ok (.aload_n 0, 1) := by decide +kernel
theorem dX0_init_1 : decode cX0_init 1 = .ok (.invokespecial 1, 3) := by decide +kernel
theorem dX0_init_4 : decode cX0_init 4 = .ok (.aload_n 0, 1) := by decide +kernel
theorem dX0_init_5 : decode cX0_init 5 = .ok (.bipush 16, 2) := by decide +kernel
theorem dX0_init_7 : decode cX0_init 7 = .ok (.newarray .int, 2) := by decide +kernel
theorem dX0_init_9 : decode cX0_init 9 = .ok (.putfield 9, 3) := by decide +kernel
theorem dX0_init_12 : decode cX0_init 12 = .ok (.aload_n 0, 1) := by decide +kernel
theorem dX0_init_13 : decode cX0_init 13 = .ok (.bipush 16, 2) := by decide +kernel
theorem dX0_init_15 : decode cX0_init 15 = .ok (.newarray .int, 2) := by decide +kernel
theorem dX0_init_17 : decode cX0_init 17 = .ok (.putfield 13, 3) := by decide +kernel
theorem dX0_init_20 : decode cX0_init 20 = .ok (.aload_n 0, 1) := by decide +kernel
theorem dX0_init_21 : decode cX0_init 21 = .ok (.bipush 16, 2) := by decide +kernel
theorem dX0_init_23 : decode cX0_init 23 = .ok (.newarray .int, 2) := by decide +kernel
theorem dX0_init_25 : decode cX0_init 25 = .ok (.putfield 16, 3) := by decide +kernel
theorem dX0_init_28 : decode cX0_init 28 = .ok (.aload_n 0, 1) := by decide +kernel
theorem dX0_init_29 : decode cX0_init 29 = .ok (.bipush 16, 2) := by decide +kernel
theorem dX0_init_31 : decode cX0_init 31 = .ok (.newarray .int, 2) := by decide +kernel
theorem dX0_init_33 : decode cX0_init 33 = .ok (.putfield 19, 3) := by decide +kernel
theorem dX0_init_36 : decode cX0_init 36 = .ok (.aload_n 0, 1) := by decide +kernel
theorem dX0_init_37 : decode cX0_init 37 = .ok (.bipush 16, 2) := by decide +kernel
theorem dX0_init_39 : decode cX0_init 39 = .ok (.newarray .int, 2) := by decide +kernel
theorem dX0_init_41 : decode cX0_init 41 = .ok (.putfield 22, 3) := by decide +kernel
theorem dX0_init_44 : decode cX0_init 44 = .ok (.aload_n 0, 1) := by decide +kernel
theorem dX0_init_45 : decode cX0_init 45 = .ok (.bipush 16, 2) := by decide +kernel
theorem dX0_init_47 : decode cX0_init 47 = .ok (.newarray .int, 2) := by decide +kernel
theorem dX0_init_49 : decode cX0_init 49 = .ok (.putfield 25, 3) := by decide +kernel
theorem dX0_init_52 : decode cX0_init 52 = .ok (.aload_n 0, 1) := by decide +kernel
theorem dX0_init_53 : decode cX0_init 53 = .ok (.bipush 16, 2) := by decide +kernel
theorem dX0_init_55 : decode cX0_init 55 = .ok (.newarray .int, 2) := by decide +kernel
theorem dX0_init_57 : decode cX0_init 57 = .ok (.putfield 28, 3) := by decide +kernel
theorem dX0_init_60 : decode cX0_init 60 = .ok (.aload_n 0, 1) := by decide +kernel
theorem dX0_init_61 : decode cX0_init 61 = .ok (.bipush 16, 2) := by decide +kernel
theorem dX0_init_63 : decode cX0_init 63 = .ok (.newarray .int, 2) := by decide +kernel
theorem dX0_init_65 : decode cX0_init 65 = .ok (.putfield 31, 3) := by decide +kernel
theorem dX0_init_68 : decode cX0_init 68 = .ok (.aload_n 0, 1) := by decide +kernel
theorem dX0_init_69 : decode cX0_init 69 = .ok (.iload_n 1, 1) := by decide +kernel
theorem dX0_init_70 : decode cX0_init 70 = .ok (.invokestatic 34, 3) := by decide +kernel
theorem dX0_init_73 : decode cX0_init 73 = .ok (.newarray .int, 2) := by decide +kernel
theorem dX0_init_75 : decode cX0_init 75 = .ok (.putfield 38, 3) := by decide +kernel
theorem dX0_init_78 : decode cX0_init 78 = .ok (.aload_n 0, 1) := by decide +kernel
theorem dX0_init_79 : decode cX0_init 79 = .ok (.iload_n 2, 1) := by decide +kernel
theorem dX0_init_80 : decode cX0_init 80 = .ok (.invokestatic 34, 3) := by decide +kernel
theorem dX0_init_83 : decode cX0_init 83 = .ok (.newarray .int, 2) := by decide +kernel
theorem dX0_init_85 : decode cX0_init 85 = .ok (.putfield 41, 3) := by decide +kernel
theorem dX0_init_88 : decode cX0_init 88 = .ok (.aload_n 0, 1) := by decide +kernel
theorem dX0_init_89 : decode cX0_init 89 = .ok (.iload_n 3, 1) := by decide +kernel
theorem dX0_init_90 : decode cX0_init 90 = .ok (.invokestatic 34, 3) := by decide +kernel
theorem dX0_init_93 : decode cX0_init 93 = .ok (.newarray .int, 2) := by decide +kernel
theorem dX0_init_95 : decode cX0_init 95 = .ok (.putfield 44, 3) := by decide +kernel
theorem dX0_init_98 : decode cX0_init 98 = .ok (.aload_n 0, 1) := by decide +kernel
theorem dX0_init_99 : decode cX0_init 99 = .ok (.aload_n 0, 1) := by decide +kernel
theorem dX0_init_100 : decode cX0_init 100 = .ok (.getfield 44, 3) := by decide +kernel
theorem dX0_init_103 : decode cX0_init 103 = .ok (.arraylength, 1) := by decide +kernel
theorem dX0_init_104 : decode cX0_init 104 = .ok (.iconst 4, 1) := by decide +kernel
theorem dX0_init_105 : decode cX0_init 105 = .ok (.imul, 1) := by decide +kernel
theorem dX0_init_106 : decode cX0_init 106 = .ok (.newarray .int, 2) := by decide +kernel
theorem dX0_init_108 : decode cX0_init 108 = .ok (.putfield 47, 3) := by decide +kernel
theorem dX0_init_111 : decode cX0_init 111 = .ok (.aload_n 0, 1) := by decide +kernel
theorem dX0_init_112 : decode cX0_init 112 = .ok (.invokevirtual 50, 3) := by decide +kernel
theorem dX0_init_115 : decode cX0_init 115 = .ok (.return_, 1) := by decide +kernel
set_option maxRecDepth 20000 in
theorem ggX0_create_X0_requireTask : GoodIn wsX0_create wsX0_requireTask := goodIn_ca (goodIn_r _ [8, 9, 10] (by decide +kernel) (by decide +kernel)) (goodIn_sub (fun _ h => List.mem_cons_of_mem _ (List.mem_append_left _ (List.mem_append_right _ h))) (by decide +kernel))
set_option maxRecDepth 20000 in
theorem gX0_create_X0_requireTask : GoodIn wsX0_create (va_wsS RX0 53 yX0_requireTask wsX0_requireTask) := goodIn_app (goodIn_of _ (by decide +kernel)) ggX0_create_X0_requireTask
set_option maxRecDepth 20000 in
theorem ggX0_create_X0_requirePriority : GoodIn wsX0_create wsX0_requirePriority := goodIn_ca (goodIn_r _ [13, 14, 15] (by decide +kernel) (by decide +kernel)) (goodIn_sub (fun _ h => List.mem_cons_of_mem _ (List.mem_append_right _ h)) (by decide +kernel))
set_option maxRecDepth 20000 in
theorem gX0_create_X0_requirePriority : GoodIn wsX0_create (va_wsS RX0 57 yX0_requirePriority wsX0_requirePriority) := goodIn_app (goodIn_of _ (by decide +kernel)) ggX0_create_X0_requirePriority
set_option maxRecDepth 20000 in
theorem ggX0_create_X0_becomeReady : GoodIn wsX0_create wsX0_becomeReady := goodIn_r _ [19, 20, 21, 22, 23, 7, 24, 3, 25, 26, 27, 62, 63, 64, 65, 66, 67, 68, 69, 70, 71, 72, 73, 74] (by decide +kernel) (by decide +kernel)
set_option maxRecDepth 20000 in
theorem gX0_create_X0_becomeReady : GoodIn wsX0_create (wsV RX0 67 RX0 yX0_becomeReady wsX0_becomeReady) := goodIn_app (goodIn_of _ (by decide +kernel)) ggX0_create_X0_becomeReady
set_option maxRecDepth 20000 in
theorem ggX0_create_X0_settlePriorities : GoodIn wsX0_create wsX0_settlePriorities := goodIn_r _ [31, 4, 32, 33, 34, 35, 36, 37, 38, 39, 7, 40, 41, 42, 43, 44, 45, 46, 47, 48, 3, 25, 49, 62, 63, 64, 65, 66, 67, 68, 69, 70, 71, 72, 73, 74] (by decide +kernel) (by decide +kernel)
set_option maxRecDepth 20000 in
theorem gX0_create_X0_settlePriorities : GoodIn wsX0_create (wsV RX0 70 RX0 yX0_settlePriorities wsX0_settlePriorities) := goodIn_app (goodIn_of _ (by decide +kernel)) ggX0_create_X0_settlePriorities
set_option maxRecDepth 20000 in
theorem ggX0_create_X0_running : GoodIn wsX0_create wsX0_running := goodIn_r _ [53, 54, 55, 56, 7, 57, 3, 25, 58, 59, 60, 61, 32, 27, 62, 63, 64, 65, 66, 67, 68, 69, 70, 71, 72, 73, 74] (by decide +kernel) (by decide +kernel)
set_option maxRecDepth 20000 in
theorem gX0_create_X0_running : GoodIn wsX0_create (wsV RX0 73 RX0 yX0_running wsX0_running) := goodIn_app (goodIn_of _ (by decide +kernel)) ggX0_create_X0_running
theorem dX0_create_0 : decode cX0_create 0 = .ok (.iload_n 1, 1) := by decide +kernel
theorem dX0_create_1 : decode cX0_create 1 = .ok (.invokestatic 53, 3) := by decide +kernel
theorem dX0_create_4 : decode cX0_create 4 = .ok (.iload_n 2, 1) := by decide +kernel
theorem dX0_create_5 : decode cX0_create 5 = .ok (.invokestatic 57, 3) := by decide +kernel
theorem dX0_create_8 : decode cX0_create 8 = .ok (.aload_n 0, 1) := by decide +kernel
theorem dX0_create_9 : decode cX0_create 9 = .ok (.getfield 9, 3) := by decide +kernel
theorem dX0_create_12 : decode cX0_create 12 = .ok (.iload_n 1, 1) := by decide +kernel
theorem dX0_create_13 : decode cX0_create 13 = .ok (.iaload, 1) := by decide +kernel
theorem dX0_create_14 : decode cX0_create 14 = .ok (.ifCond .eq 13, 3) := by decide +kernel
theorem dX0_create_17 : decode cX0_create 17 = .ok (.new 60, 3) := by decide +kernel
theorem dX0_create_20 : decode cX0_create 20 = .ok (.dup, 1) := by decide +kernel
theorem dX0_create_21 : decode cX0_create 21 = .ok (.ldc 62, 2) := by decide +kernel
theorem dX0_create_23 : decode cX0_create 23 = .ok (.invokespecial 64, 3) := by decide +kernel
theorem dX0_create_26 : decode cX0_create 26 = .ok (.athrow, 1) := by decide +kernel
theorem dX0_create_27 : decode cX0_create 27 = .ok (.aload_n 0, 1) := by decide +kernel
theorem dX0_create_28 : decode cX0_create 28 = .ok (.getfield 13, 3) := by decide +kernel
theorem dX0_create_31 : decode cX0_create 31 = .ok (.iload_n 1, 1) := by decide +kernel
theorem dX0_create_32 : decode cX0_create 32 = .ok (.iload_n 2, 1) := by decide +kernel
theorem dX0_create_33 : decode cX0_create 33 = .ok (.iastore, 1) := by decide +kernel
theorem dX0_create_34 : decode cX0_create 34 = .ok (.aload_n 0, 1) := by decide +kernel
theorem dX0_create_35 : decode cX0_create 35 = .ok (.iload_n 1, 1) := by decide +kernel
theorem dX0_create_36 : decode cX0_create 36 = .ok (.invokevirtual 67, 3) := by decide +kernel
theorem dX0_create_39 : decode cX0_create 39 = .ok (.aload_n 0, 1) := by decide +kernel
theorem dX0_create_40 : decode cX0_create 40 = .ok (.invokevirtual 70, 3) := by decide +kernel
theorem dX0_create_43 : decode cX0_create 43 = .ok (.aload_n 0, 1) := by decide +kernel
theorem dX0_create_44 : decode cX0_create 44 = .ok (.invokevirtual 73, 3) := by decide +kernel
theorem dX0_create_47 : decode cX0_create 47 = .ok (.ireturn, 1) := by decide +kernel
set_option maxRecDepth 20000 in
theorem ggX0_priority_X0_requireTask : GoodIn wsX0_priority wsX0_requireTask := goodIn_ca (goodIn_r _ [8, 9, 10] (by decide +kernel) (by decide +kernel)) (goodIn_sub (fun _ h => List.mem_cons_of_mem _ (List.mem_append_left _ (List.mem_append_right _ h))) (by decide +kernel))
set_option maxRecDepth 20000 in
theorem gX0_priority_X0_requireTask : GoodIn wsX0_priority (va_wsS RX0 53 yX0_requireTask wsX0_requireTask) := goodIn_app (goodIn_of _ (by decide +kernel)) ggX0_priority_X0_requireTask
set_option maxRecDepth 20000 in
theorem ggX0_priority_X0_requirePriority : GoodIn wsX0_priority wsX0_requirePriority := goodIn_ca (goodIn_r _ [13, 14, 15] (by decide +kernel) (by decide +kernel)) (goodIn_sub (fun _ h => List.mem_cons_of_mem _ (List.mem_append_right _ h)) (by decide +kernel))
set_option maxRecDepth 20000 in
theorem gX0_priority_X0_requirePriority : GoodIn wsX0_priority (va_wsS RX0 57 yX0_requirePriority wsX0_requirePriority) := goodIn_app (goodIn_of _ (by decide +kernel)) ggX0_priority_X0_requirePriority
set_option maxRecDepth 20000 in
theorem ggX0_priority_X0_settlePriorities : GoodIn wsX0_priority wsX0_settlePriorities := goodIn_r _ [19, 4, 20, 21, 22, 23, 24, 25, 26, 27, 7, 28, 29, 30, 31, 32, 33, 34, 35, 36, 3, 37, 38, 39, 40, 41, 42, 43, 44, 45, 46, 47, 48, 49, 50, 51] (by decide +kernel) (by decide +kernel)
set_option maxRecDepth 20000 in
theorem gX0_priority_X0_settlePriorities : GoodIn wsX0_priority (wsV RX0 70 RX0 yX0_settlePriorities wsX0_settlePriorities) := goodIn_app (goodIn_of _ (by decide +kernel)) ggX0_priority_X0_settlePriorities
theorem dX0_priority_0 : decode cX0_priority 0 = .ok (.iload_n 1, 1) := by decide +kernel
theorem dX0_priority_1 : decode cX0_priority 1 = .ok (.invokestatic 53, 3) := by decide +kernel
theorem dX0_priority_4 : decode cX0_priority 4 = .ok (.iload_n 2, 1) := by decide +kernel
theorem dX0_priority_5 : decode cX0_priority 5 = .ok (.invokestatic 57, 3) := by decide +kernel
theorem dX0_priority_8 : decode cX0_priority 8 = .ok (.aload_n 0, 1) := by decide +kernel
theorem dX0_priority_9 : decode cX0_priority 9 = .ok (.getfield 9, 3) := by decide +kernel
theorem dX0_priority_12 : decode cX0_priority 12 = .ok (.iload_n 1, 1) := by decide +kernel
theorem dX0_priority_13 : decode cX0_priority 13 = .ok (.iaload, 1) := by decide +kernel
theorem dX0_priority_14 : decode cX0_priority 14 = .ok (.ifCond .ne 13, 3) := by decide +kernel
theorem dX0_priority_17 : decode cX0_priority 17 = .ok (.new 60, 3) := by decide +kernel
theorem dX0_priority_20 : decode cX0_priority 20 = .ok (.dup, 1) := by decide +kernel
theorem dX0_priority_21 : decode cX0_priority 21 = .ok (.ldc 77, 2) := by decide +kernel
theorem dX0_priority_23 : decode cX0_priority 23 = .ok (.invokespecial 64, 3) := by decide +kernel
theorem dX0_priority_26 : decode cX0_priority 26 = .ok (.athrow, 1) := by decide +kernel
theorem dX0_priority_27 : decode cX0_priority 27 = .ok (.aload_n 0, 1) := by decide +kernel
theorem dX0_priority_28 : decode cX0_priority 28 = .ok (.getfield 13, 3) := by decide +kernel
theorem dX0_priority_31 : decode cX0_priority 31 = .ok (.iload_n 1, 1) := by decide +kernel
theorem dX0_priority_32 : decode cX0_priority 32 = .ok (.iaload, 1) := by decide +kernel
theorem dX0_priority_33 : decode cX0_priority 33 = .ok (.istore_n 3, 1) := by decide +kernel
theorem dX0_priority_34 : decode cX0_priority 34 = .ok (.aload_n 0, 1) := by decide +kernel
theorem dX0_priority_35 : decode cX0_priority 35 = .ok (.getfield 13, 3) := by decide +kernel
theorem dX0_priority_38 : decode cX0_priority 38 = .ok (.iload_n 1, 1) := by decide +kernel
theorem dX0_priority_39 : decode cX0_priority 39 = .ok (.iload_n 2, 1) := by decide +kernel
theorem dX0_priority_40 : decode cX0_priority 40 = .ok (.iastore, 1) := by decide +kernel
theorem dX0_priority_41 : decode cX0_priority 41 = .ok (.aload_n 0, 1) := by decide +kernel
theorem dX0_priority_42 : decode cX0_priority 42 = .ok (.invokevirtual 70, 3) := by decide +kernel
theorem dX0_priority_45 : decode cX0_priority 45 = .ok (.iload_n 3, 1) := by decide +kernel
theorem dX0_priority_46 : decode cX0_priority 46 = .ok (.ireturn, 1) := by decide +kernel
set_option maxRecDepth 20000 in
theorem ggX0_lock_X0_requireLock : GoodIn wsX0_lock wsX0_requireLock := goodIn_ca (goodIn_r _ [8, 9, 10, 3, 63, 64, 65, 66, 67, 68, 69, 70, 71, 72, 73, 74, 75] (by decide +kernel) (by decide +kernel)) (goodIn_sub (fun _ h => List.mem_cons_of_mem _ (List.mem_append_left _ (List.mem_append_right _ h))) (by decide +kernel))
set_option maxRecDepth 20000 in
theorem gX0_lock_X0_requireLock : GoodIn wsX0_lock (wsV RX0 79 RX0 yX0_requireLock wsX0_requireLock) := goodIn_app (goodIn_of _ (by decide +kernel)) ggX0_lock_X0_requireLock
set_option maxRecDepth 20000 in
theorem ggX0_lock_X0_requireRunning : GoodIn wsX0_lock wsX0_requireRunning := goodIn_ca (goodIn_r _ [14, 15, 16, 17, 18, 19, 7, 20, 21, 22, 23, 24, 25, 26, 27, 28, 29, 30, 31, 32, 63, 64, 65, 66, 67, 68, 69, 70, 71, 72, 73, 74, 75] (by decide +kernel) (by decide +kernel)) (goodIn_sub (fun _ h => List.mem_cons_of_mem _ (List.mem_append_right _ h)) (by decide +kernel))
set_option maxRecDepth 20000 in
theorem gX0_lock_X0_requireRunning : GoodIn wsX0_lock (wsV RX0 82 RX0 yX0_requireRunning wsX0_requireRunning) := goodIn_app (goodIn_of _ (by decide +kernel)) ggX0_lock_X0_requireRunning
set_option maxRecDepth 20000 in
theorem ggX0_lock_X0_wouldWaitForItself : GoodIn wsX0_lock wsX0_wouldWaitForItself := goodIn_r _ [36, 3, 37, 38, 39, 7, 40, 25, 26, 63, 64, 65, 66, 67, 68, 69, 70, 71, 72, 73, 74, 75] (by decide +kernel) (by decide +kernel)
set_option maxRecDepth 20000 in
theorem gX0_lock_X0_wouldWaitForItself : GoodIn wsX0_lock (wsV RX0 85 RX0 yX0_wouldWaitForItself wsX0_wouldWaitForItself) := goodIn_app (goodIn_of _ (by decide +kernel)) ggX0_lock_X0_wouldWaitForItself
set_option maxRecDepth 20000 in
theorem ggX0_lock_X0_enter : GoodIn wsX0_lock wsX0_enter := goodIn_r _ [44, 25, 26, 45, 32, 63, 64, 65, 66, 67, 68, 69, 70, 71, 72, 73, 74, 75] (by decide +kernel) (by decide +kernel)
set_option maxRecDepth 20000 in
theorem gX0_lock_X0_enter : GoodIn wsX0_lock (wsV RX0 94 RX0 yX0_enter wsX0_enter) := goodIn_app (goodIn_of _ (by decide +kernel)) ggX0_lock_X0_enter
set_option maxRecDepth 20000 in
theorem ggX0_lock_X0_settlePriorities : GoodIn wsX0_lock wsX0_settlePriorities := goodIn_r _ [49, 50, 31, 51, 52, 53, 54, 55, 56, 57, 7, 58, 59, 60, 61, 62, 37, 38, 39, 40, 25, 26, 3, 63, 64, 65, 66, 67, 68, 69, 70, 71, 72, 73, 74, 75] (by decide +kernel) (by decide +kernel)
set_option maxRecDepth 20000 in
theorem gX0_lock_X0_settlePriorities : GoodIn wsX0_lock (wsV RX0 70 RX0 yX0_settlePriorities wsX0_settlePriorities) := goodIn_app (goodIn_of _ (by decide +kernel)) ggX0_lock_X0_settlePriorities
theorem dX0_lock_0 : decode cX0_lock 0 = .ok (.aload_n 0, 1) := by decide +kernel
theorem dX0_lock_1 : decode cX0_lock 1 = .ok (.iload_n 1, 1) := by decide +kernel
theorem dX0_lock_2 : decode cX0_lock 2 = .ok (.invokevirtual 79, 3) := by decide +kernel
theorem dX0_lock_5 : decode cX0_lock 5 = .ok (.aload_n 0, 1) := by decide +kernel
theorem dX0_lock_6 : decode cX0_lock 6 = .ok (.invokevirtual 82, 3) := by decide +kernel
theorem dX0_lock_9 : decode cX0_lock 9 = .ok (.istore_n 2, 1) := by decide +kernel
theorem dX0_lock_10 : decode cX0_lock 10 = .ok (.aload_n 0, 1) := by decide +kernel
theorem dX0_lock_11 : decode cX0_lock 11 = .ok (.iload_n 2, 1) := by decide +kernel
theorem dX0_lock_12 : decode cX0_lock 12 = .ok (.iload_n 1, 1) := by decide +kernel
theorem dX0_lock_13 : decode cX0_lock 13 = .ok (.invokevirtual 85, 3) := by decide +kernel
theorem dX0_lock_16 : decode cX0_lock 16 = .ok (.ifCond .eq 13, 3) := by decide +kernel
theorem dX0_lock_19 : decode cX0_lock 19 = .ok (.new 89, 3) := by decide +kernel
theorem dX0_lock_22 : decode cX0_lock 22 = .ok (.dup, 1) := by decide +kernel
theorem dX0_lock_23 : decode cX0_lock 23 = .ok (.ldc 91, 2) := by decide +kernel
theorem dX0_lock_25 : decode cX0_lock 25 = .ok (.invokespecial 93, 3) := by decide +kernel
theorem dX0_lock_28 : decode cX0_lock 28 = .ok (.athrow, 1) := by decide +kernel
theorem dX0_lock_29 : decode cX0_lock 29 = .ok (.aload_n 0, 1) := by decide +kernel
theorem dX0_lock_30 : decode cX0_lock 30 = .ok (.getfield 38, 3) := by decide +kernel
theorem dX0_lock_33 : decode cX0_lock 33 = .ok (.iload_n 1, 1) := by decide +kernel
theorem dX0_lock_34 : decode cX0_lock 34 = .ok (.iaload, 1) := by decide +kernel
theorem dX0_lock_35 : decode cX0_lock 35 = .ok (.iconst (-1), 1) := by decide +kernel
theorem dX0_lock_36 : decode cX0_lock 36 = .ok (.if_icmp .ne 12, 3) := by decide +kernel
theorem dX0_lock_39 : decode cX0_lock 39 = .ok (.aload_n 0, 1) := by decide +kernel
theorem dX0_lock_40 : decode cX0_lock 40 = .ok (.getfield 38, 3) := by decide +kernel
theorem dX0_lock_43 : decode cX0_lock 43 = .ok (.iload_n 1, 1) := by decide +kernel
theorem dX0_lock_44 : decode cX0_lock 44 = .ok (.iload_n 2, 1) := by decide +kernel
theorem dX0_lock_45 : decode cX0_lock 45 = .ok (.iastore, 1) := by decide +kernel
theorem dX0_lock_46 : decode cX0_lock 46 = .ok (.iconst 0, 1) := by decide +kernel
theorem dX0_lock_47 : decode cX0_lock 47 = .ok (.ireturn, 1) := by decide +kernel
theorem dX0_lock_48 : decode cX0_lock 48 = .ok (.aload_n 0, 1) := by decide +kernel
theorem dX0_lock_49 : decode cX0_lock 49 = .ok (.iload_n 2, 1) := by decide +kernel
theorem dX0_lock_50 : decode cX0_lock 50 = .ok (.iconst 2, 1) := by decide +kernel
theorem dX0_lock_51 : decode cX0_lock 51 = .ok (.iload_n 1, 1) := by decide +kernel
theorem dX0_lock_52 : decode cX0_lock 52 = .ok (.invokevirtual 94, 3) := by decide +kernel
theorem dX0_lock_55 : decode cX0_lock 55 = .ok (.aload_n 0, 1) := by decide +kernel
theorem dX0_lock_56 : decode cX0_lock 56 = .ok (.invokevirtual 70, 3) := by decide +kernel
theorem dX0_lock_59 : decode cX0_lock 59 = .ok (.iconst 1, 1) := by decide +kernel
theorem dX0_lock_60 : decode cX0_lock 60 = .ok (.ireturn, 1) := by decide +kernel
set_option maxRecDepth 20000 in
theorem ggX0_unlock_X0_requireLock : GoodIn wsX0_unlock wsX0_requireLock := goodIn_ca (goodIn_r _ [8, 9, 10, 3, 64, 65, 66, 67, 68, 69, 70, 71, 72, 73, 74, 75, 76] (by decide +kernel) (by decide +kernel)) (goodIn_sub (fun _ h => List.mem_cons_of_mem _ (List.mem_append_left _ (List.mem_append_right _ h))) (by decide +kernel))
set_option maxRecDepth 20000 in
theorem gX0_unlock_X0_requireLock : GoodIn wsX0_unlock (wsV RX0 79 RX0 yX0_requireLock wsX0_requireLock) := goodIn_app (goodIn_of _ (by decide +kernel)) ggX0_unlock_X0_requireLock
set_option maxRecDepth 20000 in
theorem ggX0_unlock_X0_requireRunning : GoodIn wsX0_unlock wsX0_requireRunning := goodIn_ca (goodIn_r _ [14, 15, 16, 17, 18, 19, 7, 20, 21, 22, 23, 24, 25, 26, 27, 28, 29, 30, 31, 32, 64, 65, 66, 67, 68, 69, 70, 71, 72, 73, 74, 75, 76] (by decide +kernel) (by decide +kernel)) (goodIn_sub (fun _ h => List.mem_cons_of_mem _ (List.mem_append_right _ h)) (by decide +kernel))
set_option maxRecDepth 20000 in
theorem gX0_unlock_X0_requireRunning : GoodIn wsX0_unlock (wsV RX0 82 RX0 yX0_requireRunning wsX0_requireRunning) := goodIn_app (goodIn_of _ (by decide +kernel)) ggX0_unlock_X0_requireRunning
set_option maxRecDepth 20000 in
theorem ggX0_unlock_X0_foremost : GoodIn wsX0_unlock wsX0_foremost := goodIn_r _ [24, 25, 26, 27, 28, 29, 7, 30, 31, 32, 64, 65, 66, 67, 68, 69, 70, 71, 72, 73, 74, 75, 76] (by decide +kernel) (by decide +kernel)
set_option maxRecDepth 20000 in
theorem gX0_unlock_X0_foremost : GoodIn wsX0_unlock (wsV RX0 100 RX0 yX0_foremost wsX0_foremost) := goodIn_app (goodIn_of _ (by decide +kernel)) ggX0_unlock_X0_foremost
set_option maxRecDepth 20000 in
theorem ggX0_unlock_X0_becomeReady : GoodIn wsX0_unlock wsX0_becomeReady := goodIn_r _ [36, 37, 38, 39, 40, 7, 41, 25, 26, 42, 32, 64, 65, 66, 67, 68, 69, 70, 71, 72, 73, 74, 75, 76] (by decide +kernel) (by decide +kernel)
set_option maxRecDepth 20000 in
theorem gX0_unlock_X0_becomeReady : GoodIn wsX0_unlock (wsV RX0 67 RX0 yX0_becomeReady wsX0_becomeReady) := goodIn_app (goodIn_of _ (by decide +kernel)) ggX0_unlock_X0_becomeReady
set_option maxRecDepth 20000 in
theorem ggX0_unlock_X0_settlePriorities : GoodIn wsX0_unlock wsX0_settlePriorities := goodIn_r _ [46, 47, 31, 48, 49, 50, 51, 52, 53, 54, 7, 55, 56, 57, 58, 59, 60, 61, 62, 63, 25, 26, 3, 64, 65, 66, 67, 68, 69, 70, 71, 72, 73, 74, 75, 76] (by decide +kernel) (by decide +kernel)
set_option maxRecDepth 20000 in
theorem gX0_unlock_X0_settlePriorities : GoodIn wsX0_unlock (wsV RX0 70 RX0 yX0_settlePriorities wsX0_settlePriorities) := goodIn_app (goodIn_of _ (by decide +kernel)) ggX0_unlock_X0_settlePriorities
theorem dX0_unlock_0 : decode cX0_unlock 0 = .ok (.aload_n 0, 1) := by decide +kernel
theorem dX0_unlock_1 : decode cX0_unlock 1 = .ok (.iload_n 1, 1) := by decide +kernel
theorem dX0_unlock_2 : decode cX0_unlock 2 = .ok (.invokevirtual 79, 3) := by decide +kernel
theorem dX0_unlock_5 : decode cX0_unlock 5 = .ok (.aload_n 0, 1) := by decide +kernel
theorem dX0_unlock_6 : decode cX0_unlock 6 = .ok (.invokevirtual 82, 3) := by decide +kernel
theorem dX0_unlock_9 : decode cX0_unlock 9 = .ok (.istore_n 2, 1) := by decide +kernel
theorem dX0_unlock_10 : decode cX0_unlock 10 = .ok (.aload_n 0, 1) := by decide +kernel
theorem dX0_unlock_11 : decode cX0_unlock 11 = .ok (.getfield 38, 3) := by decide +kernel
theorem dX0_unlock_14 : decode cX0_unlock 14 = .ok (.iload_n 1, 1) := by decide +kernel
theorem dX0_unlock_15 : decode cX0_unlock 15 = .ok (.iaload, 1) := by decide +kernel
theorem dX0_unlock_16 : decode cX0_unlock 16 = .ok (.iload_n 2, 1) := by decide +kernel
theorem dX0_unlock_17 : decode cX0_unlock 17 = .ok (.if_icmp .eq 13, 3) := by decide +kernel
theorem dX0_unlock_20 : decode cX0_unlock 20 = .ok (.new 89, 3) := by decide +kernel
theorem dX0_unlock_23 : decode cX0_unlock 23 = .ok (.dup, 1) := by decide +kernel
theorem dX0_unlock_24 : decode cX0_unlock 24 = .ok (.ldc 98, 2) := by decide +kernel
theorem dX0_unlock_26 : decode cX0_unlock 26 = .ok (.invokespecial 93, 3) := by decide +kernel
theorem dX0_unlock_29 : decode cX0_unlock 29 = .ok (.athrow, 1) := by decide +kernel
theorem dX0_unlock_30 : decode cX0_unlock 30 = .ok (.aload_n 0, 1) := by decide +kernel
theorem dX0_unlock_31 : decode cX0_unlock 31 = .ok (.iconst 2, 1) := by decide +kernel
theorem dX0_unlock_32 : decode cX0_unlock 32 = .ok (.iload_n 1, 1) := by decide +kernel
theorem dX0_unlock_33 : decode cX0_unlock 33 = .ok (.invokevirtual 100, 3) := by decide +kernel
theorem dX0_unlock_36 : decode cX0_unlock 36 = .ok (.istore_n 3, 1) := by decide +kernel
theorem dX0_unlock_37 : decode cX0_unlock 37 = .ok (.aload_n 0, 1) := by decide +kernel
theorem dX0_unlock_38 : decode cX0_unlock 38 = .ok (.getfield 38, 3) := by decide +kernel
theorem dX0_unlock_41 : decode cX0_unlock 41 = .ok (.iload_n 1, 1) := by decide +kernel
theorem dX0_unlock_42 : decode cX0_unlock 42 = .ok (.iload_n 3, 1) := by decide +kernel
theorem dX0_unlock_43 : decode cX0_unlock 43 = .ok (.iastore, 1) := by decide +kernel
theorem dX0_unlock_44 : decode cX0_unlock 44 = .ok (.iload_n 3, 1) := by decide +kernel
theorem dX0_unlock_45 : decode cX0_unlock 45 = .ok (.iconst (-1), 1) := by decide +kernel
theorem dX0_unlock_46 : decode cX0_unlock 46 = .ok (.if_icmp .eq 8, 3) := by decide +kernel
theorem dX0_unlock_49 : decode cX0_unlock 49 = .ok (.aload_n 0, 1) := by decide +kernel
theorem dX0_unlock_50 : decode cX0_unlock 50 = .ok (.iload_n 3, 1) := by decide +kernel
theorem dX0_unlock_51 : decode cX0_unlock 51 = .ok (.invokevirtual 67, 3) := by decide +kernel
theorem dX0_unlock_54 : decode cX0_unlock 54 = .ok (.aload_n 0, 1) := by decide +kernel
theorem dX0_unlock_55 : decode cX0_unlock 55 = .ok (.invokevirtual 70, 3) := by decide +kernel
theorem dX0_unlock_58 : decode cX0_unlock 58 = .ok (.iload_n 3, 1) := by decide +kernel
theorem dX0_unlock_59 : decode cX0_unlock 59 = .ok (.ireturn, 1) := by decide +kernel
set_option maxRecDepth 20000 in
theorem ggX0_down_X0_requireCounter : GoodIn wsX0_down wsX0_requireCounter := goodIn_ca (goodIn_r _ [6, 7, 8, 1, 36, 37, 38, 39, 40, 41, 42, 43, 44, 45, 46, 47, 48] (by decide +kernel) (by decide +kernel)) (goodIn_sub (fun _ h => List.mem_cons_of_mem _ (List.mem_append_left _ (List.mem_append_right _ h))) (by decide +kernel))
set_option maxRecDepth 20000 in
theorem gX0_down_X0_requireCounter : GoodIn wsX0_down (wsV RX0 104 RX0 yX0_requireCounter wsX0_requireCounter) := goodIn_app (goodIn_of _ (by decide +kernel)) ggX0_down_X0_requireCounter
set_option maxRecDepth 20000 in
theorem ggX0_down_X0_requireRunning : GoodIn wsX0_down wsX0_requireRunning := goodIn_ca (goodIn_r _ [12, 13, 14, 15, 16, 17, 5, 18, 19, 20, 21, 22, 23, 24, 25, 26, 27, 28, 29, 30, 36, 37, 38, 39, 40, 41, 42, 43, 44, 45, 46, 47, 48] (by decide +kernel) (by decide +kernel)) (goodIn_sub (fun _ h => List.mem_cons_of_mem _ (List.mem_append_right _ h)) (by decide +kernel))
set_option maxRecDepth 20000 in
theorem gX0_down_X0_requireRunning : GoodIn wsX0_down (wsV RX0 82 RX0 yX0_requireRunning wsX0_requireRunning) := goodIn_app (goodIn_of _ (by decide +kernel)) ggX0_down_X0_requireRunning
set_option maxRecDepth 20000 in
theorem ggX0_down_X0_enter : GoodIn wsX0_down wsX0_enter := goodIn_r _ [34, 23, 24, 35, 30, 36, 37, 38, 39, 40, 41, 42, 43, 44, 45, 46, 47, 48] (by decide +kernel) (by decide +kernel)
set_option maxRecDepth 20000 in
theorem gX0_down_X0_enter : GoodIn wsX0_down (wsV RX0 94 RX0 yX0_enter wsX0_enter) := goodIn_app (goodIn_of _ (by decide +kernel)) ggX0_down_X0_enter
theorem dX0_down_0 : decode cX0_down 0 = .ok (.aload_n 0, 1) := by decide +kernel
theorem dX0_down_1 : decode cX0_down 1 = .ok (.iload_n 1, 1) := by decide +kernel
theorem dX0_down_2 : decode cX0_down 2 = .ok (.invokevirtual 104, 3) := by decide +kernel
theorem dX0_down_5 : decode cX0_down 5 = .ok (.aload_n 0, 1) := by decide +kernel
theorem dX0_down_6 : decode cX0_down 6 = .ok (.invokevirtual 82, 3) := by decide +kernel
theorem dX0_down_9 : decode cX0_down 9 = .ok (.istore_n 2, 1) := by decide +kernel
theorem dX0_down_10 : decode cX0_down 10 = .ok (.aload_n 0, 1) := by decide +kernel
theorem dX0_down_11 : decode cX0_down 11 = .ok (.getfield 41, 3) := by decide +kernel
theorem dX0_down_14 : decode cX0_down 14 = .ok (.iload_n 1, 1) := by decide +kernel
theorem dX0_down_15 : decode cX0_down 15 = .ok (.iaload, 1) := by decide +kernel
theorem dX0_down_16 : decode cX0_down 16 = .ok (.ifCond .le 15, 3) := by decide +kernel
theorem dX0_down_19 : decode cX0_down 19 = .ok (.aload_n 0, 1) := by decide +kernel
theorem dX0_down_20 : decode cX0_down 20 = .ok (.getfield 41, 3) := by decide +kernel
theorem dX0_down_23 : decode cX0_down 23 = .ok (.iload_n 1, 1) := by decide +kernel
theorem dX0_down_24 : decode cX0_down 24 = .ok (.dup2, 1) := by decide +kernel
theorem dX0_down_25 : decode cX0_down 25 = .ok (.iaload, 1) := by decide +kernel
theorem dX0_down_26 : decode cX0_down 26 = .ok (.iconst 1, 1) := by decide +kernel
theorem dX0_down_27 : decode cX0_down 27 = .ok (.isub, 1) := by decide +kernel
theorem dX0_down_28 : decode cX0_down 28 = .ok (.iastore, 1) := by decide +kernel
theorem dX0_down_29 : decode cX0_down 29 = .ok (.iconst 0, 1) := by decide +kernel
theorem dX0_down_30 : decode cX0_down 30 = .ok (.ireturn, 1) := by decide +kernel
theorem dX0_down_31 : decode cX0_down 31 = .ok (.aload_n 0, 1) := by decide +kernel
theorem dX0_down_32 : decode cX0_down 32 = .ok (.iload_n 2, 1) := by decide +kernel
theorem dX0_down_33 : decode cX0_down 33 = .ok (.iconst 3, 1) := by decide +kernel
theorem dX0_down_34 : decode cX0_down 34 = .ok (.iload_n 1, 1) := by decide +kernel
theorem dX0_down_35 : decode cX0_down 35 = .ok (.invokevirtual 94, 3) := by decide +kernel
theorem dX0_down_38 : decode cX0_down 38 = .ok (.iconst 1, 1) := by decide +kernel
theorem dX0_down_39 : decode cX0_down 39 = .ok (.ireturn, 1) := by decide +kernel
set_option maxRecDepth 20000 in
theorem ggX0_up_X0_requireCounter : GoodIn wsX0_up wsX0_requireCounter := goodIn_ca (goodIn_r _ [8, 9, 10, 3, 33, 34, 35, 36, 37, 38, 39, 40, 41, 42, 43, 44, 45] (by decide +kernel) (by decide +kernel)) (goodIn_sub (fun _ h => List.mem_cons_of_mem _ (List.mem_append_right _ h)) (by decide +kernel))
set_option maxRecDepth 20000 in
theorem gX0_up_X0_requireCounter : GoodIn wsX0_up (wsV RX0 104 RX0 yX0_requireCounter wsX0_requireCounter) := goodIn_app (goodIn_of _ (by decide +kernel)) ggX0_up_X0_requireCounter
set_option maxRecDepth 20000 in
theorem ggX0_up_X0_foremost : GoodIn wsX0_up wsX0_foremost := goodIn_r _ [14, 15, 16, 17, 18, 19, 7, 20, 21, 22, 33, 34, 35, 36, 37, 38, 39, 40, 41, 42, 43, 44, 45] (by decide +kernel) (by decide +kernel)
set_option maxRecDepth 20000 in
theorem gX0_up_X0_foremost : GoodIn wsX0_up (wsV RX0 100 RX0 yX0_foremost wsX0_foremost) := goodIn_app (goodIn_of _ (by decide +kernel)) ggX0_up_X0_foremost
set_option maxRecDepth 20000 in
theorem ggX0_up_X0_becomeReady : GoodIn wsX0_up wsX0_becomeReady := goodIn_r _ [26, 27, 28, 29, 30, 7, 31, 15, 16, 32, 22, 33, 34, 35, 36, 37, 38, 39, 40, 41, 42, 43, 44, 45] (by decide +kernel) (by decide +kernel)
set_option maxRecDepth 20000 in
theorem gX0_up_X0_becomeReady : GoodIn wsX0_up (wsV RX0 67 RX0 yX0_becomeReady wsX0_becomeReady) := goodIn_app (goodIn_of _ (by decide +kernel)) ggX0_up_X0_becomeReady
theorem dX0_up_0 : decode cX0_up 0 = .ok (.aload_n 0, 1) := by decide +kernel
theorem dX0_up_1 : decode cX0_up 1 = .ok (.iload_n 1, 1) := by decide +kernel
theorem dX0_up_2 : decode cX0_up 2 = .ok (.invokevirtual 104, 3) := by decide +kernel
theorem dX0_up_5 : decode cX0_up 5 = .ok (.aload_n 0, 1) := by decide +kernel
theorem dX0_up_6 : decode cX0_up 6 = .ok (.iconst 3, 1) := by decide +kernel
theorem dX0_up_7 : decode cX0_up 7 = .ok (.iload_n 1, 1) := by decide +kernel
theorem dX0_up_8 : decode cX0_up 8 = .ok (.invokevirtual 100, 3) := by decide +kernel
theorem dX0_up_11 : decode cX0_up 11 = .ok (.istore_n 2, 1) := by decide +kernel
theorem dX0_up_12 : decode cX0_up 12 = .ok (.iload_n 2, 1) := by decide +kernel
theorem dX0_up_13 : decode cX0_up 13 = .ok (.iconst (-1), 1) := by decide +kernel
theorem dX0_up_14 : decode cX0_up 14 = .ok (.if_icmp .eq 10, 3) := by decide +kernel
theorem dX0_up_17 : decode cX0_up 17 = .ok (.aload_n 0, 1) := by decide +kernel
theorem dX0_up_18 : decode cX0_up 18 = .ok (.iload_n 2, 1) := by decide +kernel
theorem dX0_up_19 : decode cX0_up 19 = .ok (.invokevirtual 67, 3) := by decide +kernel
theorem dX0_up_22 : decode cX0_up 22 = .ok (.iload_n 2, 1) := by decide +kernel
theorem dX0_up_23 : decode cX0_up 23 = .ok (.ireturn, 1) := by decide +kernel
theorem dX0_up_24 : decode cX0_up 24 = .ok (.aload_n 0, 1) := by decide +kernel
theorem dX0_up_25 : decode cX0_up 25 = .ok (.getfield 41, 3) := by decide +kernel
theorem dX0_up_28 : decode cX0_up 28 = .ok (.iload_n 1, 1) := by decide +kernel
theorem dX0_up_29 : decode cX0_up 29 = .ok (.iaload, 1) := by decide +kernel
theorem dX0_up_30 : decode cX0_up 30 = .ok (.sipush 1000, 3) := by decide +kernel
theorem dX0_up_33 : decode cX0_up 33 = .ok (.if_icmp .lt 13, 3) := by decide +kernel
theorem dX0_up_36 : decode cX0_up 36 = .ok (.new 107, 3) := by decide +kernel
theorem dX0_up_39 : decode cX0_up 39 = .ok (.dup, 1) := by decide +kernel
theorem dX0_up_40 : decode cX0_up 40 = .ok (.ldc 109, 2) := by decide +kernel
theorem dX0_up_42 : decode cX0_up 42 = .ok (.invokespecial 111, 3) := by decide +kernel
theorem dX0_up_45 : decode cX0_up 45 = .ok (.athrow, 1) := by decide +kernel
theorem dX0_up_46 : decode cX0_up 46 = .ok (.aload_n 0, 1) := by decide +kernel
theorem dX0_up_47 : decode cX0_up 47 = .ok (.getfield 41, 3) := by decide +kernel
theorem dX0_up_50 : decode cX0_up 50 = .ok (.iload_n 1, 1) := by decide +kernel
theorem dX0_up_51 : decode cX0_up 51 = .ok (.dup2, 1) := by decide +kernel
theorem dX0_up_52 : decode cX0_up 52 = .ok (.iaload, 1) := by decide +kernel
theorem dX0_up_53 : decode cX0_up 53 = .ok (.iconst 1, 1) := by decide +kernel
theorem dX0_up_54 : decode cX0_up 54 = .ok (.iadd, 1) := by decide +kernel
theorem dX0_up_55 : decode cX0_up 55 = .ok (.iastore, 1) := by decide +kernel
theorem dX0_up_56 : decode cX0_up 56 = .ok (.iconst (-1), 1) := by decide +kernel
theorem dX0_up_57 : decode cX0_up 57 = .ok (.ireturn, 1) := by decide +kernel
set_option maxRecDepth 20000 in
theorem ggX0_send_X0_requireBox : GoodIn wsX0_send wsX0_requireBox := goodIn_ca (goodIn_r _ [7, 8, 9, 10, 48, 49, 50, 51, 52, 53, 54, 55, 56, 57, 58, 59, 60] (by decide +kernel) (by decide +kernel)) (goodIn_sub (fun _ h => List.mem_cons_of_mem _ (List.mem_append_left _ (List.mem_append_right _ h))) (by decide +kernel))
set_option maxRecDepth 20000 in
theorem gX0_send_X0_requireBox : GoodIn wsX0_send (wsV RX0 112 RX0 yX0_requireBox wsX0_requireBox) := goodIn_app (goodIn_of _ (by decide +kernel)) ggX0_send_X0_requireBox
set_option maxRecDepth 20000 in
theorem ggX0_send_X0_requireRunning : GoodIn wsX0_send wsX0_requireRunning := goodIn_ca (goodIn_r _ [14, 15, 16, 17, 18, 19, 6, 20, 21, 22, 23, 24, 25, 26, 27, 28, 29, 30, 31, 32, 48, 49, 50, 51, 52, 53, 54, 55, 56, 57, 58, 59, 60] (by decide +kernel) (by decide +kernel)) (goodIn_sub (fun _ h => List.mem_cons_of_mem _ (List.mem_append_right _ h)) (by decide +kernel))
set_option maxRecDepth 20000 in
theorem gX0_send_X0_requireRunning : GoodIn wsX0_send (wsV RX0 82 RX0 yX0_requireRunning wsX0_requireRunning) := goodIn_app (goodIn_of _ (by decide +kernel)) ggX0_send_X0_requireRunning
set_option maxRecDepth 20000 in
theorem ggX0_send_X0_foremost : GoodIn wsX0_send wsX0_foremost := goodIn_r _ [24, 25, 26, 27, 28, 29, 6, 30, 31, 32, 48, 49, 50, 51, 52, 53, 54, 55, 56, 57, 58, 59, 60] (by decide +kernel) (by decide +kernel)
set_option maxRecDepth 20000 in
theorem gX0_send_X0_foremost : GoodIn wsX0_send (wsV RX0 100 RX0 yX0_foremost wsX0_foremost) := goodIn_app (goodIn_of _ (by decide +kernel)) ggX0_send_X0_foremost
set_option maxRecDepth 20000 in
theorem ggX0_send_X0_becomeReady : GoodIn wsX0_send wsX0_becomeReady := goodIn_r _ [36, 37, 38, 39, 40, 6, 41, 25, 26, 42, 32, 48, 49, 50, 51, 52, 53, 54, 55, 56, 57, 58, 59, 60] (by decide +kernel) (by decide +kernel)
set_option maxRecDepth 20000 in
theorem gX0_send_X0_becomeReady : GoodIn wsX0_send (wsV RX0 67 RX0 yX0_becomeReady wsX0_becomeReady) := goodIn_app (goodIn_of _ (by decide +kernel)) ggX0_send_X0_becomeReady
set_option maxRecDepth 20000 in
theorem ggX0_send_X0_putBehind : GoodIn wsX0_send wsX0_putBehind := goodIn_r _ [46, 10, 47, 48, 49, 50, 51, 52, 53, 54, 55, 56, 57, 58, 59, 60] (by decide +kernel) (by decide +kernel)
set_option maxRecDepth 20000 in
theorem gX0_send_X0_putBehind : GoodIn wsX0_send (wsV RX0 115 RX0 yX0_putBehind wsX0_putBehind) := goodIn_app (goodIn_of _ (by decide +kernel)) ggX0_send_X0_putBehind
set_option maxRecDepth 20000 in
theorem ggX0_send_X0_enter : GoodIn wsX0_send wsX0_enter := goodIn_r _ [41, 25, 26, 42, 32, 48, 49, 50, 51, 52, 53, 54, 55, 56, 57, 58, 59, 60] (by decide +kernel) (by decide +kernel)
set_option maxRecDepth 20000 in
theorem gX0_send_X0_enter : GoodIn wsX0_send (wsV RX0 94 RX0 yX0_enter wsX0_enter) := goodIn_app (goodIn_of _ (by decide +kernel)) ggX0_send_X0_enter
theorem dX0_send_0 : decode cX0_send 0 = .ok (.aload_n 0, 1) := by decide +kernel
theorem dX0_send_1 : decode cX0_send 1 = .ok (.iload_n 1, 1) := by decide +kernel
theorem dX0_send_2 : decode cX0_send 2 = .ok (.invokevirtual 112, 3) := by decide +kernel
theorem dX0_send_5 : decode cX0_send 5 = .ok (.aload_n 0, 1) := by decide +kernel
theorem dX0_send_6 : decode cX0_send 6 = .ok (.invokevirtual 82, 3) := by decide +kernel
theorem dX0_send_9 : decode cX0_send 9 = .ok (.istore_n 3, 1) := by decide +kernel
theorem dX0_send_10 : decode cX0_send 10 = .ok (.aload_n 0, 1) := by decide +kernel
theorem dX0_send_11 : decode cX0_send 11 = .ok (.iconst 5, 1) := by decide +kernel
theorem dX0_send_12 : decode cX0_send 12 = .ok (.iload_n 1, 1) := by decide +kernel
theorem dX0_send_13 : decode cX0_send 13 = .ok (.invokevirtual 100, 3) := by decide +kernel
theorem dX0_send_16 : decode cX0_send 16 = .ok (.istore 4, 2) := by decide +kernel
theorem dX0_send_18 : decode cX0_send 18 = .ok (.iload 4, 2) := by decide +kernel
theorem dX0_send_20 : decode cX0_send 20 = .ok (.iconst (-1), 1) := by decide +kernel
theorem dX0_send_21 : decode cX0_send 21 = .ok (.if_icmp .eq 19, 3) := by decide +kernel
theorem dX0_send_24 : decode cX0_send 24 = .ok (.aload_n 0, 1) := by decide +kernel
theorem dX0_send_25 : decode cX0_send 25 = .ok (.getfield 28, 3) := by decide +kernel
theorem dX0_send_28 : decode cX0_send 28 = .ok (.iload 4, 2) := by decide +kernel
theorem dX0_send_30 : decode cX0_send 30 = .ok (.iload_n 2, 1) := by decide +kernel
theorem dX0_send_31 : decode cX0_send 31 = .ok (.iastore, 1) := by decide +kernel
theorem dX0_send_32 : decode cX0_send 32 = .ok (.aload_n 0, 1) := by decide +kernel
theorem dX0_send_33 : decode cX0_send 33 = .ok (.iload 4, 2) := by decide +kernel
theorem dX0_send_35 : decode cX0_send 35 = .ok (.invokevirtual 67, 3) := by decide +kernel
theorem dX0_send_38 : decode cX0_send 38 = .ok (.iconst 0, 1) := by decide +kernel
theorem dX0_send_39 : decode cX0_send 39 = .ok (.ireturn, 1) := by decide +kernel
theorem dX0_send_40 : decode cX0_send 40 = .ok (.aload_n 0, 1) := by decide +kernel
theorem dX0_send_41 : decode cX0_send 41 = .ok (.iload_n 1, 1) := by decide +kernel
theorem dX0_send_42 : decode cX0_send 42 = .ok (.iload_n 2, 1) := by decide +kernel
theorem dX0_send_43 : decode cX0_send 43 = .ok (.invokevirtual 115, 3) := by decide +kernel
theorem dX0_send_46 : decode cX0_send 46 = .ok (.ifCond .eq 5, 3) := by decide +kernel
theorem dX0_send_49 : decode cX0_send 49 = .ok (.iconst 0, 1) := by decide +kernel
theorem dX0_send_50 : decode cX0_send 50 = .ok (.ireturn, 1) := by decide +kernel
theorem dX0_send_51 : decode cX0_send 51 = .ok (.aload_n 0, 1) := by decide +kernel
theorem dX0_send_52 : decode cX0_send 52 = .ok (.getfield 31, 3) := by decide +kernel
theorem dX0_send_55 : decode cX0_send 55 = .ok (.iload_n 3, 1) := by decide +kernel
theorem dX0_send_56 : decode cX0_send 56 = .ok (.iload_n 2, 1) := by decide +kernel
theorem dX0_send_57 : decode cX0_send 57 = .ok (.iastore, 1) := by decide +kernel
theorem dX0_send_58 : decode cX0_send 58 = .ok (.aload_n 0, 1) := by decide +kernel
theorem dX0_send_59 : decode cX0_send 59 = .ok (.iload_n 3, 1) := by decide +kernel
theorem dX0_send_60 : decode cX0_send 60 = .ok (.iconst 4, 1) := by decide +kernel
theorem dX0_send_61 : decode cX0_send 61 = .ok (.iload_n 1, 1) := by decide +kernel
theorem dX0_send_62 : decode cX0_send 62 = .ok (.invokevirtual 94, 3) := by decide +kernel
theorem dX0_send_65 : decode cX0_send 65 = .ok (.iconst 1, 1) := by decide +kernel
theorem dX0_send_66 : decode cX0_send 66 = .ok (.ireturn, 1) := by decide +kernel
set_option maxRecDepth 20000 in
theorem ggX0_receive_X0_requireBox : GoodIn wsX0_receive wsX0_requireBox := goodIn_ca (goodIn_r _ [8, 9, 10, 1, 56, 57, 58, 59, 60, 61, 62, 63, 64, 65, 66, 67, 68] (by decide +kernel) (by decide +kernel)) (goodIn_sub (fun _ h => List.mem_cons_of_mem _ (List.mem_append_left _ (List.mem_append_right _ h))) (by decide +kernel))
set_option maxRecDepth 20000 in
theorem gX0_receive_X0_requireBox : GoodIn wsX0_receive (wsV RX0 112 RX0 yX0_requireBox wsX0_requireBox) := goodIn_app (goodIn_of _ (by decide +kernel)) ggX0_receive_X0_requireBox
set_option maxRecDepth 20000 in
theorem ggX0_receive_X0_requireRunning : GoodIn wsX0_receive wsX0_requireRunning := goodIn_ca (goodIn_r _ [14, 15, 16, 17, 18, 19, 7, 20, 21, 22, 23, 24, 25, 26, 27, 28, 29, 30, 31, 32, 56, 57, 58, 59, 60, 61, 62, 63, 64, 65, 66, 67, 68] (by decide +kernel) (by decide +kernel)) (goodIn_sub (fun _ h => List.mem_cons_of_mem _ (List.mem_append_right _ h)) (by decide +kernel))
set_option maxRecDepth 20000 in
theorem gX0_receive_X0_requireRunning : GoodIn wsX0_receive (wsV RX0 82 RX0 yX0_requireRunning wsX0_requireRunning) := goodIn_app (goodIn_of _ (by decide +kernel)) ggX0_receive_X0_requireRunning
set_option maxRecDepth 20000 in
theorem ggX0_receive_X0_enter : GoodIn wsX0_receive wsX0_enter := goodIn_r _ [36, 25, 26, 37, 32, 56, 57, 58, 59, 60, 61, 62, 63, 64, 65, 66, 67, 68] (by decide +kernel) (by decide +kernel)
set_option maxRecDepth 20000 in
theorem gX0_receive_X0_enter : GoodIn wsX0_receive (wsV RX0 94 RX0 yX0_enter wsX0_enter) := goodIn_app (goodIn_of _ (by decide +kernel)) ggX0_receive_X0_enter
set_option maxRecDepth 20000 in
theorem ggX0_receive_X0_takeFront : GoodIn wsX0_receive wsX0_takeFront := goodIn_r _ [41, 42, 43, 44, 45, 46, 1, 56, 57, 58, 59, 60, 61, 62, 63, 64, 65, 66, 67, 68] (by decide +kernel) (by decide +kernel)
set_option maxRecDepth 20000 in
theorem gX0_receive_X0_takeFront : GoodIn wsX0_receive (wsV RX0 118 RX0 yX0_takeFront wsX0_takeFront) := goodIn_app (goodIn_of _ (by decide +kernel)) ggX0_receive_X0_takeFront
set_option maxRecDepth 20000 in
theorem ggX0_receive_X0_foremost : GoodIn wsX0_receive wsX0_foremost := goodIn_r _ [24, 25, 26, 27, 28, 29, 7, 30, 31, 32, 56, 57, 58, 59, 60, 61, 62, 63, 64, 65, 66, 67, 68] (by decide +kernel) (by decide +kernel)
set_option maxRecDepth 20000 in
theorem gX0_receive_X0_foremost : GoodIn wsX0_receive (wsV RX0 100 RX0 yX0_foremost wsX0_foremost) := goodIn_app (goodIn_of _ (by decide +kernel)) ggX0_receive_X0_foremost
set_option maxRecDepth 20000 in
theorem ggX0_receive_X0_putBehind : GoodIn wsX0_receive wsX0_putBehind := goodIn_r _ [50, 1, 42, 56, 57, 58, 59, 60, 61, 62, 63, 64, 65, 66, 67, 68] (by decide +kernel) (by decide +kernel)
set_option maxRecDepth 20000 in
theorem gX0_receive_X0_putBehind : GoodIn wsX0_receive (wsV RX0 115 RX0 yX0_putBehind wsX0_putBehind) := goodIn_app (goodIn_of _ (by decide +kernel)) ggX0_receive_X0_putBehind
set_option maxRecDepth 20000 in
theorem ggX0_receive_X0_becomeReady : GoodIn wsX0_receive wsX0_becomeReady := goodIn_r _ [54, 55, 33, 34, 35, 7, 36, 25, 26, 37, 32, 56, 57, 58, 59, 60, 61, 62, 63, 64, 65, 66, 67, 68] (by decide +kernel) (by decide +kernel)
set_option maxRecDepth 20000 in
theorem gX0_receive_X0_becomeReady : GoodIn wsX0_receive (wsV RX0 67 RX0 yX0_becomeReady wsX0_becomeReady) := goodIn_app (goodIn_of _ (by decide +kernel)) ggX0_receive_X0_becomeReady
theorem dX0_receive_0 : decode cX0_receive 0 = .ok (.aload_n 0, 1) := by decide +kernel
theorem dX0_receive_1 : decode cX0_receive 1 = .ok (.iload_n 1, 1) := by decide +kernel
theorem dX0_receive_2 : decode cX0_receive 2 = .ok (.invokevirtual 112, 3) := by decide +kernel
theorem dX0_receive_5 : decode cX0_receive 5 = .ok (.aload_n 0, 1) := by decide +kernel
theorem dX0_receive_6 : decode cX0_receive 6 = .ok (.invokevirtual 82, 3) := by decide +kernel
theorem dX0_receive_9 : decode cX0_receive 9 = .ok (.istore_n 2, 1) := by decide +kernel
theorem dX0_receive_10 : decode cX0_receive 10 = .ok (.aload_n 0, 1) := by decide +kernel
theorem dX0_receive_11 : decode cX0_receive 11 = .ok (.getfield 44, 3) := by decide +kernel
theorem dX0_receive_14 : decode cX0_receive 14 = .ok (.iload_n 1, 1) := by decide +kernel
theorem dX0_receive_15 : decode cX0_receive 15 = .ok (.iaload, 1) := by decide +kernel
theorem dX0_receive_16 : decode cX0_receive 16 = .ok (.ifCond .ne 12, 3) := by decide +kernel
theorem dX0_receive_19 : decode cX0_receive 19 = .ok (.aload_n 0, 1) := by decide +kernel
theorem dX0_receive_20 : decode cX0_receive 20 = .ok (.iload_n 2, 1) := by decide +kernel
theorem dX0_receive_21 : decode cX0_receive 21 = .ok (.iconst 5, 1) := by decide +kernel
theorem dX0_receive_22 : decode cX0_receive 22 = .ok (.iload_n 1, 1) := by decide +kernel
theorem dX0_receive_23 : decode cX0_receive 23 = .ok (.invokevirtual 94, 3) := by decide +kernel
theorem dX0_receive_26 : decode cX0_receive 26 = .ok (.iconst 1, 1) := by decide +kernel
theorem dX0_receive_27 : decode cX0_receive 27 = .ok (.ireturn, 1) := by decide +kernel
theorem dX0_receive_28 : decode cX0_receive 28 = .ok (.aload_n 0, 1) := by decide +kernel
theorem dX0_receive_29 : decode cX0_receive 29 = .ok (.getfield 28, 3) := by decide +kernel
theorem dX0_receive_32 : decode cX0_receive 32 = .ok (.iload_n 2, 1) := by decide +kernel
theorem dX0_receive_33 : decode cX0_receive 33 = .ok (.aload_n 0, 1) := by decide +kernel
theorem dX0_receive_34 : decode cX0_receive 34 = .ok (.iload_n 1, 1) := by decide +kernel
theorem dX0_receive_35 : decode cX0_receive 35 = .ok (.invokevirtual 118, 3) := by decide +kernel
theorem dX0_receive_38 : decode cX0_receive 38 = .ok (.iastore, 1) := by decide +kernel
theorem dX0_receive_39 : decode cX0_receive 39 = .ok (.aload_n 0, 1) := by decide +kernel
theorem dX0_receive_40 : decode cX0_receive 40 = .ok (.iconst 4, 1) := by decide +kernel
theorem dX0_receive_41 : decode cX0_receive 41 = .ok (.iload_n 1, 1) := by decide +kernel
theorem dX0_receive_42 : decode cX0_receive 42 = .ok (.invokevirtual 100, 3) := by decide +kernel
theorem dX0_receive_45 : decode cX0_receive 45 = .ok (.istore_n 3, 1) := by decide +kernel
theorem dX0_receive_46 : decode cX0_receive 46 = .ok (.iload_n 3, 1) := by decide +kernel
theorem dX0_receive_47 : decode cX0_receive 47 = .ok (.iconst (-1), 1) := by decide +kernel
theorem dX0_receive_48 : decode cX0_receive 48 = .ok (.if_icmp .eq 22, 3) := by decide +kernel
theorem dX0_receive_51 : decode cX0_receive 51 = .ok (.aload_n 0, 1) := by decide +kernel
theorem dX0_receive_52 : decode cX0_receive 52 = .ok (.iload_n 1, 1) := by decide +kernel
theorem dX0_receive_53 : decode cX0_receive 53 = .ok (.aload_n 0, 1) := by decide +kernel
theorem dX0_receive_54 : decode cX0_receive 54 = .ok (.getfield 31, 3) := by decide +kernel
theorem dX0_receive_57 : decode cX0_receive 57 = .ok (.iload_n 3, 1) := by decide +kernel
theorem dX0_receive_58 : decode cX0_receive 58 = .ok (.iaload, 1) := by decide +kernel
theorem dX0_receive_59 : decode cX0_receive 59 = .ok (.invokevirtual 115, 3) := by decide +kernel
theorem dX0_receive_62 : decode cX0_receive 62 = .ok (.ifCond .eq 8, 3) := by decide +kernel
theorem dX0_receive_65 : decode cX0_receive 65 = .ok (.aload_n 0, 1) := by decide +kernel
theorem dX0_receive_66 : decode cX0_receive 66 = .ok (.iload_n 3, 1) := by decide +kernel
theorem dX0_receive_67 : decode cX0_receive 67 = .ok (.invokevirtual 67, 3) := by decide +kernel
theorem dX0_receive_70 : decode cX0_receive 70 = .ok (.iconst 0, 1) := by decide +kernel
theorem dX0_receive_71 : decode cX0_receive 71 = .ok (.ireturn, 1) := by decide +kernel
set_option maxRecDepth 20000 in
theorem ggX0_sleep_X0_requireRunning : GoodIn wsX0_sleep wsX0_requireRunning := goodIn_ca (goodIn_r _ [8, 9, 10, 11, 12, 13, 7, 14, 15, 16, 17, 18, 19, 20, 21, 22, 23, 24, 25, 26, 32, 33, 34, 35, 36, 37, 38, 39, 40, 41, 42, 43, 44] (by decide +kernel) (by decide +kernel)) (goodIn_sub (fun _ h => List.mem_cons_of_mem _ (List.mem_append_right _ h)) (by decide +kernel))
set_option maxRecDepth 20000 in
theorem gX0_sleep_X0_requireRunning : GoodIn wsX0_sleep (wsV RX0 82 RX0 yX0_requireRunning wsX0_requireRunning) := goodIn_app (goodIn_of _ (by decide +kernel)) ggX0_sleep_X0_requireRunning
set_option maxRecDepth 20000 in
theorem ggX0_sleep_X0_enter : GoodIn wsX0_sleep wsX0_enter := goodIn_r _ [30, 19, 20, 31, 26, 32, 33, 34, 35, 36, 37, 38, 39, 40, 41, 42, 43, 44] (by decide +kernel) (by decide +kernel)
set_option maxRecDepth 20000 in
theorem gX0_sleep_X0_enter : GoodIn wsX0_sleep (wsV RX0 94 RX0 yX0_enter wsX0_enter) := goodIn_app (goodIn_of _ (by decide +kernel)) ggX0_sleep_X0_enter
set_option maxRecDepth 20000 in
theorem ggX0_sleep_X0_running : GoodIn wsX0_sleep wsX0_running := goodIn_r _ [14, 15, 16, 17, 7, 18, 19, 20, 21, 22, 23, 24, 25, 26, 32, 33, 34, 35, 36, 37, 38, 39, 40, 41, 42, 43, 44] (by decide +kernel) (by decide +kernel)
set_option maxRecDepth 20000 in
theorem gX0_sleep_X0_running : GoodIn wsX0_sleep (wsV RX0 73 RX0 yX0_running wsX0_running) := goodIn_app (goodIn_of _ (by decide +kernel)) ggX0_sleep_X0_running
theorem dX0_sleep_0 : decode cX0_sleep 0 = .ok (.aload_n 0, 1) := by decide +kernel
theorem dX0_sleep_1 : decode cX0_sleep 1 = .ok (.invokevirtual 82, 3) := by decide +kernel
theorem dX0_sleep_4 : decode cX0_sleep 4 = .ok (.istore_n 2, 1) := by decide +kernel
theorem dX0_sleep_5 : decode cX0_sleep 5 = .ok (.iload_n 1, 1) := by decide +kernel
theorem dX0_sleep_6 : decode cX0_sleep 6 = .ok (.iconst 1, 1) := by decide +kernel
theorem dX0_sleep_7 : decode cX0_sleep 7 = .ok (.if_icmp .lt 10, 3) := by decide +kernel
theorem dX0_sleep_10 : decode cX0_sleep 10 = .ok (.iload_n 1, 1) := by decide +kernel
theorem dX0_sleep_11 : decode cX0_sleep 11 = .ok (.sipush 1000, 3) := by decide +kernel
theorem dX0_sleep_14 : decode cX0_sleep 14 = .ok (.if_icmp .le 13, 3) := by decide +kernel
theorem dX0_sleep_17 : decode cX0_sleep 17 = .ok (.new 89, 3) := by decide +kernel
theorem dX0_sleep_20 : decode cX0_sleep 20 = .ok (.dup, 1) := by decide +kernel
theorem dX0_sleep_21 : decode cX0_sleep 21 = .ok (.ldc 121, 2) := by decide +kernel
theorem dX0_sleep_23 : decode cX0_sleep 23 = .ok (.invokespecial 93, 3) := by decide +kernel
theorem dX0_sleep_26 : decode cX0_sleep 26 = .ok (.athrow, 1) := by decide +kernel
theorem dX0_sleep_27 : decode cX0_sleep 27 = .ok (.aload_n 0, 1) := by decide +kernel
theorem dX0_sleep_28 : decode cX0_sleep 28 = .ok (.iload_n 2, 1) := by decide +kernel
theorem dX0_sleep_29 : decode cX0_sleep 29 = .ok (.bipush 6, 2) := by decide +kernel
theorem dX0_sleep_31 : decode cX0_sleep 31 = .ok (.iconst (-1), 1) := by decide +kernel
theorem dX0_sleep_32 : decode cX0_sleep 32 = .ok (.invokevirtual 94, 3) := by decide +kernel
theorem dX0_sleep_35 : decode cX0_sleep 35 = .ok (.aload_n 0, 1) := by decide +kernel
theorem dX0_sleep_36 : decode cX0_sleep 36 = .ok (.getfield 25, 3) := by decide +kernel
theorem dX0_sleep_39 : decode cX0_sleep 39 = .ok (.iload_n 2, 1) := by decide +kernel
theorem dX0_sleep_40 : decode cX0_sleep 40 = .ok (.iload_n 1, 1) := by decide +kernel
theorem dX0_sleep_41 : decode cX0_sleep 41 = .ok (.iastore, 1) := by decide +kernel
theorem dX0_sleep_42 : decode cX0_sleep 42 = .ok (.aload_n 0, 1) := by decide +kernel
theorem dX0_sleep_43 : decode cX0_sleep 43 = .ok (.invokevirtual 73, 3) := by decide +kernel
theorem dX0_sleep_46 : decode cX0_sleep 46 = .ok (.ireturn, 1) := by decide +kernel
set_option maxRecDepth 20000 in
theorem ggX0_end_X0_requireRunning : GoodIn wsX0_end wsX0_requireRunning := goodIn_ca (goodIn_r _ [10, 11, 12, 13, 14, 15, 9, 16, 17, 18, 19, 20, 3, 21, 22, 23, 24, 25, 26, 27, 53, 54, 55, 56, 57, 58, 59, 60, 61, 62, 63, 64, 65] (by decide +kernel) (by decide +kernel)) (goodIn_sub (fun _ h => List.mem_cons_of_mem _ (List.mem_append_right _ h)) (by decide +kernel))
set_option maxRecDepth 20000 in
theorem gX0_end_X0_requireRunning : GoodIn wsX0_end (wsV RX0 82 RX0 yX0_requireRunning wsX0_requireRunning) := goodIn_app (goodIn_of _ (by decide +kernel)) ggX0_end_X0_requireRunning
set_option maxRecDepth 20000 in
theorem ggX0_end_X0_locksOwnedBy : GoodIn wsX0_end wsX0_locksOwnedBy := goodIn_r _ [31, 32, 53, 54, 55, 56, 57, 58, 59, 60, 61, 62, 63, 64, 65] (by decide +kernel) (by decide +kernel)
set_option maxRecDepth 20000 in
theorem gX0_end_X0_locksOwnedBy : GoodIn wsX0_end (wsV RX0 123 RX0 yX0_locksOwnedBy wsX0_locksOwnedBy) := goodIn_app (goodIn_of _ (by decide +kernel)) ggX0_end_X0_locksOwnedBy
set_option maxRecDepth 20000 in
theorem ggX0_end_X0_settlePriorities : GoodIn wsX0_end wsX0_settlePriorities := goodIn_r _ [36, 4, 26, 37, 38, 39, 40, 41, 42, 43, 9, 44, 45, 46, 47, 48, 49, 50, 51, 52, 3, 21, 32, 53, 54, 55, 56, 57, 58, 59, 60, 61, 62, 63, 64, 65] (by decide +kernel) (by decide +kernel)
set_option maxRecDepth 20000 in
theorem gX0_end_X0_settlePriorities : GoodIn wsX0_end (wsV RX0 70 RX0 yX0_settlePriorities wsX0_settlePriorities) := goodIn_app (goodIn_of _ (by decide +kernel)) ggX0_end_X0_settlePriorities
set_option maxRecDepth 20000 in
theorem ggX0_end_X0_running : GoodIn wsX0_end wsX0_running := goodIn_r _ [16, 17, 18, 19, 9, 20, 3, 21, 22, 23, 24, 25, 26, 27, 53, 54, 55, 56, 57, 58, 59, 60, 61, 62, 63, 64, 65] (by decide +kernel) (by decide +kernel)
set_option maxRecDepth 20000 in
theorem gX0_end_X0_running : GoodIn wsX0_end (wsV RX0 73 RX0 yX0_running wsX0_running) := goodIn_app (goodIn_of _ (by decide +kernel)) ggX0_end_X0_running
theorem dX0_end_0 : decode cX0_end 0 = .ok (.aload_n 0, 1) := by decide +kernel
theorem dX0_end_1 : decode cX0_end 1 = .ok (.invokevirtual 82, 3) := by decide +kernel
theorem dX0_end_4 : decode cX0_end 4 = .ok (.istore_n 1, 1) := by decide +kernel
theorem dX0_end_5 : decode cX0_end 5 = .ok (.aload_n 0, 1) := by decide +kernel
theorem dX0_end_6 : decode cX0_end 6 = .ok (.iload_n 1, 1) := by decide +kernel
theorem dX0_end_7 : decode cX0_end 7 = .ok (.invokevirtual 123, 3) := by decide +kernel
theorem dX0_end_10 : decode cX0_end 10 = .ok (.ifCond .le 13, 3) := by decide +kernel
theorem dX0_end_13 : decode cX0_end 13 = .ok (.new 89, 3) := by decide +kernel
theorem dX0_end_16 : decode cX0_end 16 = .ok (.dup, 1) := by decide +kernel
theorem dX0_end_17 : decode cX0_end 17 = .ok (.ldc 126, 2) := by decide +kernel
theorem dX0_end_19 : decode cX0_end 19 = .ok (.invokespecial 93, 3) := by decide +kernel
theorem dX0_end_22 : decode cX0_end 22 = .ok (.athrow, 1) := by decide +kernel
theorem dX0_end_23 : decode cX0_end 23 = .ok (.aload_n 0, 1) := by decide +kernel
theorem dX0_end_24 : decode cX0_end 24 = .ok (.getfield 9, 3) := by decide +kernel
theorem dX0_end_27 : decode cX0_end 27 = .ok (.iload_n 1, 1) := by decide +kernel
theorem dX0_end_28 : decode cX0_end 28 = .ok (.iconst 0, 1) := by decide +kernel
theorem dX0_end_29 : decode cX0_end 29 = .ok (.iastore, 1) := by decide +kernel
theorem dX0_end_30 : decode cX0_end 30 = .ok (.aload_n 0, 1) := by decide +kernel
theorem dX0_end_31 : decode cX0_end 31 = .ok (.getfield 13, 3) := by decide +kernel
theorem dX0_end_34 : decode cX0_end 34 = .ok (.iload_n 1, 1) := by decide +kernel
theorem dX0_end_35 : decode cX0_end 35 = .ok (.iconst 0, 1) := by decide +kernel
theorem dX0_end_36 : decode cX0_end 36 = .ok (.iastore, 1) := by decide +kernel
theorem dX0_end_37 : decode cX0_end 37 = .ok (.aload_n 0, 1) := by decide +kernel
theorem dX0_end_38 : decode cX0_end 38 = .ok (.getfield 28, 3) := by decide +kernel
theorem dX0_end_41 : decode cX0_end 41 = .ok (.iload_n 1, 1) := by decide +kernel
theorem dX0_end_42 : decode cX0_end 42 = .ok (.iconst 0, 1) := by decide +kernel
theorem dX0_end_43 : decode cX0_end 43 = .ok (.iastore, 1) := by decide +kernel
theorem dX0_end_44 : decode cX0_end 44 = .ok (.aload_n 0, 1) := by decide +kernel
theorem dX0_end_45 : decode cX0_end 45 = .ok (.invokevirtual 70, 3) := by decide +kernel
theorem dX0_end_48 : decode cX0_end 48 = .ok (.aload_n 0, 1) := by decide +kernel
theorem dX0_end_49 : decode cX0_end 49 = .ok (.invokevirtual 73, 3) := by decide +kernel
theorem dX0_end_52 : decode cX0_end 52 = .ok (.ireturn, 1) := by decide +kernel
set_option maxRecDepth 20000 in
theorem ggX0_tick_X0_wakeWithin : GoodIn wsX0_tick wsX0_wakeWithin := goodIn_r _ [9, 4, 10, 11, 12, 8, 13, 3, 14, 15, 16, 17, 18, 19, 20, 21, 22, 23, 24, 25, 26, 27, 28, 29, 30, 31, 32, 33, 34, 35, 36, 37] (by decide +kernel) (by decide +kernel)
set_option maxRecDepth 20000 in
theorem gX0_tick_X0_wakeWithin : GoodIn wsX0_tick (wsV RX0 130 RX0 yX0_wakeWithin wsX0_wakeWithin) := goodIn_app (goodIn_of _ (by decide +kernel)) ggX0_tick_X0_wakeWithin
theorem dX0_tick_0 : decode cX0_tick 0 = .ok (.iload_n 1, 1) := by decide +kernel
theorem dX0_tick_1 : decode cX0_tick 1 = .ok (.ifCond .lt 10, 3) := by decide +kernel
theorem dX0_tick_4 : decode cX0_tick 4 = .ok (.iload_n 1, 1) := by decide +kernel
theorem dX0_tick_5 : decode cX0_tick 5 = .ok (.sipush 1000, 3) := by decide +kernel
theorem dX0_tick_8 : decode cX0_tick 8 = .ok (.if_icmp .le 13, 3) := by decide +kernel
theorem dX0_tick_11 : decode cX0_tick 11 = .ok (.new 89, 3) := by decide +kernel
theorem dX0_tick_14 : decode cX0_tick 14 = .ok (.dup, 1) := by decide +kernel
theorem dX0_tick_15 : decode cX0_tick 15 = .ok (.ldc 128, 2) := by decide +kernel
theorem dX0_tick_17 : decode cX0_tick 17 = .ok (.invokespecial 93, 3) := by decide +kernel
theorem dX0_tick_20 : decode cX0_tick 20 = .ok (.athrow, 1) := by decide +kernel
theorem dX0_tick_21 : decode cX0_tick 21 = .ok (.aload_n 0, 1) := by decide +kernel
theorem dX0_tick_22 : decode cX0_tick 22 = .ok (.iload_n 1, 1) := by decide +kernel
theorem dX0_tick_23 : decode cX0_tick 23 = .ok (.invokevirtual 130, 3) := by decide +kernel
theorem dX0_tick_26 : decode cX0_tick 26 = .ok (.istore_n 2, 1) := by decide +kernel
theorem dX0_tick_27 : decode cX0_tick 27 = .ok (.iconst 0, 1) := by decide +kernel
theorem dX0_tick_28 : decode cX0_tick 28 = .ok (.istore_n 3, 1) := by decide +kernel
theorem dX0_tick_29 : decode cX0_tick 29 = .ok (.iload_n 3, 1) := by decide +kernel
theorem dX0_tick_30 : decode cX0_tick 30 = .ok (.bipush 16, 2) := by decide +kernel
theorem dX0_tick_32 : decode cX0_tick 32 = .ok (.if_icmp .ge 30, 3) := by decide +kernel
theorem dX0_tick_35 : decode cX0_tick 35 = .ok (.aload_n 0, 1) := by decide +kernel
theorem dX0_tick_36 : decode cX0_tick 36 = .ok (.getfield 9, 3) := by decide +kernel
theorem dX0_tick_39 : decode cX0_tick 39 = .ok (.iload_n 3, 1) := by decide +kernel
theorem dX0_tick_40 : decode cX0_tick 40 = .ok (.iaload, 1) := by decide +kernel
theorem dX0_tick_41 : decode cX0_tick 41 = .ok (.bipush 6, 2) := by decide +kernel
theorem dX0_tick_43 : decode cX0_tick 43 = .ok (.if_icmp .ne 13, 3) := by decide +kernel
theorem dX0_tick_46 : decode cX0_tick 46 = .ok (.aload_n 0, 1) := by decide +kernel
theorem dX0_tick_47 : decode cX0_tick 47 = .ok (.getfield 25, 3) := by decide +kernel
theorem dX0_tick_50 : decode cX0_tick 50 = .ok (.iload_n 3, 1) := by decide +kernel
theorem dX0_tick_51 : decode cX0_tick 51 = .ok (.dup2, 1) := by decide +kernel
theorem dX0_tick_52 : decode cX0_tick 52 = .ok (.iaload, 1) := by decide +kernel
theorem dX0_tick_53 : decode cX0_tick 53 = .ok (.iload_n 1, 1) := by decide +kernel
theorem dX0_tick_54 : decode cX0_tick 54 = .ok (.isub, 1) := by decide +kernel
theorem dX0_tick_55 : decode cX0_tick 55 = .ok (.iastore, 1) := by decide +kernel
theorem dX0_tick_56 : decode cX0_tick 56 = .ok (.iinc 3 1, 3) := by decide +kernel
theorem dX0_tick_59 : decode cX0_tick 59 = .ok (.goto (-30), 3) := by decide +kernel
theorem dX0_tick_62 : decode cX0_tick 62 = .ok (.iload_n 2, 1) := by decide +kernel
theorem dX0_tick_63 : decode cX0_tick 63 = .ok (.ireturn, 1) := by decide +kernel
set_option maxRecDepth 20000 in
theorem ggX0_running_X0_foremost : GoodIn wsX0_running wsX0_foremost := goodIn_r _ [5, 6, 7, 8, 9, 10, 4, 11, 12, 13, 14, 15, 16, 17, 18, 19, 20, 21, 22, 23, 24, 25, 26] (by decide +kernel) (by decide +kernel)
set_option maxRecDepth 20000 in
theorem gX0_running_X0_foremost : GoodIn wsX0_running (wsV RX0 100 RX0 yX0_foremost wsX0_foremost) := goodIn_app (goodIn_of _ (by decide +kernel)) ggX0_running_X0_foremost
theorem dX0_running_0 : decode cX0_running 0 = .ok (.aload_n 0, 1) := by decide +kernel
theorem dX0_running_1 : decode cX0_running 1 = .ok (.iconst 1, 1) := by decide +kernel
theorem dX0_running_2 : decode cX0_running 2 = .ok (.iconst (-1), 1) := by decide +kernel
theorem dX0_running_3 : decode cX0_running 3 = .ok (.invokevirtual 100, 3) := by decide +kernel
theorem dX0_running_6 : decode cX0_running 6 = .ok (.ireturn, 1) := by decide +kernel
set_option maxRecDepth 20000 in
theorem ggX0_told_X0_requireTask : GoodIn wsX0_told wsX0_requireTask := goodIn_ca (goodIn_r _ [12, 13, 14] (by decide +kernel) (by decide +kernel)) (goodIn_sub (fun _ h => List.mem_cons_of_mem _ (List.mem_append_right _ h)) (by decide +kernel))
set_option maxRecDepth 20000 in
theorem gX0_told_X0_requireTask : GoodIn wsX0_told (va_wsS RX0 53 yX0_requireTask wsX0_requireTask) := goodIn_app (goodIn_of _ (by decide +kernel)) ggX0_told_X0_requireTask
set_option maxRecDepth 20000 in
theorem ggX0_told_X0_locksOwnedBy : GoodIn wsX0_told wsX0_locksOwnedBy := goodIn_r _ [18, 19, 20, 21, 22, 23, 24, 25, 26, 27, 28, 29, 30, 31, 32] (by decide +kernel) (by decide +kernel)
set_option maxRecDepth 20000 in
theorem gX0_told_X0_locksOwnedBy : GoodIn wsX0_told (wsV RX0 123 RX0 yX0_locksOwnedBy wsX0_locksOwnedBy) := goodIn_app (goodIn_of _ (by decide +kernel)) ggX0_told_X0_locksOwnedBy
theorem dX0_told_0 : decode cX0_told 0 = .ok (.iload_n 1, 1) := by decide +kernel
theorem dX0_told_1 : decode cX0_told 1 = .ok (.invokestatic 53, 3) := by decide +kernel
theorem dX0_told_4 : decode cX0_told 4 = .ok (.iload_n 2, 1) := by decide +kernel
theorem dX0_told_5 : decode cX0_told 5 = .ok (.tableswitch 91 0 6 #[43, 50, 57, 64, 71, 78, 85], 43) := by decide +kernel
theorem dX0_told_48 : decode cX0_told 48 = .ok (.aload_n 0, 1) := by decide +kernel
theorem dX0_told_49 : decode cX0_told 49 = .ok (.getfield 9, 3) := by decide +kernel
theorem dX0_told_52 : decode cX0_told 52 = .ok (.iload_n 1, 1) := by decide +kernel
theorem dX0_told_53 : decode cX0_told 53 = .ok (.iaload, 1) := by decide +kernel
theorem dX0_told_54 : decode cX0_told 54 = .ok (.ireturn, 1) := by decide +kernel
theorem dX0_told_55 : decode cX0_told 55 = .ok (.aload_n 0, 1) := by decide +kernel
theorem dX0_told_56 : decode cX0_told 56 = .ok (.getfield 13, 3) := by decide +kernel
theorem dX0_told_59 : decode cX0_told 59 = .ok (.iload_n 1, 1) := by decide +kernel
theorem dX0_told_60 : decode cX0_told 60 = .ok (.iaload, 1) := by decide +kernel
theorem dX0_told_61 : decode cX0_told 61 = .ok (.ireturn, 1) := by decide +kernel
theorem dX0_told_62 : decode cX0_told 62 = .ok (.aload_n 0, 1) := by decide +kernel
theorem dX0_told_63 : decode cX0_told 63 = .ok (.getfield 16, 3) := by decide +kernel
theorem dX0_told_66 : decode cX0_told 66 = .ok (.iload_n 1, 1) := by decide +kernel
theorem dX0_told_67 : decode cX0_told 67 = .ok (.iaload, 1) := by decide +kernel
theorem dX0_told_68 : decode cX0_told 68 = .ok (.ireturn, 1) := by decide +kernel
theorem dX0_told_69 : decode cX0_told 69 = .ok (.aload_n 0, 1) := by decide +kernel
theorem dX0_told_70 : decode cX0_told 70 = .ok (.getfield 22, 3) := by decide +kernel
theorem dX0_told_73 : decode cX0_told 73 = .ok (.iload_n 1, 1) := by decide +kernel
theorem dX0_told_74 : decode cX0_told 74 = .ok (.iaload, 1) := by decide +kernel
theorem dX0_told_75 : decode cX0_told 75 = .ok (.ireturn, 1) := by decide +kernel
theorem dX0_told_76 : decode cX0_told 76 = .ok (.aload_n 0, 1) := by decide +kernel
theorem dX0_told_77 : decode cX0_told 77 = .ok (.getfield 25, 3) := by decide +kernel
theorem dX0_told_80 : decode cX0_told 80 = .ok (.iload_n 1, 1) := by decide +kernel
theorem dX0_told_81 : decode cX0_told 81 = .ok (.iaload, 1) := by decide +kernel
theorem dX0_told_82 : decode cX0_told 82 = .ok (.ireturn, 1) := by decide +kernel
theorem dX0_told_83 : decode cX0_told 83 = .ok (.aload_n 0, 1) := by decide +kernel
theorem dX0_told_84 : decode cX0_told 84 = .ok (.getfield 28, 3) := by decide +kernel
theorem dX0_told_87 : decode cX0_told 87 = .ok (.iload_n 1, 1) := by decide +kernel
theorem dX0_told_88 : decode cX0_told 88 = .ok (.iaload, 1) := by decide +kernel
theorem dX0_told_89 : decode cX0_told 89 = .ok (.ireturn, 1) := by decide +kernel
theorem dX0_told_90 : decode cX0_told 90 = .ok (.aload_n 0, 1) := by decide +kernel
theorem dX0_told_91 : decode cX0_told 91 = .ok (.iload_n 1, 1) := by decide +kernel
theorem dX0_told_92 : decode cX0_told 92 = .ok (.invokevirtual 123, 3) := by decide +kernel
theorem dX0_told_95 : decode cX0_told 95 = .ok (.ireturn, 1) := by decide +kernel
theorem dX0_told_96 : decode cX0_told 96 = .ok (.new 89, 3) := by decide +kernel
theorem dX0_told_99 : decode cX0_told 99 = .ok (.dup, 1) := by decide +kernel
theorem dX0_told_100 : decode cX0_told 100 = .ok (.ldc 133, 2) := by decide +kernel
theorem dX0_told_102 : decode cX0_told 102 = .ok (.invokespecial 93, 3) := by decide +kernel
theorem dX0_told_105 : decode cX0_told 105 = .ok (.athrow, 1) := by decide +kernel
set_option maxRecDepth 20000 in
theorem ggX0_owner_X0_requireLock : GoodIn wsX0_owner wsX0_requireLock := goodIn_ca (goodIn_r _ [6, 7, 8, 1, 9, 10, 11, 12, 13, 14, 15, 16, 17, 18, 19, 20, 21] (by decide +kernel) (by decide +kernel)) (goodIn_sub (fun _ h => List.mem_cons_of_mem _ (List.mem_append_right _ h)) (by decide +kernel))
set_option maxRecDepth 20000 in
theorem gX0_owner_X0_requireLock : GoodIn wsX0_owner (wsV RX0 79 RX0 yX0_requireLock wsX0_requireLock) := goodIn_app (goodIn_of _ (by decide +kernel)) ggX0_owner_X0_requireLock
theorem dX0_owner_0 : decode cX0_owner 0 = .ok (.aload_n 0, 1) := by decide +kernel
theorem dX0_owner_1 : decode cX0_owner 1 = .ok (.iload_n 1, 1) := by decide +kernel
theorem dX0_owner_2 : decode cX0_owner 2 = .ok (.invokevirtual 79, 3) := by decide +kernel
theorem dX0_owner_5 : decode cX0_owner 5 = .ok (.aload_n 0, 1) := by decide +kernel
theorem dX0_owner_6 : decode cX0_owner 6 = .ok (.getfield 38, 3) := by decide +kernel
theorem dX0_owner_9 : decode cX0_owner 9 = .ok (.iload_n 1, 1) := by decide +kernel
theorem dX0_owner_10 : decode cX0_owner 10 = .ok (.iaload, 1) := by decide +kernel
theorem dX0_owner_11 : decode cX0_owner 11 = .ok (.ireturn, 1) := by decide +kernel
set_option maxRecDepth 20000 in
theorem ggX0_count_X0_requireCounter : GoodIn wsX0_count wsX0_requireCounter := goodIn_ca (goodIn_r _ [6, 7, 8, 1, 9, 10, 11, 12, 13, 14, 15, 16, 17, 18, 19, 20, 21] (by decide +kernel) (by decide +kernel)) (goodIn_sub (fun _ h => List.mem_cons_of_mem _ (List.mem_append_right _ h)) (by decide +kernel))
set_option maxRecDepth 20000 in
theorem gX0_count_X0_requireCounter : GoodIn wsX0_count (wsV RX0 104 RX0 yX0_requireCounter wsX0_requireCounter) := goodIn_app (goodIn_of _ (by decide +kernel)) ggX0_count_X0_requireCounter
theorem dX0_count_0 : decode cX0_count 0 = .ok (.aload_n 0, 1) := by decide +kernel
theorem dX0_count_1 : decode cX0_count 1 = .ok (.iload_n 1, 1) := by decide +kernel
theorem dX0_count_2 : decode cX0_count 2 = .ok (.invokevirtual 104, 3) := by decide +kernel
theorem dX0_count_5 : decode cX0_count 5 = .ok (.aload_n 0, 1) := by decide +kernel
theorem dX0_count_6 : decode cX0_count 6 = .ok (.getfield 41, 3) := by decide +kernel
theorem dX0_count_9 : decode cX0_count 9 = .ok (.iload_n 1, 1) := by decide +kernel
theorem dX0_count_10 : decode cX0_count 10 = .ok (.iaload, 1) := by decide +kernel
theorem dX0_count_11 : decode cX0_count 11 = .ok (.ireturn, 1) := by decide +kernel
set_option maxRecDepth 20000 in
theorem ggX0_words_X0_requireBox : GoodIn wsX0_words wsX0_requireBox := goodIn_ca (goodIn_r _ [6, 7, 8, 1, 9, 10, 11, 12, 13, 14, 15, 16, 17, 18, 19, 20, 21] (by decide +kernel) (by decide +kernel)) (goodIn_sub (fun _ h => List.mem_cons_of_mem _ (List.mem_append_right _ h)) (by decide +kernel))
set_option maxRecDepth 20000 in
theorem gX0_words_X0_requireBox : GoodIn wsX0_words (wsV RX0 112 RX0 yX0_requireBox wsX0_requireBox) := goodIn_app (goodIn_of _ (by decide +kernel)) ggX0_words_X0_requireBox
theorem dX0_words_0 : decode cX0_words 0 = .ok (.aload_n 0, 1) := by decide +kernel
theorem dX0_words_1 : decode cX0_words 1 = .ok (.iload_n 1, 1) := by decide +kernel
theorem dX0_words_2 : decode cX0_words 2 = .ok (.invokevirtual 112, 3) := by decide +kernel
theorem dX0_words_5 : decode cX0_words 5 = .ok (.aload_n 0, 1) := by decide +kernel
theorem dX0_words_6 : decode cX0_words 6 = .ok (.getfield 44, 3) := by decide +kernel
theorem dX0_words_9 : decode cX0_words 9 = .ok (.iload_n 1, 1) := by decide +kernel
theorem dX0_words_10 : decode cX0_words 10 = .ok (.iaload, 1) := by decide +kernel
theorem dX0_words_11 : decode cX0_words 11 = .ok (.ireturn, 1) := by decide +kernel
set_option maxRecDepth 20000 in
theorem ggX0_first_X0_requireLock : GoodIn wsX0_first wsX0_requireLock := goodIn_ca (goodIn_r _ [7, 8, 9, 10, 33, 34, 35, 36, 37, 38, 39, 40, 41, 42, 43, 44, 45] (by decide +kernel) (by decide +kernel)) (goodIn_sub (fun _ h => List.mem_cons_of_mem _ (List.mem_append_right _ h)) (by decide +kernel))
set_option maxRecDepth 20000 in
theorem gX0_first_X0_requireLock : GoodIn wsX0_first (wsV RX0 79 RX0 yX0_requireLock wsX0_requireLock) := goodIn_app (goodIn_of _ (by decide +kernel)) ggX0_first_X0_requireLock
set_option maxRecDepth 20000 in
theorem ggX0_first_X0_requireCounter : GoodIn wsX0_first wsX0_requireCounter := goodIn_ca (goodIn_r _ [14, 8, 9, 15, 33, 34, 35, 36, 37, 38, 39, 40, 41, 42, 43, 44, 45] (by decide +kernel) (by decide +kernel)) (goodIn_sub (fun _ h => List.mem_cons_of_mem _ (List.mem_append_right _ h)) (by decide +kernel))
set_option maxRecDepth 20000 in
theorem gX0_first_X0_requireCounter : GoodIn wsX0_first (wsV RX0 104 RX0 yX0_requireCounter wsX0_requireCounter) := goodIn_app (goodIn_of _ (by decide +kernel)) ggX0_first_X0_requireCounter
set_option maxRecDepth 20000 in
theorem ggX0_first_X0_requireBox : GoodIn wsX0_first wsX0_requireBox := goodIn_ca (goodIn_r _ [19, 8, 9, 20, 33, 34, 35, 36, 37, 38, 39, 40, 41, 42, 43, 44, 45] (by decide +kernel) (by decide +kernel)) (goodIn_sub (fun _ h => List.mem_cons_of_mem _ (List.mem_append_right _ h)) (by decide +kernel))
set_option maxRecDepth 20000 in
theorem gX0_first_X0_requireBox : GoodIn wsX0_first (wsV RX0 112 RX0 yX0_requireBox wsX0_requireBox) := goodIn_app (goodIn_of _ (by decide +kernel)) ggX0_first_X0_requireBox
set_option maxRecDepth 20000 in
theorem ggX0_first_X0_foremost : GoodIn wsX0_first wsX0_foremost := goodIn_r _ [24, 25, 26, 27, 28, 29, 6, 30, 31, 32, 33, 34, 35, 36, 37, 38, 39, 40, 41, 42, 43, 44, 45] (by decide +kernel) (by decide +kernel)
set_option maxRecDepth 20000 in
theorem gX0_first_X0_foremost : GoodIn wsX0_first (wsV RX0 100 RX0 yX0_foremost wsX0_foremost) := goodIn_app (goodIn_of _ (by decide +kernel)) ggX0_first_X0_foremost
theorem dX0_first_0 : decode cX0_first 0 = .ok (.iload_n 1, 1) := by decide +kernel
theorem dX0_first_1 : decode cX0_first 1 = .ok (.tableswitch 55 2 5 #[31, 39, 47, 47], 31) := by decide +kernel
theorem dX0_first_32 : decode cX0_first 32 = .ok (.aload_n 0, 1) := by decide +kernel
theorem dX0_first_33 : decode cX0_first 33 = .ok (.iload_n 2, 1) := by decide +kernel
theorem dX0_first_34 : decode cX0_first 34 = .ok (.invokevirtual 79, 3) := by decide +kernel
theorem dX0_first_37 : decode cX0_first 37 = .ok (.goto 29, 3) := by decide +kernel
theorem dX0_first_40 : decode cX0_first 40 = .ok (.aload_n 0, 1) := by decide +kernel
theorem dX0_first_41 : decode cX0_first 41 = .ok (.iload_n 2, 1) := by decide +kernel
theorem dX0_first_42 : decode cX0_first 42 = .ok (.invokevirtual 104, 3) := by decide +kernel
theorem dX0_first_45 : decode cX0_first 45 = .ok (.goto 21, 3) := by decide +kernel
theorem dX0_first_48 : decode cX0_first 48 = .ok (.aload_n 0, 1) := by decide +kernel
theorem dX0_first_49 : decode cX0_first 49 = .ok (.iload_n 2, 1) := by decide +kernel
theorem dX0_first_50 : decode cX0_first 50 = .ok (.invokevirtual 112, 3) := by decide +kernel
theorem dX0_first_53 : decode cX0_first 53 = .ok (.goto 13, 3) := by decide +kernel
theorem dX0_first_56 : decode cX0_first 56 = .ok (.new 89, 3) := by decide +kernel
theorem dX0_first_59 : decode cX0_first 59 = .ok (.dup, 1) := by decide +kernel
theorem dX0_first_60 : decode cX0_first 60 = .ok (.ldc 135, 2) := by decide +kernel
theorem dX0_first_62 : decode cX0_first 62 = .ok (.invokespecial 93, 3) := by decide +kernel
theorem dX0_first_65 : decode cX0_first 65 = .ok (.athrow, 1) := by decide +kernel
theorem dX0_first_66 : decode cX0_first 66 = .ok (.aload_n 0, 1) := by decide +kernel
theorem dX0_first_67 : decode cX0_first 67 = .ok (.iload_n 1, 1) := by decide +kernel
theorem dX0_first_68 : decode cX0_first 68 = .ok (.iload_n 2, 1) := by decide +kernel
theorem dX0_first_69 : decode cX0_first 69 = .ok (.invokevirtual 100, 3) := by decide +kernel
theorem dX0_first_72 : decode cX0_first 72 = .ok (.ireturn, 1) := by decide +kernel
set_option maxRecDepth 20000 in
theorem ggX0_clear_X0_reset : GoodIn wsX0_clear wsX0_reset := goodIn_r _ [5, 6, 7, 8, 9, 10, 11, 12, 13, 14, 15, 16, 17, 18, 19, 20, 21, 22, 23, 24, 25, 26, 27, 28, 29, 30, 31, 32, 33, 34, 35] (by decide +kernel) (by decide +kernel)
set_option maxRecDepth 20000 in
theorem gX0_clear_X0_reset : GoodIn wsX0_clear (wsV RX0 50 RX0 yX0_reset wsX0_reset) := goodIn_app (goodIn_of _ (by decide +kernel)) ggX0_clear_X0_reset
theorem dX0_clear_0 : decode cX0_clear 0 = .ok (.aload_n 0, 1) := by decide +kernel
theorem dX0_clear_1 : decode cX0_clear 1 = .ok (.invokevirtual 50, 3) := by decide +kernel
theorem dX0_clear_4 : decode cX0_clear 4 = .ok (.return_, 1) := by decide +kernel
set_option maxRecDepth 20000 in
theorem ggX0_reset_J7_fill_53178 : GoodIn wsX0_reset wsJ7_fill_53178 := goodIn_r _ [17] (by decide +kernel) (by decide +kernel)
set_option maxRecDepth 20000 in
theorem gX0_reset_J7_fill_53178 : GoodIn wsX0_reset (va_wsS RX0 137 yJ7_fill_53178 wsJ7_fill_53178) := goodIn_app (goodIn_of _ (by decide +kernel)) ggX0_reset_J7_fill_53178
theorem dX0_reset_0 : decode cX0_reset 0 = .ok (.aload_n 0, 1) := by decide +kernel
theorem dX0_reset_1 : decode cX0_reset 1 = .ok (.getfield 9, 3) := by decide +kernel
theorem dX0_reset_4 : decode cX0_reset 4 = .ok (.iconst 0, 1) := by decide +kernel
theorem dX0_reset_5 : decode cX0_reset 5 = .ok (.invokestatic 137, 3) := by decide +kernel
theorem dX0_reset_8 : decode cX0_reset 8 = .ok (.aload_n 0, 1) := by decide +kernel
theorem dX0_reset_9 : decode cX0_reset 9 = .ok (.getfield 13, 3) := by decide +kernel
theorem dX0_reset_12 : decode cX0_reset 12 = .ok (.iconst 0, 1) := by decide +kernel
theorem dX0_reset_13 : decode cX0_reset 13 = .ok (.invokestatic 137, 3) := by decide +kernel
theorem dX0_reset_16 : decode cX0_reset 16 = .ok (.aload_n 0, 1) := by decide +kernel
theorem dX0_reset_17 : decode cX0_reset 17 = .ok (.getfield 16, 3) := by decide +kernel
theorem dX0_reset_20 : decode cX0_reset 20 = .ok (.iconst 0, 1) := by decide +kernel
theorem dX0_reset_21 : decode cX0_reset 21 = .ok (.invokestatic 137, 3) := by decide +kernel
theorem dX0_reset_24 : decode cX0_reset 24 = .ok (.aload_n 0, 1) := by decide +kernel
theorem dX0_reset_25 : decode cX0_reset 25 = .ok (.getfield 19, 3) := by decide +kernel
theorem dX0_reset_28 : decode cX0_reset 28 = .ok (.iconst 0, 1) := by decide +kernel
theorem dX0_reset_29 : decode cX0_reset 29 = .ok (.invokestatic 137, 3) := by decide +kernel
theorem dX0_reset_32 : decode cX0_reset 32 = .ok (.aload_n 0, 1) := by decide +kernel
theorem dX0_reset_33 : decode cX0_reset 33 = .ok (.getfield 22, 3) := by decide +kernel
theorem dX0_reset_36 : decode cX0_reset 36 = .ok (.iconst (-1), 1) := by decide +kernel
theorem dX0_reset_37 : decode cX0_reset 37 = .ok (.invokestatic 137, 3) := by decide +kernel
theorem dX0_reset_40 : decode cX0_reset 40 = .ok (.aload_n 0, 1) := by decide +kernel
theorem dX0_reset_41 : decode cX0_reset 41 = .ok (.getfield 25, 3) := by decide +kernel
theorem dX0_reset_44 : decode cX0_reset 44 = .ok (.iconst 0, 1) := by decide +kernel
theorem dX0_reset_45 : decode cX0_reset 45 = .ok (.invokestatic 137, 3) := by decide +kernel
theorem dX0_reset_48 : decode cX0_reset 48 = .ok (.aload_n 0, 1) := by decide +kernel
theorem dX0_reset_49 : decode cX0_reset 49 = .ok (.getfield 28, 3) := by decide +kernel
theorem dX0_reset_52 : decode cX0_reset 52 = .ok (.iconst 0, 1) := by decide +kernel
theorem dX0_reset_53 : decode cX0_reset 53 = .ok (.invokestatic 137, 3) := by decide +kernel
theorem dX0_reset_56 : decode cX0_reset 56 = .ok (.aload_n 0, 1) := by decide +kernel
theorem dX0_reset_57 : decode cX0_reset 57 = .ok (.getfield 31, 3) := by decide +kernel
theorem dX0_reset_60 : decode cX0_reset 60 = .ok (.iconst 0, 1) := by decide +kernel
theorem dX0_reset_61 : decode cX0_reset 61 = .ok (.invokestatic 137, 3) := by decide +kernel
theorem dX0_reset_64 : decode cX0_reset 64 = .ok (.aload_n 0, 1) := by decide +kernel
theorem dX0_reset_65 : decode cX0_reset 65 = .ok (.getfield 38, 3) := by decide +kernel
theorem dX0_reset_68 : decode cX0_reset 68 = .ok (.iconst (-1), 1) := by decide +kernel
theorem dX0_reset_69 : decode cX0_reset 69 = .ok (.invokestatic 137, 3) := by decide +kernel
theorem dX0_reset_72 : decode cX0_reset 72 = .ok (.aload_n 0, 1) := by decide +kernel
theorem dX0_reset_73 : decode cX0_reset 73 = .ok (.getfield 41, 3) := by decide +kernel
theorem dX0_reset_76 : decode cX0_reset 76 = .ok (.iconst 0, 1) := by decide +kernel
theorem dX0_reset_77 : decode cX0_reset 77 = .ok (.invokestatic 137, 3) := by decide +kernel
theorem dX0_reset_80 : decode cX0_reset 80 = .ok (.aload_n 0, 1) := by decide +kernel
theorem dX0_reset_81 : decode cX0_reset 81 = .ok (.getfield 44, 3) := by decide +kernel
theorem dX0_reset_84 : decode cX0_reset 84 = .ok (.iconst 0, 1) := by decide +kernel
theorem dX0_reset_85 : decode cX0_reset 85 = .ok (.invokestatic 137, 3) := by decide +kernel
theorem dX0_reset_88 : decode cX0_reset 88 = .ok (.aload_n 0, 1) := by decide +kernel
theorem dX0_reset_89 : decode cX0_reset 89 = .ok (.getfield 47, 3) := by decide +kernel
theorem dX0_reset_92 : decode cX0_reset 92 = .ok (.iconst 0, 1) := by decide +kernel
theorem dX0_reset_93 : decode cX0_reset 93 = .ok (.invokestatic 137, 3) := by decide +kernel
theorem dX0_reset_96 : decode cX0_reset 96 = .ok (.aload_n 0, 1) := by decide +kernel
theorem dX0_reset_97 : decode cX0_reset 97 = .ok (.iconst 0, 1) := by decide +kernel
theorem dX0_reset_98 : decode cX0_reset 98 = .ok (.putfield 143, 3) := by decide +kernel
theorem dX0_reset_101 : decode cX0_reset 101 = .ok (.return_, 1) := by decide +kernel
theorem dX0_nearestAllowed_0 : decode cX0_nearestAllowed 0 = .ok (.iconst 0, 1) := by decide +kernel
theorem dX0_nearestAllowed_1 : decode cX0_nearestAllowed 1 = .ok (.bipush 8, 2) := by decide +kernel
theorem dX0_nearestAllowed_3 : decode cX0_nearestAllowed 3 = .ok (.iload_n 0, 1) := by decide +kernel
theorem dX0_nearestAllowed_4 : decode cX0_nearestAllowed 4 = .ok (.invokestatic 147, 3) := by decide +kernel
theorem dX0_nearestAllowed_7 : decode cX0_nearestAllowed 7 = .ok (.invokestatic 152, 3) := by decide +kernel
theorem dX0_nearestAllowed_10 : decode cX0_nearestAllowed 10 = .ok (.ireturn, 1) := by decide +kernel
theorem dX0_requireTask_0 : decode cX0_requireTask 0 = .ok (.iload_n 0, 1) := by decide +kernel
theorem dX0_requireTask_1 : decode cX0_requireTask 1 = .ok (.ifCond .lt 9, 3) := by decide +kernel
theorem dX0_requireTask_4 : decode cX0_requireTask 4 = .ok (.iload_n 0, 1) := by decide +kernel
theorem dX0_requireTask_5 : decode cX0_requireTask 5 = .ok (.bipush 16, 2) := by decide +kernel
theorem dX0_requireTask_7 : decode cX0_requireTask 7 = .ok (.if_icmp .lt 13, 3) := by decide +kernel
theorem dX0_requireTask_10 : decode cX0_requireTask 10 = .ok (.new 155, 3) := by decide +kernel
theorem dX0_requireTask_13 : decode cX0_requireTask 13 = .ok (.dup, 1) := by decide +kernel
theorem dX0_requireTask_14 : decode cX0_requireTask 14 = .ok (.ldc 157, 2) := by decide +kernel
theorem dX0_requireTask_16 : decode cX0_requireTask 16 = .ok (.invokespecial 159, 3) := by decide +kernel
theorem dX0_requireTask_19 : decode cX0_requireTask 19 = .ok (.athrow, 1) := by decide +kernel
theorem dX0_requireTask_20 : decode cX0_requireTask 20 = .ok (.return_, 1) := by decide +kernel
theorem dX0_requirePriority_0 : decode cX0_requirePriority 0 = .ok (.iload_n 0, 1) := by decide +kernel
theorem dX0_requirePriority_1 : decode cX0_requirePriority 1 = .ok (.iconst 1, 1) := by decide +kernel
theorem dX0_requirePriority_2 : decode cX0_requirePriority 2 = .ok (.if_icmp .lt 10, 3) := by decide +kernel
theorem dX0_requirePriority_5 : decode cX0_requirePriority 5 = .ok (.iload_n 0, 1) := by decide +kernel
theorem dX0_requirePriority_6 : decode cX0_requirePriority 6 = .ok (.sipush 255, 3) := by decide +kernel
theorem dX0_requirePriority_9 : decode cX0_requirePriority 9 = .ok (.if_icmp .le 13, 3) := by decide +kernel
theorem dX0_requirePriority_12 : decode cX0_requirePriority 12 = .ok (.new 89, 3) := by decide +kernel
theorem dX0_requirePriority_15 : decode cX0_requirePriority 15 = .ok (.dup, 1) := by decide +kernel
theorem dX0_requirePriority_16 : decode cX0_requirePriority 16 = .ok (.ldc 160, 2) := by decide +kernel
theorem dX0_requirePriority_18 : decode cX0_requirePriority 18 = .ok (.invokespecial 93, 3) := by decide +kernel
theorem dX0_requirePriority_21 : decode cX0_requirePriority 21 = .ok (.athrow, 1) := by decide +kernel
theorem dX0_requirePriority_22 : decode cX0_requirePriority 22 = .ok (.return_, 1) := by decide +kernel
theorem dX0_requireLock_0 : decode cX0_requireLock 0 = .ok (.iload_n 1, 1) := by decide +kernel
theorem dX0_requireLock_1 : decode cX0_requireLock 1 = .ok (.ifCond .lt 12, 3) := by decide +kernel
theorem dX0_requireLock_4 : decode cX0_requireLock 4 = .ok (.iload_n 1, 1) := by decide +kernel
theorem dX0_requireLock_5 : decode cX0_requireLock 5 = .ok (.aload_n 0, 1) := by decide +kernel
theorem dX0_requireLock_6 : decode cX0_requireLock 6 = .ok (.getfield 38, 3) := by decide +kernel
theorem dX0_requireLock_9 : decode cX0_requireLock 9 = .ok (.arraylength, 1) := by decide +kernel
theorem dX0_requireLock_10 : decode cX0_requireLock 10 = .ok (.if_icmp .lt 13, 3) := by decide +kernel
theorem dX0_requireLock_13 : decode cX0_requireLock 13 = .ok (.new 155, 3) := by decide +kernel
theorem dX0_requireLock_16 : decode cX0_requireLock 16 = .ok (.dup, 1) := by decide +kernel
theorem dX0_requireLock_17 : decode cX0_requireLock 17 = .ok (.ldc 162, 2) := by decide +kernel
theorem dX0_requireLock_19 : decode cX0_requireLock 19 = .ok (.invokespecial 159, 3) := by decide +kernel
theorem dX0_requireLock_22 : decode cX0_requireLock 22 = .ok (.athrow, 1) := by decide +kernel
theorem dX0_requireLock_23 : decode cX0_requireLock 23 = .ok (.return_, 1) := by decide +kernel
theorem dX0_requireCounter_0 : decode cX0_requireCounter 0 = .ok (.iload_n 1, 1) := by decide +kernel
theorem dX0_requireCounter_1 : decode cX0_requireCounter 1 = .ok (.ifCond .lt 12, 3) := by decide +kernel
theorem dX0_requireCounter_4 : decode cX0_requireCounter 4 = .ok (.iload_n 1, 1) := by decide +kernel
theorem dX0_requireCounter_5 : decode cX0_requireCounter 5 = .ok (.aload_n 0, 1) := by decide +kernel
theorem dX0_requireCounter_6 : decode cX0_requireCounter 6 = .ok (.getfield 41, 3) := by decide +kernel
theorem dX0_requireCounter_9 : decode cX0_requireCounter 9 = .ok (.arraylength, 1) := by decide +kernel
theorem dX0_requireCounter_10 : decode cX0_requireCounter 10 = .ok (.if_icmp .lt 13, 3) := by decide +kernel
theorem dX0_requireCounter_13 : decode cX0_requireCounter 13 = .ok (.new 155, 3) := by decide +kernel
theorem dX0_requireCounter_16 : decode cX0_requireCounter 16 = .ok (.dup, 1) := by decide +kernel
theorem dX0_requireCounter_17 : decode cX0_requireCounter 17 = .ok (.ldc 164, 2) := by decide +kernel
theorem dX0_requireCounter_19 : decode cX0_requireCounter 19 = .ok (.invokespecial 159, 3) := by decide +kernel
theorem dX0_requireCounter_22 : decode cX0_requireCounter 22 = .ok (.athrow, 1) := by decide +kernel
theorem dX0_requireCounter_23 : decode cX0_requireCounter 23 = .ok (.return_, 1) := by decide +kernel
theorem dX0_requireBox_0 : decode cX0_requireBox 0 = .ok (.iload_n 1, 1) := by decide +kernel
theorem dX0_requireBox_1 : decode cX0_requireBox 1 = .ok (.ifCond .lt 12, 3) := by decide +kernel
theorem dX0_requireBox_4 : decode cX0_requireBox 4 = .ok (.iload_n 1, 1) := by decide +kernel
theorem dX0_requireBox_5 : decode cX0_requireBox 5 = .ok (.aload_n 0, 1) := by decide +kernel
theorem dX0_requireBox_6 : decode cX0_requireBox 6 = .ok (.getfield 44, 3) := by decide +kernel
theorem dX0_requireBox_9 : decode cX0_requireBox 9 = .ok (.arraylength, 1) := by decide +kernel
theorem dX0_requireBox_10 : decode cX0_requireBox 10 = .ok (.if_icmp .lt 13, 3) := by decide +kernel
theorem dX0_requireBox_13 : decode cX0_requireBox 13 = .ok (.new 155, 3) := by decide +kernel
theorem dX0_requireBox_16 : decode cX0_requireBox 16 = .ok (.dup, 1) := by decide +kernel
theorem dX0_requireBox_17 : decode cX0_requireBox 17 = .ok (.ldc 166, 2) := by decide +kernel
theorem dX0_requireBox_19 : decode cX0_requireBox 19 = .ok (.invokespecial 159, 3) := by decide +kernel
theorem dX0_requireBox_22 : decode cX0_requireBox 22 = .ok (.athrow, 1) := by decide +kernel
theorem dX0_requireBox_23 : decode cX0_requireBox 23 = .ok (.return_, 1) := by decide +kernel
set_option maxRecDepth 20000 in
theorem ggX0_requireRunning_X0_running : GoodIn wsX0_requireRunning wsX0_running := goodIn_r _ [7, 8, 9, 10, 6, 11, 12, 13, 14, 15, 16, 17, 18, 19, 20, 21, 22, 23, 24, 25, 26, 27, 28, 29, 30, 31, 32] (by decide +kernel) (by decide +kernel)
set_option maxRecDepth 20000 in
theorem gX0_requireRunning_X0_running : GoodIn wsX0_requireRunning (wsV RX0 73 RX0 yX0_running wsX0_running) := goodIn_app (goodIn_of _ (by decide +kernel)) ggX0_requireRunning_X0_running
theorem dX0_requireRunning_0 : decode cX0_requireRunning 0 = .ok (.aload_n 0, 1) := by decide +kernel
theorem dX0_requireRunning_1 : decode cX0_requireRunning 1 = .ok (.invokevirtual 73, 3) := by decide +kernel
theorem dX0_requireRunning_4 : decode cX0_requireRunning 4 = .ok (.istore_n 1, 1) := by decide +kernel
theorem dX0_requireRunning_5 : decode cX0_requireRunning 5 = .ok (.iload_n 1, 1) := by decide +kernel
theorem dX0_requireRunning_6 : decode cX0_requireRunning 6 = .ok (.iconst (-1), 1) := by decide +kernel
theorem dX0_requireRunning_7 : decode cX0_requireRunning 7 = .ok (.if_icmp .ne 13, 3) := by decide +kernel
theorem dX0_requireRunning_10 : decode cX0_requireRunning 10 = .ok (.new 60, 3) := by decide +kernel
theorem dX0_requireRunning_13 : decode cX0_requireRunning 13 = .ok (.dup, 1) := by decide +kernel
theorem dX0_requireRunning_14 : decode cX0_requireRunning 14 = .ok (.ldc 168, 2) := by decide +kernel
theorem dX0_requireRunning_16 : decode cX0_requireRunning 16 = .ok (.invokespecial 64, 3) := by decide +kernel
theorem dX0_requireRunning_19 : decode cX0_requireRunning 19 = .ok (.athrow, 1) := by decide +kernel
theorem dX0_requireRunning_20 : decode cX0_requireRunning 20 = .ok (.iload_n 1, 1) := by decide +kernel
theorem dX0_requireRunning_21 : decode cX0_requireRunning 21 = .ok (.ireturn, 1) := by decide +kernel
set_option maxRecDepth 20000 in
theorem ggX0_becomeReady_X0_enter : GoodIn wsX0_becomeReady wsX0_enter := goodIn_r _ [6, 7, 8, 9, 10, 11, 12, 13, 14, 15, 16, 17, 18, 19, 20, 21, 22, 23] (by decide +kernel) (by decide +kernel)
set_option maxRecDepth 20000 in
theorem gX0_becomeReady_X0_enter : GoodIn wsX0_becomeReady (wsV RX0 94 RX0 yX0_enter wsX0_enter) := goodIn_app (goodIn_of _ (by decide +kernel)) ggX0_becomeReady_X0_enter
theorem dX0_becomeReady_0 : decode cX0_becomeReady 0 = .ok (.aload_n 0, 1) := by decide +kernel
theorem dX0_becomeReady_1 : decode cX0_becomeReady 1 = .ok (.iload_n 1, 1) := by decide +kernel
theorem dX0_becomeReady_2 : decode cX0_becomeReady 2 = .ok (.iconst 1, 1) := by decide +kernel
theorem dX0_becomeReady_3 : decode cX0_becomeReady 3 = .ok (.iconst (-1), 1) := by decide +kernel
theorem dX0_becomeReady_4 : decode cX0_becomeReady 4 = .ok (.invokevirtual 94, 3) := by decide +kernel
theorem dX0_becomeReady_7 : decode cX0_becomeReady 7 = .ok (.aload_n 0, 1) := by decide +kernel
theorem dX0_becomeReady_8 : decode cX0_becomeReady 8 = .ok (.getfield 25, 3) := by decide +kernel
theorem dX0_becomeReady_11 : decode cX0_becomeReady 11 = .ok (.iload_n 1, 1) := by decide +kernel
theorem dX0_becomeReady_12 : decode cX0_becomeReady 12 = .ok (.iconst 0, 1) := by decide +kernel
theorem dX0_becomeReady_13 : decode cX0_becomeReady 13 = .ok (.iastore, 1) := by decide +kernel
theorem dX0_becomeReady_14 : decode cX0_becomeReady 14 = .ok (.return_, 1) := by decide +kernel
theorem dX0_enter_0 : decode cX0_enter 0 = .ok (.aload_n 0, 1) := by decide +kernel
theorem dX0_enter_1 : decode cX0_enter 1 = .ok (.getfield 9, 3) := by decide +kernel
theorem dX0_enter_4 : decode cX0_enter 4 = .ok (.iload_n 1, 1) := by decide +kernel
theorem dX0_enter_5 : decode cX0_enter 5 = .ok (.iload_n 2, 1) := by decide +kernel
theorem dX0_enter_6 : decode cX0_enter 6 = .ok (.iastore, 1) := by decide +kernel
theorem dX0_enter_7 : decode cX0_enter 7 = .ok (.aload_n 0, 1) := by decide +kernel
theorem dX0_enter_8 : decode cX0_enter 8 = .ok (.getfield 22, 3) := by decide +kernel
theorem dX0_enter_11 : decode cX0_enter 11 = .ok (.iload_n 1, 1) := by decide +kernel
theorem dX0_enter_12 : decode cX0_enter 12 = .ok (.iload_n 3, 1) := by decide +kernel
theorem dX0_enter_13 : decode cX0_enter 13 = .ok (.iastore, 1) := by decide +kernel
theorem dX0_enter_14 : decode cX0_enter 14 = .ok (.aload_n 0, 1) := by decide +kernel
theorem dX0_enter_15 : decode cX0_enter 15 = .ok (.dup, 1) := by decide +kernel
theorem dX0_enter_16 : decode cX0_enter 16 = .ok (.getfield 143, 3) := by decide +kernel
theorem dX0_enter_19 : decode cX0_enter 19 = .ok (.iconst 1, 1) := by decide +kernel
theorem dX0_enter_20 : decode cX0_enter 20 = .ok (.iadd, 1) := by decide +kernel
theorem dX0_enter_21 : decode cX0_enter 21 = .ok (.putfield 143, 3) := by decide +kernel
theorem dX0_enter_24 : decode cX0_enter 24 = .ok (.aload_n 0, 1) := by decide +kernel
theorem dX0_enter_25 : decode cX0_enter 25 = .ok (.getfield 19, 3) := by decide +kernel
theorem dX0_enter_28 : decode cX0_enter 28 = .ok (.iload_n 1, 1) := by decide +kernel
theorem dX0_enter_29 : decode cX0_enter 29 = .ok (.aload_n 0, 1) := by decide +kernel
theorem dX0_enter_30 : decode cX0_enter 30 = .ok (.getfield 143, 3) := by decide +kernel
theorem dX0_enter_33 : decode cX0_enter 33 = .ok (.iastore, 1) := by decide +kernel
theorem dX0_enter_34 : decode cX0_enter 34 = .ok (.return_, 1) := by decide +kernel
set_option maxRecDepth 20000 in
theorem ggX0_foremost_X0_comesBefore : GoodIn wsX0_foremost wsX0_comesBefore := goodIn_r _ [7, 8, 9, 10, 11, 12, 13, 14, 15, 16, 17, 18, 19, 20, 21, 22] (by decide +kernel) (by decide +kernel)
set_option maxRecDepth 20000 in
theorem gX0_foremost_X0_comesBefore : GoodIn wsX0_foremost (wsV RX0 170 RX0 yX0_comesBefore wsX0_comesBefore) := goodIn_app (goodIn_of _ (by decide +kernel)) ggX0_foremost_X0_comesBefore
theorem dX0_foremost_0 : decode cX0_foremost 0 = .ok (.iconst (-1), 1) := by decide +kernel
theorem dX0_foremost_1 : decode cX0_foremost 1 = .ok (.istore_n 3, 1) := by decide +kernel
theorem dX0_foremost_2 : decode cX0_foremost 2 = .ok (.iconst 0, 1) := by decide +kernel
theorem dX0_foremost_3 : decode cX0_foremost 3 = .ok (.istore 4, 2) := by decide +kernel
theorem dX0_foremost_5 : decode cX0_foremost 5 = .ok (.iload 4, 2) := by decide +kernel
theorem dX0_foremost_7 : decode cX0_foremost 7 = .ok (.bipush 16, 2) := by decide +kernel
theorem dX0_foremost_9 : decode cX0_foremost 9 = .ok (.if_icmp .ge 49, 3) := by decide +kernel
theorem dX0_foremost_12 : decode cX0_foremost 12 = .ok (.aload_n 0, 1) := by decide +kernel
theorem dX0_foremost_13 : decode cX0_foremost 13 = .ok (.getfield 9, 3) := by decide +kernel
theorem dX0_foremost_16 : decode cX0_foremost 16 = .ok (.iload 4, 2) := by decide +kernel
theorem dX0_foremost_18 : decode cX0_foremost 18 = .ok (.iaload, 1) := by decide +kernel
theorem dX0_foremost_19 : decode cX0_foremost 19 = .ok (.iload_n 1, 1) := by decide +kernel
theorem dX0_foremost_20 : decode cX0_foremost 20 = .ok (.if_icmp .ne 32, 3) := by decide +kernel
theorem dX0_foremost_23 : decode cX0_foremost 23 = .ok (.aload_n 0, 1) := by decide +kernel
theorem dX0_foremost_24 : decode cX0_foremost 24 = .ok (.getfield 22, 3) := by decide +kernel
theorem dX0_foremost_27 : decode cX0_foremost 27 = .ok (.iload 4, 2) := by decide +kernel
theorem dX0_foremost_29 : decode cX0_foremost 29 = .ok (.iaload, 1) := by decide +kernel
theorem dX0_foremost_30 : decode cX0_foremost 30 = .ok (.iload_n 2, 1) := by decide +kernel
theorem dX0_foremost_31 : decode cX0_foremost 31 = .ok (.if_icmp .ne 21, 3) := by decide +kernel
theorem dX0_foremost_34 : decode cX0_foremost 34 = .ok (.iload_n 3, 1) := by decide +kernel
theorem dX0_foremost_35 : decode cX0_foremost 35 = .ok (.iconst (-1), 1) := by decide +kernel
theorem dX0_foremost_36 : decode cX0_foremost 36 = .ok (.if_icmp .eq 13, 3) := by decide +kernel
theorem dX0_foremost_39 : decode cX0_foremost 39 = .ok (.aload_n 0, 1) := by decide +kernel
theorem dX0_foremost_40 : decode cX0_foremost 40 = .ok (.iload 4, 2) := by decide +kernel
theorem dX0_foremost_42 : decode cX0_foremost 42 = .ok (.iload_n 3, 1) := by decide +kernel
theorem dX0_foremost_43 : decode cX0_foremost 43 = .ok (.invokevirtual 170, 3) := by decide +kernel
theorem dX0_foremost_46 : decode cX0_foremost 46 = .ok (.ifCond .eq 6, 3) := by decide +kernel
theorem dX0_foremost_49 : decode cX0_foremost 49 = .ok (.iload 4, 2) := by decide +kernel
theorem dX0_foremost_51 : decode cX0_foremost 51 = .ok (.istore_n 3, 1) := by decide +kernel
theorem dX0_foremost_52 : decode cX0_foremost 52 = .ok (.iinc 4 1, 3) := by decide +kernel
theorem dX0_foremost_55 : decode cX0_foremost 55 = .ok (.goto (-50), 3) := by decide +kernel
theorem dX0_foremost_58 : decode cX0_foremost 58 = .ok (.iload_n 3, 1) := by decide +kernel
theorem dX0_foremost_59 : decode cX0_foremost 59 = .ok (.ireturn, 1) := by decide +kernel
theorem dX0_comesBefore_0 : decode cX0_comesBefore 0 = .ok (.aload_n 0, 1) := by decide +kernel
theorem dX0_comesBefore_1 : decode cX0_comesBefore 1 = .ok (.getfield 16, 3) := by decide +kernel
theorem dX0_comesBefore_4 : decode cX0_comesBefore 4 = .ok (.iload_n 1, 1) := by decide +kernel
theorem dX0_comesBefore_5 : decode cX0_comesBefore 5 = .ok (.iaload, 1) := by decide +kernel
theorem dX0_comesBefore_6 : decode cX0_comesBefore 6 = .ok (.aload_n 0, 1) := by decide +kernel
theorem dX0_comesBefore_7 : decode cX0_comesBefore 7 = .ok (.getfield 16, 3) := by decide +kernel
theorem dX0_comesBefore_10 : decode cX0_comesBefore 10 = .ok (.iload_n 2, 1) := by decide +kernel
theorem dX0_comesBefore_11 : decode cX0_comesBefore 11 = .ok (.iaload, 1) := by decide +kernel
theorem dX0_comesBefore_12 : decode cX0_comesBefore 12 = .ok (.if_icmp .eq 24, 3) := by decide +kernel
theorem dX0_comesBefore_15 : decode cX0_comesBefore 15 = .ok (.aload_n 0, 1) := by decide +kernel
theorem dX0_comesBefore_16 : decode cX0_comesBefore 16 = .ok (.getfield 16, 3) := by decide +kernel
theorem dX0_comesBefore_19 : decode cX0_comesBefore 19 = .ok (.iload_n 1, 1) := by decide +kernel
theorem dX0_comesBefore_20 : decode cX0_comesBefore 20 = .ok (.iaload, 1) := by decide +kernel
theorem dX0_comesBefore_21 : decode cX0_comesBefore 21 = .ok (.aload_n 0, 1) := by decide +kernel
theorem dX0_comesBefore_22 : decode cX0_comesBefore 22 = .ok (.getfield 16, 3) := by decide +kernel
theorem dX0_comesBefore_25 : decode cX0_comesBefore 25 = .ok (.iload_n 2, 1) := by decide +kernel
theorem dX0_comesBefore_26 : decode cX0_comesBefore 26 = .ok (.iaload, 1) := by decide +kernel
theorem dX0_comesBefore_27 : decode cX0_comesBefore 27 = .ok (.if_icmp .le 7, 3) := by decide +kernel
theorem dX0_comesBefore_30 : decode cX0_comesBefore 30 = .ok (.iconst 1, 1) := by decide +kernel
theorem dX0_comesBefore_31 : decode cX0_comesBefore 31 = .ok (.goto 4, 3) := by decide +kernel
theorem dX0_comesBefore_34 : decode cX0_comesBefore 34 = .ok (.iconst 0, 1) := by decide +kernel
theorem dX0_comesBefore_35 : decode cX0_comesBefore 35 = .ok (.ireturn, 1) := by decide +kernel
theorem dX0_comesBefore_36 : decode cX0_comesBefore 36 = .ok (.aload_n 0, 1) := by decide +kernel
theorem dX0_comesBefore_37 : decode cX0_comesBefore 37 = .ok (.getfield 19, 3) := by decide +kernel
theorem dX0_comesBefore_40 : decode cX0_comesBefore 40 = .ok (.iload_n 1, 1) := by decide +kernel
theorem dX0_comesBefore_41 : decode cX0_comesBefore 41 = .ok (.iaload, 1) := by decide +kernel
theorem dX0_comesBefore_42 : decode cX0_comesBefore 42 = .ok (.aload_n 0, 1) := by decide +kernel
theorem dX0_comesBefore_43 : decode cX0_comesBefore 43 = .ok (.getfield 19, 3) := by decide +kernel
theorem dX0_comesBefore_46 : decode cX0_comesBefore 46 = .ok (.iload_n 2, 1) := by decide +kernel
theorem dX0_comesBefore_47 : decode cX0_comesBefore 47 = .ok (.iaload, 1) := by decide +kernel
theorem dX0_comesBefore_48 : decode cX0_comesBefore 48 = .ok (.if_icmp .ge 7, 3) := by decide +kernel
theorem dX0_comesBefore_51 : decode cX0_comesBefore 51 = .ok (.iconst 1, 1) := by decide +kernel
theorem dX0_comesBefore_52 : decode cX0_comesBefore 52 = .ok (.goto 4, 3) := by decide +kernel
theorem dX0_comesBefore_55 : decode cX0_comesBefore 55 = .ok (.iconst 0, 1) := by decide +kernel
theorem dX0_comesBefore_56 : decode cX0_comesBefore 56 = .ok (.ireturn, 1) := by decide +kernel
set_option maxRecDepth 20000 in
theorem ggX0_settlePriorities_X0_passOnBase : GoodIn wsX0_settlePriorities wsX0_passOnBase := goodIn_r _ [11, 2, 1, 12, 13, 14, 15, 16, 17, 18, 10, 19, 20, 21, 22, 23, 24, 25, 26, 27, 28, 29, 30, 31, 32, 33, 34, 35] (by decide +kernel) (by decide +kernel)
set_option maxRecDepth 20000 in
theorem gX0_settlePriorities_X0_passOnBase : GoodIn wsX0_settlePriorities (wsV RX0 179 RX0 yX0_passOnBase wsX0_passOnBase) := goodIn_app (goodIn_of _ (by decide +kernel)) ggX0_settlePriorities_X0_passOnBase
theorem dX0_settlePriorities_0 : decode cX0_settlePriorities 0 = .ok (.aload_n 0, 1) := by decide +kernel
theorem dX0_settlePriorities_1 : decode cX0_settlePriorities 1 = .ok (.getfield 13, 3) := by decide +kernel
theorem dX0_settlePriorities_4 : decode cX0_settlePriorities 4 = .ok (.iconst 0, 1) := by decide +kernel
theorem dX0_settlePriorities_5 : decode cX0_settlePriorities 5 = .ok (.aload_n 0, 1) := by decide +kernel
theorem dX0_settlePriorities_6 : decode cX0_settlePriorities 6 = .ok (.getfield 16, 3) := by decide +kernel
theorem dX0_settlePriorities_9 : decode cX0_settlePriorities 9 = .ok (.iconst 0, 1) := by decide +kernel
theorem dX0_settlePriorities_10 : decode cX0_settlePriorities 10 = .ok (.bipush 16, 2) := by decide +kernel
theorem dX0_settlePriorities_12 : decode cX0_settlePriorities 12 = .ok (.invokestatic 173, 3) := by decide +kernel
theorem dX0_settlePriorities_15 : decode cX0_settlePriorities 15 = .ok (.iconst 0, 1) := by decide +kernel
theorem dX0_settlePriorities_16 : decode cX0_settlePriorities 16 = .ok (.istore_n 1, 1) := by decide +kernel
theorem dX0_settlePriorities_17 : decode cX0_settlePriorities 17 = .ok (.iload_n 1, 1) := by decide +kernel
theorem dX0_settlePriorities_18 : decode cX0_settlePriorities 18 = .ok (.bipush 16, 2) := by decide +kernel
theorem dX0_settlePriorities_20 : decode cX0_settlePriorities 20 = .ok (.if_icmp .ge 14, 3) := by decide +kernel
theorem dX0_settlePriorities_23 : decode cX0_settlePriorities 23 = .ok (.aload_n 0, 1) := by decide +kernel
theorem dX0_settlePriorities_24 : decode cX0_settlePriorities 24 = .ok (.iload_n 1, 1) := by decide +kernel
theorem dX0_settlePriorities_25 : decode cX0_settlePriorities 25 = .ok (.invokevirtual 179, 3) := by decide +kernel
theorem dX0_settlePriorities_28 : decode cX0_settlePriorities 28 = .ok (.iinc 1 1, 3) := by decide +kernel
theorem dX0_settlePriorities_31 : decode cX0_settlePriorities 31 = .ok (.goto (-14), 3) := by decide +kernel
theorem dX0_settlePriorities_34 : decode cX0_settlePriorities 34 = .ok (.return_, 1) := by decide +kernel
set_option maxRecDepth 20000 in
theorem ggX0_passOnBase_X0_holderAheadOf : GoodIn wsX0_passOnBase wsX0_holderAheadOf := goodIn_r _ [11, 12, 13, 14, 15, 16, 17, 18, 19, 20, 21, 22, 23, 24, 25, 26, 27] (by decide +kernel) (by decide +kernel)
set_option maxRecDepth 20000 in
theorem gX0_passOnBase_X0_holderAheadOf : GoodIn wsX0_passOnBase (wsV RX0 182 RX0 yX0_holderAheadOf wsX0_holderAheadOf) := goodIn_app (goodIn_of _ (by decide +kernel)) ggX0_passOnBase_X0_holderAheadOf
theorem dX0_passOnBase_0 : decode cX0_passOnBase 0 = .ok (.aload_n 0, 1) := by decide +kernel
theorem dX0_passOnBase_1 : decode cX0_passOnBase 1 = .ok (.iload_n 1, 1) := by decide +kernel
theorem dX0_passOnBase_2 : decode cX0_passOnBase 2 = .ok (.invokevirtual 182, 3) := by decide +kernel
theorem dX0_passOnBase_5 : decode cX0_passOnBase 5 = .ok (.istore_n 2, 1) := by decide +kernel
theorem dX0_passOnBase_6 : decode cX0_passOnBase 6 = .ok (.iconst 0, 1) := by decide +kernel
theorem dX0_passOnBase_7 : decode cX0_passOnBase 7 = .ok (.istore_n 3, 1) := by decide +kernel
theorem dX0_passOnBase_8 : decode cX0_passOnBase 8 = .ok (.iload_n 3, 1) := by decide +kernel
theorem dX0_passOnBase_9 : decode cX0_passOnBase 9 = .ok (.bipush 16, 2) := by decide +kernel
theorem dX0_passOnBase_11 : decode cX0_passOnBase 11 = .ok (.if_icmp .ge 41, 3) := by decide +kernel
theorem dX0_passOnBase_14 : decode cX0_passOnBase 14 = .ok (.iload_n 2, 1) := by decide +kernel
theorem dX0_passOnBase_15 : decode cX0_passOnBase 15 = .ok (.iconst (-1), 1) := by decide +kernel
theorem dX0_passOnBase_16 : decode cX0_passOnBase 16 = .ok (.if_icmp .eq 36, 3) := by decide +kernel
theorem dX0_passOnBase_19 : decode cX0_passOnBase 19 = .ok (.aload_n 0, 1) := by decide +kernel
theorem dX0_passOnBase_20 : decode cX0_passOnBase 20 = .ok (.getfield 16, 3) := by decide +kernel
theorem dX0_passOnBase_23 : decode cX0_passOnBase 23 = .ok (.iload_n 2, 1) := by decide +kernel
theorem dX0_passOnBase_24 : decode cX0_passOnBase 24 = .ok (.aload_n 0, 1) := by decide +kernel
theorem dX0_passOnBase_25 : decode cX0_passOnBase 25 = .ok (.getfield 16, 3) := by decide +kernel
theorem dX0_passOnBase_28 : decode cX0_passOnBase 28 = .ok (.iload_n 2, 1) := by decide +kernel
theorem dX0_passOnBase_29 : decode cX0_passOnBase 29 = .ok (.iaload, 1) := by decide +kernel
theorem dX0_passOnBase_30 : decode cX0_passOnBase 30 = .ok (.aload_n 0, 1) := by decide +kernel
theorem dX0_passOnBase_31 : decode cX0_passOnBase 31 = .ok (.getfield 13, 3) := by decide +kernel
theorem dX0_passOnBase_34 : decode cX0_passOnBase 34 = .ok (.iload_n 1, 1) := by decide +kernel
theorem dX0_passOnBase_35 : decode cX0_passOnBase 35 = .ok (.iaload, 1) := by decide +kernel
theorem dX0_passOnBase_36 : decode cX0_passOnBase 36 = .ok (.invokestatic 152, 3) := by decide +kernel
theorem dX0_passOnBase_39 : decode cX0_passOnBase 39 = .ok (.iastore, 1) := by decide +kernel
theorem dX0_passOnBase_40 : decode cX0_passOnBase 40 = .ok (.aload_n 0, 1) := by decide +kernel
theorem dX0_passOnBase_41 : decode cX0_passOnBase 41 = .ok (.iload_n 2, 1) := by decide +kernel
theorem dX0_passOnBase_42 : decode cX0_passOnBase 42 = .ok (.invokevirtual 182, 3) := by decide +kernel
theorem dX0_passOnBase_45 : decode cX0_passOnBase 45 = .ok (.istore_n 2, 1) := by decide +kernel
theorem dX0_passOnBase_46 : decode cX0_passOnBase 46 = .ok (.iinc 3 1, 3) := by decide +kernel
theorem dX0_passOnBase_49 : decode cX0_passOnBase 49 = .ok (.goto (-41), 3) := by decide +kernel
theorem dX0_passOnBase_52 : decode cX0_passOnBase 52 = .ok (.return_, 1) := by decide +kernel
set_option maxRecDepth 20000 in
theorem ggX0_wouldWaitForItself_X0_holderAheadOf : GoodIn wsX0_wouldWaitForItself wsX0_holderAheadOf := goodIn_r _ [6, 7, 8, 1, 9, 10, 11, 12, 13, 14, 15, 16, 17, 18, 19, 20, 21] (by decide +kernel) (by decide +kernel)
set_option maxRecDepth 20000 in
theorem gX0_wouldWaitForItself_X0_holderAheadOf : GoodIn wsX0_wouldWaitForItself (wsV RX0 182 RX0 yX0_holderAheadOf wsX0_holderAheadOf) := goodIn_app (goodIn_of _ (by decide +kernel)) ggX0_wouldWaitForItself_X0_holderAheadOf
theorem dX0_wouldWaitForItself_0 : decode cX0_wouldWaitForItself 0 = .ok (.aload_n 0, 1) := by decide +kernel
theorem dX0_wouldWaitForItself_1 : decode cX0_wouldWaitForItself 1 = .ok (.getfield 38, 3) := by decide +kernel
theorem dX0_wouldWaitForItself_4 : decode cX0_wouldWaitForItself 4 = .ok (.iload_n 2, 1) := by decide +kernel
theorem dX0_wouldWaitForItself_5 : decode cX0_wouldWaitForItself 5 = .ok (.iaload, 1) := by decide +kernel
theorem dX0_wouldWaitForItself_6 : decode cX0_wouldWaitForItself 6 = .ok (.istore_n 3, 1) := by decide +kernel
theorem dX0_wouldWaitForItself_7 : decode cX0_wouldWaitForItself 7 = .ok (.iconst 0, 1) := by decide +kernel
theorem dX0_wouldWaitForItself_8 : decode cX0_wouldWaitForItself 8 = .ok (.istore 4, 2) := by decide +kernel
theorem dX0_wouldWaitForItself_10 : decode cX0_wouldWaitForItself 10 = .ok (.iload 4, 2) := by decide +kernel
theorem dX0_wouldWaitForItself_12 : decode cX0_wouldWaitForItself 12 = .ok (.bipush 16, 2) := by decide +kernel
theorem dX0_wouldWaitForItself_14 : decode cX0_wouldWaitForItself 14 = .ok (.if_icmp .ge 27, 3) := by decide +kernel
theorem dX0_wouldWaitForItself_17 : decode cX0_wouldWaitForItself 17 = .ok (.iload_n 3, 1) := by decide +kernel
theorem dX0_wouldWaitForItself_18 : decode cX0_wouldWaitForItself 18 = .ok (.iconst (-1), 1) := by decide +kernel
theorem dX0_wouldWaitForItself_19 : decode cX0_wouldWaitForItself 19 = .ok (.if_icmp .eq 22, 3) := by decide +kernel
theorem dX0_wouldWaitForItself_22 : decode cX0_wouldWaitForItself 22 = .ok (.iload_n 3, 1) := by decide +kernel
theorem dX0_wouldWaitForItself_23 : decode cX0_wouldWaitForItself 23 = .ok (.iload_n 1, 1) := by decide +kernel
theorem dX0_wouldWaitForItself_24 : decode cX0_wouldWaitForItself 24 = .ok (.if_icmp .ne 5, 3) := by decide +kernel
theorem dX0_wouldWaitForItself_27 : decode cX0_wouldWaitForItself 27 = .ok (.iconst 1, 1) := by decide +kernel
theorem dX0_wouldWaitForItself_28 : decode cX0_wouldWaitForItself 28 = .ok (.ireturn, 1) := by decide +kernel
theorem dX0_wouldWaitForItself_29 : decode cX0_wouldWaitForItself 29 = .ok (.aload_n 0, 1) := by decide +kernel
theorem dX0_wouldWaitForItself_30 : decode cX0_wouldWaitForItself 30 = .ok (.iload_n 3, 1) := by decide +kernel
theorem dX0_wouldWaitForItself_31 : decode cX0_wouldWaitForItself 31 = .ok (.invokevirtual 182, 3) := by decide +kernel
theorem dX0_wouldWaitForItself_34 : decode cX0_wouldWaitForItself 34 = .ok (.istore_n 3, 1) := by decide +kernel
theorem dX0_wouldWaitForItself_35 : decode cX0_wouldWaitForItself 35 = .ok (.iinc 4 1, 3) := by decide +kernel
theorem dX0_wouldWaitForItself_38 : decode cX0_wouldWaitForItself 38 = .ok (.goto (-28), 3) := by decide +kernel
theorem dX0_wouldWaitForItself_41 : decode cX0_wouldWaitForItself 41 = .ok (.iconst 0, 1) := by decide +kernel
theorem dX0_wouldWaitForItself_42 : decode cX0_wouldWaitForItself 42 = .ok (.ireturn, 1) := by decide +kernel
theorem dX0_holderAheadOf_0 : decode cX0_holderAheadOf 0 = .ok (.aload_n 0, 1) := by decide +kernel
theorem dX0_holderAheadOf_1 : decode cX0_holderAheadOf 1 = .ok (.getfield 9, 3) := by decide +kernel
theorem dX0_holderAheadOf_4 : decode cX0_holderAheadOf 4 = .ok (.iload_n 1, 1) := by decide +kernel
theorem dX0_holderAheadOf_5 : decode cX0_holderAheadOf 5 = .ok (.iaload, 1) := by decide +kernel
theorem dX0_holderAheadOf_6 : decode cX0_holderAheadOf 6 = .ok (.iconst 2, 1) := by decide +kernel
theorem dX0_holderAheadOf_7 : decode cX0_holderAheadOf 7 = .ok (.if_icmp .eq 5, 3) := by decide +kernel
theorem dX0_holderAheadOf_10 : decode cX0_holderAheadOf 10 = .ok (.iconst (-1), 1) := by decide +kernel
theorem dX0_holderAheadOf_11 : decode cX0_holderAheadOf 11 = .ok (.ireturn, 1) := by decide +kernel
theorem dX0_holderAheadOf_12 : decode cX0_holderAheadOf 12 = .ok (.aload_n 0, 1) := by decide +kernel
theorem dX0_holderAheadOf_13 : decode cX0_holderAheadOf 13 = .ok (.getfield 22, 3) := by decide +kernel
theorem dX0_holderAheadOf_16 : decode cX0_holderAheadOf 16 = .ok (.iload_n 1, 1) := by decide +kernel
theorem dX0_holderAheadOf_17 : decode cX0_holderAheadOf 17 = .ok (.iaload, 1) := by decide +kernel
theorem dX0_holderAheadOf_18 : decode cX0_holderAheadOf 18 = .ok (.istore_n 2, 1) := by decide +kernel
theorem dX0_holderAheadOf_19 : decode cX0_holderAheadOf 19 = .ok (.iload_n 2, 1) := by decide +kernel
theorem dX0_holderAheadOf_20 : decode cX0_holderAheadOf 20 = .ok (.ifCond .lt 21, 3) := by decide +kernel
theorem dX0_holderAheadOf_23 : decode cX0_holderAheadOf 23 = .ok (.iload_n 2, 1) := by decide +kernel
theorem dX0_holderAheadOf_24 : decode cX0_holderAheadOf 24 = .ok (.aload_n 0, 1) := by decide +kernel
theorem dX0_holderAheadOf_25 : decode cX0_holderAheadOf 25 = .ok (.getfield 38, 3) := by decide +kernel
theorem dX0_holderAheadOf_28 : decode cX0_holderAheadOf 28 = .ok (.arraylength, 1) := by decide +kernel
theorem dX0_holderAheadOf_29 : decode cX0_holderAheadOf 29 = .ok (.if_icmp .ge 12, 3) := by decide +kernel
theorem dX0_holderAheadOf_32 : decode cX0_holderAheadOf 32 = .ok (.aload_n 0, 1) := by decide +kernel
theorem dX0_holderAheadOf_33 : decode cX0_holderAheadOf 33 = .ok (.getfield 38, 3) := by decide +kernel
theorem dX0_holderAheadOf_36 : decode cX0_holderAheadOf 36 = .ok (.iload_n 2, 1) := by decide +kernel
theorem dX0_holderAheadOf_37 : decode cX0_holderAheadOf 37 = .ok (.iaload, 1) := by decide +kernel
theorem dX0_holderAheadOf_38 : decode cX0_holderAheadOf 38 = .ok (.goto 4, 3) := by decide +kernel
theorem dX0_holderAheadOf_41 : decode cX0_holderAheadOf 41 = .ok (.iconst (-1), 1) := by decide +kernel
theorem dX0_holderAheadOf_42 : decode cX0_holderAheadOf 42 = .ok (.ireturn, 1) := by decide +kernel
theorem dX0_locksOwnedBy_0 : decode cX0_locksOwnedBy 0 = .ok (.iconst 0, 1) := by decide +kernel
theorem dX0_locksOwnedBy_1 : decode cX0_locksOwnedBy 1 = .ok (.istore_n 2, 1) := by decide +kernel
theorem dX0_locksOwnedBy_2 : decode cX0_locksOwnedBy 2 = .ok (.aload_n 0, 1) := by decide +kernel
theorem dX0_locksOwnedBy_3 : decode cX0_locksOwnedBy 3 = .ok (.getfield 38, 3) := by decide +kernel
theorem dX0_locksOwnedBy_6 : decode cX0_locksOwnedBy 6 = .ok (.astore_n 3, 1) := by decide +kernel
theorem dX0_locksOwnedBy_7 : decode cX0_locksOwnedBy 7 = .ok (.aload_n 3, 1) := by decide +kernel
theorem dX0_locksOwnedBy_8 : decode cX0_locksOwnedBy 8 = .ok (.arraylength, 1) := by decide +kernel
theorem dX0_locksOwnedBy_9 : decode cX0_locksOwnedBy 9 = .ok (.istore 4, 2) := by decide +kernel
theorem dX0_locksOwnedBy_11 : decode cX0_locksOwnedBy 11 = .ok (.iconst 0, 1) := by decide +kernel
theorem dX0_locksOwnedBy_12 : decode cX0_locksOwnedBy 12 = .ok (.istore 5, 2) := by decide +kernel
theorem dX0_locksOwnedBy_14 : decode cX0_locksOwnedBy 14 = .ok (.iload 5, 2) := by decide +kernel
theorem dX0_locksOwnedBy_16 : decode cX0_locksOwnedBy 16 = .ok (.iload 4, 2) := by decide +kernel
theorem dX0_locksOwnedBy_18 : decode cX0_locksOwnedBy 18 = .ok (.if_icmp .ge 24, 3) := by decide +kernel
theorem dX0_locksOwnedBy_21 : decode cX0_locksOwnedBy 21 = .ok (.aload_n 3, 1) := by decide +kernel
theorem dX0_locksOwnedBy_22 : decode cX0_locksOwnedBy 22 = .ok (.iload 5, 2) := by decide +kernel
theorem dX0_locksOwnedBy_24 : decode cX0_locksOwnedBy 24 = .ok (.iaload, 1) := by decide +kernel
theorem dX0_locksOwnedBy_25 : decode cX0_locksOwnedBy 25 = .ok (.istore 6, 2) := by decide +kernel
theorem dX0_locksOwnedBy_27 : decode cX0_locksOwnedBy 27 = .ok (.iload 6, 2) := by decide +kernel
theorem dX0_locksOwnedBy_29 : decode cX0_locksOwnedBy 29 = .ok (.iload_n 1, 1) := by decide +kernel
theorem dX0_locksOwnedBy_30 : decode cX0_locksOwnedBy 30 = .ok (.if_icmp .ne 6, 3) := by decide +kernel
theorem dX0_locksOwnedBy_33 : decode cX0_locksOwnedBy 33 = .ok (.iinc 2 1, 3) := by decide +kernel
theorem dX0_locksOwnedBy_36 : decode cX0_locksOwnedBy 36 = .ok (.iinc 5 1, 3) := by decide +kernel
theorem dX0_locksOwnedBy_39 : decode cX0_locksOwnedBy 39 = .ok (.goto (-25), 3) := by decide +kernel
theorem dX0_locksOwnedBy_42 : decode cX0_locksOwnedBy 42 = .ok (.iload_n 2, 1) := by decide +kernel
theorem dX0_locksOwnedBy_43 : decode cX0_locksOwnedBy 43 = .ok (.ireturn, 1) := by decide +kernel
theorem dX0_putBehind_0 : decode cX0_putBehind 0 = .ok (.aload_n 0, 1) := by decide +kernel
theorem dX0_putBehind_1 : decode cX0_putBehind 1 = .ok (.getfield 44, 3) := by decide +kernel
theorem dX0_putBehind_4 : decode cX0_putBehind 4 = .ok (.iload_n 1, 1) := by decide +kernel
theorem dX0_putBehind_5 : decode cX0_putBehind 5 = .ok (.iaload, 1) := by decide +kernel
theorem dX0_putBehind_6 : decode cX0_putBehind 6 = .ok (.istore_n 3, 1) := by decide +kernel
theorem dX0_putBehind_7 : decode cX0_putBehind 7 = .ok (.iload_n 3, 1) := by decide +kernel
theorem dX0_putBehind_8 : decode cX0_putBehind 8 = .ok (.iconst 4, 1) := by decide +kernel
theorem dX0_putBehind_9 : decode cX0_putBehind 9 = .ok (.if_icmp .lt 5, 3) := by decide +kernel
theorem dX0_putBehind_12 : decode cX0_putBehind 12 = .ok (.iconst 0, 1) := by decide +kernel
theorem dX0_putBehind_13 : decode cX0_putBehind 13 = .ok (.ireturn, 1) := by decide +kernel
theorem dX0_putBehind_14 : decode cX0_putBehind 14 = .ok (.aload_n 0, 1) := by decide +kernel
theorem dX0_putBehind_15 : decode cX0_putBehind 15 = .ok (.getfield 47, 3) := by decide +kernel
theorem dX0_putBehind_18 : decode cX0_putBehind 18 = .ok (.iload_n 1, 1) := by decide +kernel
theorem dX0_putBehind_19 : decode cX0_putBehind 19 = .ok (.iconst 4, 1) := by decide +kernel
theorem dX0_putBehind_20 : decode cX0_putBehind 20 = .ok (.imul, 1) := by decide +kernel
theorem dX0_putBehind_21 : decode cX0_putBehind 21 = .ok (.iload_n 3, 1) := by decide +kernel
theorem dX0_putBehind_22 : decode cX0_putBehind 22 = .ok (.iadd, 1) := by decide +kernel
theorem dX0_putBehind_23 : decode cX0_putBehind 23 = .ok (.iload_n 2, 1) := by decide +kernel
theorem dX0_putBehind_24 : decode cX0_putBehind 24 = .ok (.iastore, 1) := by decide +kernel
theorem dX0_putBehind_25 : decode cX0_putBehind 25 = .ok (.aload_n 0, 1) := by decide +kernel
theorem dX0_putBehind_26 : decode cX0_putBehind 26 = .ok (.getfield 44, 3) := by decide +kernel
theorem dX0_putBehind_29 : decode cX0_putBehind 29 = .ok (.iload_n 1, 1) := by decide +kernel
theorem dX0_putBehind_30 : decode cX0_putBehind 30 = .ok (.iload_n 3, 1) := by decide +kernel
theorem dX0_putBehind_31 : decode cX0_putBehind 31 = .ok (.iconst 1, 1) := by decide +kernel
theorem dX0_putBehind_32 : decode cX0_putBehind 32 = .ok (.iadd, 1) := by decide +kernel
theorem dX0_putBehind_33 : decode cX0_putBehind 33 = .ok (.iastore, 1) := by decide +kernel
theorem dX0_putBehind_34 : decode cX0_putBehind 34 = .ok (.iconst 1, 1) := by decide +kernel
theorem dX0_putBehind_35 : decode cX0_putBehind 35 = .ok (.ireturn, 1) := by decide +kernel
theorem dX0_takeFront_0 : decode cX0_takeFront 0 = .ok (.iload_n 1, 1) := by decide +kernel
theorem dX0_takeFront_1 : decode cX0_takeFront 1 = .ok (.iconst 4, 1) := by decide +kernel
theorem dX0_takeFront_2 : decode cX0_takeFront 2 = .ok (.imul, 1) := by decide +kernel
theorem dX0_takeFront_3 : decode cX0_takeFront 3 = .ok (.istore_n 2, 1) := by decide +kernel
theorem dX0_takeFront_4 : decode cX0_takeFront 4 = .ok (.aload_n 0, 1) := by decide +kernel
theorem dX0_takeFront_5 : decode cX0_takeFront 5 = .ok (.getfield 47, 3) := by decide +kernel
theorem dX0_takeFront_8 : decode cX0_takeFront 8 = .ok (.iload_n 2, 1) := by decide +kernel
theorem dX0_takeFront_9 : decode cX0_takeFront 9 = .ok (.iaload, 1) := by decide +kernel
theorem dX0_takeFront_10 : decode cX0_takeFront 10 = .ok (.istore_n 3, 1) := by decide +kernel
theorem dX0_takeFront_11 : decode cX0_takeFront 11 = .ok (.aload_n 0, 1) := by decide +kernel
theorem dX0_takeFront_12 : decode cX0_takeFront 12 = .ok (.getfield 47, 3) := by decide +kernel
theorem dX0_takeFront_15 : decode cX0_takeFront 15 = .ok (.iload_n 2, 1) := by decide +kernel
theorem dX0_takeFront_16 : decode cX0_takeFront 16 = .ok (.iconst 1, 1) := by decide +kernel
theorem dX0_takeFront_17 : decode cX0_takeFront 17 = .ok (.iadd, 1) := by decide +kernel
theorem dX0_takeFront_18 : decode cX0_takeFront 18 = .ok (.aload_n 0, 1) := by decide +kernel
theorem dX0_takeFront_19 : decode cX0_takeFront 19 = .ok (.getfield 47, 3) := by decide +kernel
theorem dX0_takeFront_22 : decode cX0_takeFront 22 = .ok (.iload_n 2, 1) := by decide +kernel
theorem dX0_takeFront_23 : decode cX0_takeFront 23 = .ok (.iconst 3, 1) := by decide +kernel
theorem dX0_takeFront_24 : decode cX0_takeFront 24 = .ok (.invokestatic 173, 3) := by decide +kernel
theorem dX0_takeFront_27 : decode cX0_takeFront 27 = .ok (.aload_n 0, 1) := by decide +kernel
theorem dX0_takeFront_28 : decode cX0_takeFront 28 = .ok (.getfield 44, 3) := by decide +kernel
theorem dX0_takeFront_31 : decode cX0_takeFront 31 = .ok (.iload_n 1, 1) := by decide +kernel
theorem dX0_takeFront_32 : decode cX0_takeFront 32 = .ok (.dup2, 1) := by decide +kernel
theorem dX0_takeFront_33 : decode cX0_takeFront 33 = .ok (.iaload, 1) := by decide +kernel
theorem dX0_takeFront_34 : decode cX0_takeFront 34 = .ok (.iconst 1, 1) := by decide +kernel
theorem dX0_takeFront_35 : decode cX0_takeFront 35 = .ok (.isub, 1) := by decide +kernel
theorem dX0_takeFront_36 : decode cX0_takeFront 36 = .ok (.iastore, 1) := by decide +kernel
theorem dX0_takeFront_37 : decode cX0_takeFront 37 = .ok (.iload_n 3, 1) := by decide +kernel
theorem dX0_takeFront_38 : decode cX0_takeFront 38 = .ok (.ireturn, 1) := by decide +kernel
set_option maxRecDepth 20000 in
theorem ggX0_wakeWithin_X0_soonestSleeper : GoodIn wsX0_wakeWithin wsX0_soonestSleeper := goodIn_r _ [6, 7, 1, 19, 20, 21, 22, 23, 24, 25, 26, 27, 28, 29, 30, 31] (by decide +kernel) (by decide +kernel)
set_option maxRecDepth 20000 in
theorem gX0_wakeWithin_X0_soonestSleeper : GoodIn wsX0_wakeWithin (wsV RX0 185 RX0 yX0_soonestSleeper wsX0_soonestSleeper) := goodIn_app (goodIn_of _ (by decide +kernel)) ggX0_wakeWithin_X0_soonestSleeper
set_option maxRecDepth 20000 in
theorem ggX0_wakeWithin_X0_becomeReady : GoodIn wsX0_wakeWithin wsX0_becomeReady := goodIn_r _ [11, 1, 12, 13, 14, 5, 15, 7, 16, 17, 18, 19, 20, 21, 22, 23, 24, 25, 26, 27, 28, 29, 30, 31] (by decide +kernel) (by decide +kernel)
set_option maxRecDepth 20000 in
theorem gX0_wakeWithin_X0_becomeReady : GoodIn wsX0_wakeWithin (wsV RX0 67 RX0 yX0_becomeReady wsX0_becomeReady) := goodIn_app (goodIn_of _ (by decide +kernel)) ggX0_wakeWithin_X0_becomeReady
theorem dX0_wakeWithin_0 : decode cX0_wakeWithin 0 = .ok (.iconst 0, 1) := by decide +kernel
theorem dX0_wakeWithin_1 : decode cX0_wakeWithin 1 = .ok (.istore_n 2, 1) := by decide +kernel
theorem dX0_wakeWithin_2 : decode cX0_wakeWithin 2 = .ok (.iconst 0, 1) := by decide +kernel
theorem dX0_wakeWithin_3 : decode cX0_wakeWithin 3 = .ok (.istore_n 3, 1) := by decide +kernel
theorem dX0_wakeWithin_4 : decode cX0_wakeWithin 4 = .ok (.iload_n 3, 1) := by decide +kernel
theorem dX0_wakeWithin_5 : decode cX0_wakeWithin 5 = .ok (.bipush 16, 2) := by decide +kernel
theorem dX0_wakeWithin_7 : decode cX0_wakeWithin 7 = .ok (.if_icmp .ge 44, 3) := by decide +kernel
theorem dX0_wakeWithin_10 : decode cX0_wakeWithin 10 = .ok (.aload_n 0, 1) := by decide +kernel
theorem dX0_wakeWithin_11 : decode cX0_wakeWithin 11 = .ok (.invokevirtual 185, 3) := by decide +kernel
theorem dX0_wakeWithin_14 : decode cX0_wakeWithin 14 = .ok (.istore 4, 2) := by decide +kernel
theorem dX0_wakeWithin_16 : decode cX0_wakeWithin 16 = .ok (.iload 4, 2) := by decide +kernel
theorem dX0_wakeWithin_18 : decode cX0_wakeWithin 18 = .ok (.iconst (-1), 1) := by decide +kernel
theorem dX0_wakeWithin_19 : decode cX0_wakeWithin 19 = .ok (.if_icmp .eq 32, 3) := by decide +kernel
theorem dX0_wakeWithin_22 : decode cX0_wakeWithin 22 = .ok (.aload_n 0, 1) := by decide +kernel
theorem dX0_wakeWithin_23 : decode cX0_wakeWithin 23 = .ok (.getfield 25, 3) := by decide +kernel
theorem dX0_wakeWithin_26 : decode cX0_wakeWithin 26 = .ok (.iload 4, 2) := by decide +kernel
theorem dX0_wakeWithin_28 : decode cX0_wakeWithin 28 = .ok (.iaload, 1) := by decide +kernel
theorem dX0_wakeWithin_29 : decode cX0_wakeWithin 29 = .ok (.iload_n 1, 1) := by decide +kernel
theorem dX0_wakeWithin_30 : decode cX0_wakeWithin 30 = .ok (.if_icmp .le 6, 3) := by decide +kernel
theorem dX0_wakeWithin_33 : decode cX0_wakeWithin 33 = .ok (.goto 18, 3) := by decide +kernel
theorem dX0_wakeWithin_36 : decode cX0_wakeWithin 36 = .ok (.aload_n 0, 1) := by decide +kernel
theorem dX0_wakeWithin_37 : decode cX0_wakeWithin 37 = .ok (.iload 4, 2) := by decide +kernel
theorem dX0_wakeWithin_39 : decode cX0_wakeWithin 39 = .ok (.invokevirtual 67, 3) := by decide +kernel
theorem dX0_wakeWithin_42 : decode cX0_wakeWithin 42 = .ok (.iinc 2 1, 3) := by decide +kernel
theorem dX0_wakeWithin_45 : decode cX0_wakeWithin 45 = .ok (.iinc 3 1, 3) := by decide +kernel
theorem dX0_wakeWithin_48 : decode cX0_wakeWithin 48 = .ok (.goto (-44), 3) := by decide +kernel
theorem dX0_wakeWithin_51 : decode cX0_wakeWithin 51 = .ok (.iload_n 2, 1) := by decide +kernel
theorem dX0_wakeWithin_52 : decode cX0_wakeWithin 52 = .ok (.ireturn, 1) := by decide +kernel
theorem dX0_soonestSleeper_0 : decode cX0_soonestSleeper 0 = .ok (.iconst (-1), 1) := by decide +kernel
theorem dX0_soonestSleeper_1 : decode cX0_soonestSleeper 1 = .ok (.istore_n 1, 1) := by decide +kernel
theorem dX0_soonestSleeper_2 : decode cX0_soonestSleeper 2 = .ok (.iconst 0, 1) := by decide +kernel
theorem dX0_soonestSleeper_3 : decode cX0_soonestSleeper 3 = .ok (.istore_n 2, 1) := by decide +kernel
theorem dX0_soonestSleeper_4 : decode cX0_soonestSleeper 4 = .ok (.iload_n 2, 1) := by decide +kernel
theorem dX0_soonestSleeper_5 : decode cX0_soonestSleeper 5 = .ok (.bipush 16, 2) := by decide +kernel
theorem dX0_soonestSleeper_7 : decode cX0_soonestSleeper 7 = .ok (.if_icmp .ge 42, 3) := by decide +kernel
theorem dX0_soonestSleeper_10 : decode cX0_soonestSleeper 10 = .ok (.aload_n 0, 1) := by decide +kernel
theorem dX0_soonestSleeper_11 : decode cX0_soonestSleeper 11 = .ok (.getfield 9, 3) := by decide +kernel
theorem dX0_soonestSleeper_14 : decode cX0_soonestSleeper 14 = .ok (.iload_n 2, 1) := by decide +kernel
theorem dX0_soonestSleeper_15 : decode cX0_soonestSleeper 15 = .ok (.iaload, 1) := by decide +kernel
theorem dX0_soonestSleeper_16 : decode cX0_soonestSleeper 16 = .ok (.bipush 6, 2) := by decide +kernel
theorem dX0_soonestSleeper_18 : decode cX0_soonestSleeper 18 = .ok (.if_icmp .ne 25, 3) := by decide +kernel
theorem dX0_soonestSleeper_21 : decode cX0_soonestSleeper 21 = .ok (.iload_n 1, 1) := by decide +kernel
theorem dX0_soonestSleeper_22 : decode cX0_soonestSleeper 22 = .ok (.iconst (-1), 1) := by decide +kernel
theorem dX0_soonestSleeper_23 : decode cX0_soonestSleeper 23 = .ok (.if_icmp .eq 18, 3) := by decide +kernel
theorem dX0_soonestSleeper_26 : decode cX0_soonestSleeper 26 = .ok (.aload_n 0, 1) := by decide +kernel
theorem dX0_soonestSleeper_27 : decode cX0_soonestSleeper 27 = .ok (.getfield 25, 3) := by decide +kernel
theorem dX0_soonestSleeper_30 : decode cX0_soonestSleeper 30 = .ok (.iload_n 2, 1) := by decide +kernel
theorem dX0_soonestSleeper_31 : decode cX0_soonestSleeper 31 = .ok (.iaload, 1) := by decide +kernel
theorem dX0_soonestSleeper_32 : decode cX0_soonestSleeper 32 = .ok (.aload_n 0, 1) := by decide +kernel
theorem dX0_soonestSleeper_33 : decode cX0_soonestSleeper 33 = .ok (.getfield 25, 3) := by decide +kernel
theorem dX0_soonestSleeper_36 : decode cX0_soonestSleeper 36 = .ok (.iload_n 1, 1) := by decide +kernel
theorem dX0_soonestSleeper_37 : decode cX0_soonestSleeper 37 = .ok (.iaload, 1) := by decide +kernel
theorem dX0_soonestSleeper_38 : decode cX0_soonestSleeper 38 = .ok (.if_icmp .ge 5, 3) := by decide +kernel
theorem dX0_soonestSleeper_41 : decode cX0_soonestSleeper 41 = .ok (.iload_n 2, 1) := by decide +kernel
theorem dX0_soonestSleeper_42 : decode cX0_soonestSleeper 42 = .ok (.istore_n 1, 1) := by decide +kernel
theorem dX0_soonestSleeper_43 : decode cX0_soonestSleeper 43 = .ok (.iinc 2 1, 3) := by decide +kernel
theorem dX0_soonestSleeper_46 : decode cX0_soonestSleeper 46 = .ok (.goto (-42), 3) := by decide +kernel
theorem dX0_soonestSleeper_49 : decode cX0_soonestSleeper 49 = .ok (.iload_n 1, 1) := by decide +kernel
theorem dX0_soonestSleeper_50 : decode cX0_soonestSleeper 50 = .ok (.ireturn, 1) := by decide +kernel
theorem dJ9_max_7cf53_0 : decode cJ9_max_7cf53 0 = .ok (.iload_n 0, 1) := by decide +kernel
theorem dJ9_max_7cf53_1 : decode cJ9_max_7cf53 1 = .ok (.iload_n 1, 1) := by decide +kernel
theorem dJ9_max_7cf53_2 : decode cJ9_max_7cf53 2 = .ok (.if_icmp .lt 7, 3) := by decide +kernel
theorem dJ9_max_7cf53_5 : decode cJ9_max_7cf53 5 = .ok (.iload_n 0, 1) := by decide +kernel
theorem dJ9_max_7cf53_6 : decode cJ9_max_7cf53 6 = .ok (.goto 4, 3) := by decide +kernel
theorem dJ9_max_7cf53_9 : decode cJ9_max_7cf53 9 = .ok (.iload_n 1, 1) := by decide +kernel
theorem dJ9_max_7cf53_10 : decode cJ9_max_7cf53 10 = .ok (.ireturn, 1) := by decide +kernel
theorem dJ9_min_7cf53_0 : decode cJ9_min_7cf53 0 = .ok (.iload_n 0, 1) := by decide +kernel
theorem dJ9_min_7cf53_1 : decode cJ9_min_7cf53 1 = .ok (.iload_n 1, 1) := by decide +kernel
theorem dJ9_min_7cf53_2 : decode cJ9_min_7cf53 2 = .ok (.if_icmp .gt 7, 3) := by decide +kernel
theorem dJ9_min_7cf53_5 : decode cJ9_min_7cf53 5 = .ok (.iload_n 0, 1) := by decide +kernel
theorem dJ9_min_7cf53_6 : decode cJ9_min_7cf53 6 = .ok (.goto 4, 3) := by decide +kernel
theorem dJ9_min_7cf53_9 : decode cJ9_min_7cf53 9 = .ok (.iload_n 1, 1) := by decide +kernel
theorem dJ9_min_7cf53_10 : decode cJ9_min_7cf53 10 = .ok (.ireturn, 1) := by decide +kernel
theorem dJ7_fill_53178_0 : decode cJ7_fill_53178 0 = .ok (.iconst 0, 1) := by decide +kernel
theorem dJ7_fill_53178_1 : decode cJ7_fill_53178 1 = .ok (.istore_n 2, 1) := by decide +kernel
theorem dJ7_fill_53178_2 : decode cJ7_fill_53178 2 = .ok (.aload_n 0, 1) := by decide +kernel
theorem dJ7_fill_53178_3 : decode cJ7_fill_53178 3 = .ok (.arraylength, 1) := by decide +kernel
theorem dJ7_fill_53178_4 : decode cJ7_fill_53178 4 = .ok (.istore_n 3, 1) := by decide +kernel
theorem dJ7_fill_53178_5 : decode cJ7_fill_53178 5 = .ok (.iload_n 2, 1) := by decide +kernel
theorem dJ7_fill_53178_6 : decode cJ7_fill_53178 6 = .ok (.iload_n 3, 1) := by decide +kernel
theorem dJ7_fill_53178_7 : decode cJ7_fill_53178 7 = .ok (.if_icmp .ge 13, 3) := by decide +kernel
theorem dJ7_fill_53178_10 : decode cJ7_fill_53178 10 = .ok (.aload_n 0, 1) := by decide +kernel
theorem dJ7_fill_53178_11 : decode cJ7_fill_53178 11 = .ok (.iload_n 2, 1) := by decide +kernel
theorem dJ7_fill_53178_12 : decode cJ7_fill_53178 12 = .ok (.iload_n 1, 1) := by decide +kernel
theorem dJ7_fill_53178_13 : decode cJ7_fill_53178 13 = .ok (.iastore, 1) := by decide +kernel
theorem dJ7_fill_53178_14 : decode cJ7_fill_53178 14 = .ok (.iinc 2 1, 3) := by decide +kernel
theorem dJ7_fill_53178_17 : decode cJ7_fill_53178 17 = .ok (.goto (-12), 3) := by decide +kernel
theorem dJ7_fill_53178_20 : decode cJ7_fill_53178 20 = .ok (.return_, 1) := by decide +kernel
