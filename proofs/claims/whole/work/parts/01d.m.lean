set_option maxRecDepth 20000 in
theorem ggX1_init_X1_cut : GoodIn wsX1_init wsX1_cut := goodIn_r _ [24] (by decide +kernel) (by decide +kernel)
set_option maxRecDepth 20000 in
theorem gX1_init_X1_cut : GoodIn wsX1_init (va_wsS RX1 47 yX1_cut wsX1_cut) := goodIn_app (goodIn_of _ (by decide +kernel)) ggX1_init_X1_cut
set_option maxRecDepth 20000 in
theorem ggX1_init_X1_clear : GoodIn wsX1_init wsX1_clear := goodIn_r _ [28, 29, 30, 5, 6, 12, 10, 13, 14, 15, 31, 32, 33, 34, 35, 36, 37, 38, 39, 40, 41, 42, 43, 44, 45, 46, 47] (by decide +kernel) (by decide +kernel)
set_option maxRecDepth 20000 in
theorem gX1_init_X1_clear : GoodIn wsX1_init (wsV RX1 61 RX1 yX1_clear wsX1_clear) := goodIn_app (goodIn_of _ (by decide +kernel)) ggX1_init_X1_clear
theorem dX1_init_0 : decode cX1_init 0 = .ok (.aload_n 0, 1) := by decide +kernel
theorem dX1_init_1 : decode cX1_init 1 = .ok (.invokespecial 1, 3) := by decide +kernel
theorem dX1_init_4 : decode cX1_init 4 = .ok (.aload_n 0, 1) := by decide +kernel
theorem dX1_init_5 : decode cX1_init 5 = .ok (.bipush 16, 2) := by decide +kernel
theorem dX1_init_7 : decode cX1_init 7 = .ok (.newarray .int, 2) := by decide +kernel
theorem dX1_init_9 : decode cX1_init 9 = .ok (.putfield 7, 3) := by decide +kernel
theorem dX1_init_12 : decode cX1_init 12 = .ok (.aload_n 0, 1) := by decide +kernel
theorem dX1_init_13 : decode cX1_init 13 = .ok (.bipush 16, 2) := by decide +kernel
theorem dX1_init_15 : decode cX1_init 15 = .ok (.newarray .int, 2) := by decide +kernel
theorem dX1_init_17 : decode cX1_init 17 = .ok (.putfield 13, 3) := by decide +kernel
theorem dX1_init_20 : decode cX1_init 20 = .ok (.aload_n 0, 1) := by decide +kernel
theorem dX1_init_21 : decode cX1_init 21 = .ok (.bipush 16, 2) := by decide +kernel
theorem dX1_init_23 : decode cX1_init 23 = .ok (.newarray .long, 2) := by decide +kernel
theorem dX1_init_25 : decode cX1_init 25 = .ok (.putfield 16, 3) := by decide +kernel
theorem dX1_init_28 : decode cX1_init 28 = .ok (.aload_n 0, 1) := by decide +kernel
theorem dX1_init_29 : decode cX1_init 29 = .ok (.bipush 16, 2) := by decide +kernel
theorem dX1_init_31 : decode cX1_init 31 = .ok (.newarray .int, 2) := by decide +kernel
theorem dX1_init_33 : decode cX1_init 33 = .ok (.putfield 20, 3) := by decide +kernel
theorem dX1_init_36 : decode cX1_init 36 = .ok (.aload_n 0, 1) := by decide +kernel
theorem dX1_init_37 : decode cX1_init 37 = .ok (.bipush 16, 2) := by decide +kernel
theorem dX1_init_39 : decode cX1_init 39 = .ok (.newarray .int, 2) := by decide +kernel
theorem dX1_init_41 : decode cX1_init 41 = .ok (.putfield 23, 3) := by decide +kernel
theorem dX1_init_44 : decode cX1_init 44 = .ok (.aload_n 0, 1) := by decide +kernel
theorem dX1_init_45 : decode cX1_init 45 = .ok (.bipush 16, 2) := by decide +kernel
theorem dX1_init_47 : decode cX1_init 47 = .ok (.newarray .int, 2) := by decide +kernel
theorem dX1_init_49 : decode cX1_init 49 = .ok (.putfield 26, 3) := by decide +kernel
theorem dX1_init_52 : decode cX1_init 52 = .ok (.aload_n 0, 1) := by decide +kernel
theorem dX1_init_53 : decode cX1_init 53 = .ok (.bipush 16, 2) := by decide +kernel
theorem dX1_init_55 : decode cX1_init 55 = .ok (.newarray .int, 2) := by decide +kernel
theorem dX1_init_57 : decode cX1_init 57 = .ok (.putfield 29, 3) := by decide +kernel
theorem dX1_init_60 : decode cX1_init 60 = .ok (.aload_n 0, 1) := by decide +kernel
theorem dX1_init_61 : decode cX1_init 61 = .ok (.bipush 8, 2) := by decide +kernel
theorem dX1_init_63 : decode cX1_init 63 = .ok (.newarray .int, 2) := by decide +kernel
theorem dX1_init_65 : decode cX1_init 65 = .ok (.putfield 32, 3) := by decide +kernel
theorem dX1_init_68 : decode cX1_init 68 = .ok (.aload_n 0, 1) := by decide +kernel
theorem dX1_init_69 : decode cX1_init 69 = .ok (.bipush 8, 2) := by decide +kernel
theorem dX1_init_71 : decode cX1_init 71 = .ok (.newarray .int, 2) := by decide +kernel
theorem dX1_init_73 : decode cX1_init 73 = .ok (.putfield 35, 3) := by decide +kernel
theorem dX1_init_76 : decode cX1_init 76 = .ok (.aload_n 0, 1) := by decide +kernel
theorem dX1_init_77 : decode cX1_init 77 = .ok (.bipush 8, 2) := by decide +kernel
theorem dX1_init_79 : decode cX1_init 79 = .ok (.newarray .int, 2) := by decide +kernel
theorem dX1_init_81 : decode cX1_init 81 = .ok (.putfield 38, 3) := by decide +kernel
theorem dX1_init_84 : decode cX1_init 84 = .ok (.aload_n 0, 1) := by decide +kernel
theorem dX1_init_85 : decode cX1_init 85 = .ok (.bipush 32, 2) := by decide +kernel
theorem dX1_init_87 : decode cX1_init 87 = .ok (.newarray .int, 2) := by decide +kernel
theorem dX1_init_89 : decode cX1_init 89 = .ok (.putfield 41, 3) := by decide +kernel
theorem dX1_init_92 : decode cX1_init 92 = .ok (.aload_n 0, 1) := by decide +kernel
theorem dX1_init_93 : decode cX1_init 93 = .ok (.bipush 16, 2) := by decide +kernel
theorem dX1_init_95 : decode cX1_init 95 = .ok (.newarray .int, 2) := by decide +kernel
theorem dX1_init_97 : decode cX1_init 97 = .ok (.putfield 44, 3) := by decide +kernel
theorem dX1_init_100 : decode cX1_init 100 = .ok (.aload_n 0, 1) := by decide +kernel
theorem dX1_init_101 : decode cX1_init 101 = .ok (.iload_n 1, 1) := by decide +kernel
theorem dX1_init_102 : decode cX1_init 102 = .ok (.invokestatic 47, 3) := by decide +kernel
theorem dX1_init_105 : decode cX1_init 105 = .ok (.putfield 51, 3) := by decide +kernel
theorem dX1_init_108 : decode cX1_init 108 = .ok (.aload_n 0, 1) := by decide +kernel
theorem dX1_init_109 : decode cX1_init 109 = .ok (.iload_n 2, 1) := by decide +kernel
theorem dX1_init_110 : decode cX1_init 110 = .ok (.invokestatic 47, 3) := by decide +kernel
theorem dX1_init_113 : decode cX1_init 113 = .ok (.putfield 55, 3) := by decide +kernel
theorem dX1_init_116 : decode cX1_init 116 = .ok (.aload_n 0, 1) := by decide +kernel
theorem dX1_init_117 : decode cX1_init 117 = .ok (.iload_n 3, 1) := by decide +kernel
theorem dX1_init_118 : decode cX1_init 118 = .ok (.invokestatic 47, 3) := by decide +kernel
theorem dX1_init_121 : decode cX1_init 121 = .ok (.putfield 58, 3) := by decide +kernel
theorem dX1_init_124 : decode cX1_init 124 = .ok (.aload_n 0, 1) := by decide +kernel
theorem dX1_init_125 : decode cX1_init 125 = .ok (.invokevirtual 61, 3) := by decide +kernel
theorem dX1_init_128 : decode cX1_init 128 = .ok (.return_, 1) := by decide +kernel
theorem dX1_cut_0 : decode cX1_cut 0 = .ok (.iload_n 0, 1) := by decide +kernel
theorem dX1_cut_1 : decode cX1_cut 1 = .ok (.ifCond .ge 7, 3) := by decide +kernel
theorem dX1_cut_4 : decode cX1_cut 4 = .ok (.iconst 0, 1) := by decide +kernel
theorem dX1_cut_5 : decode cX1_cut 5 = .ok (.goto 15, 3) := by decide +kernel
theorem dX1_cut_8 : decode cX1_cut 8 = .ok (.iload_n 0, 1) := by decide +kernel
theorem dX1_cut_9 : decode cX1_cut 9 = .ok (.bipush 8, 2) := by decide +kernel
theorem dX1_cut_11 : decode cX1_cut 11 = .ok (.if_icmp .le 8, 3) := by decide +kernel
theorem dX1_cut_14 : decode cX1_cut 14 = .ok (.bipush 8, 2) := by decide +kernel
theorem dX1_cut_16 : decode cX1_cut 16 = .ok (.goto 4, 3) := by decide +kernel
theorem dX1_cut_19 : decode cX1_cut 19 = .ok (.iload_n 0, 1) := by decide +kernel
theorem dX1_cut_20 : decode cX1_cut 20 = .ok (.ireturn, 1) := by decide +kernel
theorem dX1_thrown_0 : decode cX1_thrown 0 = .ok (.aload_n 0, 1) := by decide +kernel
theorem dX1_thrown_1 : decode cX1_thrown 1 = .ok (.getfield 64, 3) := by decide +kernel
theorem dX1_thrown_4 : decode cX1_thrown 4 = .ok (.ireturn, 1) := by decide +kernel
theorem dX1_clear_0 : decode cX1_clear 0 = .ok (.aload_n 0, 1) := by decide +kernel
theorem dX1_clear_1 : decode cX1_clear 1 = .ok (.iconst 0, 1) := by decide +kernel
theorem dX1_clear_2 : decode cX1_clear 2 = .ok (.putfield 64, 3) := by decide +kernel
theorem dX1_clear_5 : decode cX1_clear 5 = .ok (.aload_n 0, 1) := by decide +kernel
theorem dX1_clear_6 : decode cX1_clear 6 = .ok (.lconst 0, 1) := by decide +kernel
theorem dX1_clear_7 : decode cX1_clear 7 = .ok (.putfield 67, 3) := by decide +kernel
theorem dX1_clear_10 : decode cX1_clear 10 = .ok (.iconst 0, 1) := by decide +kernel
theorem dX1_clear_11 : decode cX1_clear 11 = .ok (.istore_n 1, 1) := by decide +kernel
theorem dX1_clear_12 : decode cX1_clear 12 = .ok (.iload_n 1, 1) := by decide +kernel
theorem dX1_clear_13 : decode cX1_clear 13 = .ok (.bipush 16, 2) := by decide +kernel
theorem dX1_clear_15 : decode cX1_clear 15 = .ok (.if_icmp .ge 37, 3) := by decide +kernel
theorem dX1_clear_18 : decode cX1_clear 18 = .ok (.aload_n 0, 1) := by decide +kernel
theorem dX1_clear_19 : decode cX1_clear 19 = .ok (.getfield 7, 3) := by decide +kernel
theorem dX1_clear_22 : decode cX1_clear 22 = .ok (.iload_n 1, 1) := by decide +kernel
theorem dX1_clear_23 : decode cX1_clear 23 = .ok (.iconst 0, 1) := by decide +kernel
theorem dX1_clear_24 : decode cX1_clear 24 = .ok (.iastore, 1) := by decide +kernel
theorem dX1_clear_25 : decode cX1_clear 25 = .ok (.aload_n 0, 1) := by decide +kernel
theorem dX1_clear_26 : decode cX1_clear 26 = .ok (.getfield 13, 3) := by decide +kernel
theorem dX1_clear_29 : decode cX1_clear 29 = .ok (.iload_n 1, 1) := by decide +kernel
theorem dX1_clear_30 : decode cX1_clear 30 = .ok (.iconst 0, 1) := by decide +kernel
theorem dX1_clear_31 : decode cX1_clear 31 = .ok (.iastore, 1) := by decide +kernel
theorem dX1_clear_32 : decode cX1_clear 32 = .ok (.aload_n 0, 1) := by decide +kernel
theorem dX1_clear_33 : decode cX1_clear 33 = .ok (.getfield 29, 3) := by decide +kernel
theorem dX1_clear_36 : decode cX1_clear 36 = .ok (.iload_n 1, 1) := by decide +kernel
theorem dX1_clear_37 : decode cX1_clear 37 = .ok (.iconst 0, 1) := by decide +kernel
theorem dX1_clear_38 : decode cX1_clear 38 = .ok (.iastore, 1) := by decide +kernel
theorem dX1_clear_39 : decode cX1_clear 39 = .ok (.aload_n 0, 1) := by decide +kernel
theorem dX1_clear_40 : decode cX1_clear 40 = .ok (.getfield 23, 3) := by decide +kernel
theorem dX1_clear_43 : decode cX1_clear 43 = .ok (.iload_n 1, 1) := by decide +kernel
theorem dX1_clear_44 : decode cX1_clear 44 = .ok (.iconst 0, 1) := by decide +kernel
theorem dX1_clear_45 : decode cX1_clear 45 = .ok (.iastore, 1) := by decide +kernel
theorem dX1_clear_46 : decode cX1_clear 46 = .ok (.iinc 1 1, 3) := by decide +kernel
theorem dX1_clear_49 : decode cX1_clear 49 = .ok (.goto (-37), 3) := by decide +kernel
theorem dX1_clear_52 : decode cX1_clear 52 = .ok (.iconst 0, 1) := by decide +kernel
theorem dX1_clear_53 : decode cX1_clear 53 = .ok (.istore_n 1, 1) := by decide +kernel
theorem dX1_clear_54 : decode cX1_clear 54 = .ok (.iload_n 1, 1) := by decide +kernel
theorem dX1_clear_55 : decode cX1_clear 55 = .ok (.bipush 8, 2) := by decide +kernel
theorem dX1_clear_57 : decode cX1_clear 57 = .ok (.if_icmp .ge 30, 3) := by decide +kernel
theorem dX1_clear_60 : decode cX1_clear 60 = .ok (.aload_n 0, 1) := by decide +kernel
theorem dX1_clear_61 : decode cX1_clear 61 = .ok (.getfield 32, 3) := by decide +kernel
theorem dX1_clear_64 : decode cX1_clear 64 = .ok (.iload_n 1, 1) := by decide +kernel
theorem dX1_clear_65 : decode cX1_clear 65 = .ok (.iconst (-1), 1) := by decide +kernel
theorem dX1_clear_66 : decode cX1_clear 66 = .ok (.iastore, 1) := by decide +kernel
theorem dX1_clear_67 : decode cX1_clear 67 = .ok (.aload_n 0, 1) := by decide +kernel
theorem dX1_clear_68 : decode cX1_clear 68 = .ok (.getfield 35, 3) := by decide +kernel
theorem dX1_clear_71 : decode cX1_clear 71 = .ok (.iload_n 1, 1) := by decide +kernel
theorem dX1_clear_72 : decode cX1_clear 72 = .ok (.iconst 0, 1) := by decide +kernel
theorem dX1_clear_73 : decode cX1_clear 73 = .ok (.iastore, 1) := by decide +kernel
theorem dX1_clear_74 : decode cX1_clear 74 = .ok (.aload_n 0, 1) := by decide +kernel
theorem dX1_clear_75 : decode cX1_clear 75 = .ok (.getfield 38, 3) := by decide +kernel
theorem dX1_clear_78 : decode cX1_clear 78 = .ok (.iload_n 1, 1) := by decide +kernel
theorem dX1_clear_79 : decode cX1_clear 79 = .ok (.iconst 0, 1) := by decide +kernel
theorem dX1_clear_80 : decode cX1_clear 80 = .ok (.iastore, 1) := by decide +kernel
theorem dX1_clear_81 : decode cX1_clear 81 = .ok (.iinc 1 1, 3) := by decide +kernel
theorem dX1_clear_84 : decode cX1_clear 84 = .ok (.goto (-30), 3) := by decide +kernel
theorem dX1_clear_87 : decode cX1_clear 87 = .ok (.return_, 1) := by decide +kernel
theorem dX1_isTask_0 : decode cX1_isTask 0 = .ok (.iload_n 0, 1) := by decide +kernel
theorem dX1_isTask_1 : decode cX1_isTask 1 = .ok (.ifCond .lt 13, 3) := by decide +kernel
theorem dX1_isTask_4 : decode cX1_isTask 4 = .ok (.iload_n 0, 1) := by decide +kernel
theorem dX1_isTask_5 : decode cX1_isTask 5 = .ok (.bipush 16, 2) := by decide +kernel
theorem dX1_isTask_7 : decode cX1_isTask 7 = .ok (.if_icmp .ge 7, 3) := by decide +kernel
theorem dX1_isTask_10 : decode cX1_isTask 10 = .ok (.iconst 1, 1) := by decide +kernel
theorem dX1_isTask_11 : decode cX1_isTask 11 = .ok (.goto 4, 3) := by decide +kernel
theorem dX1_isTask_14 : decode cX1_isTask 14 = .ok (.iconst 0, 1) := by decide +kernel
theorem dX1_isTask_15 : decode cX1_isTask 15 = .ok (.ireturn, 1) := by decide +kernel
theorem dX1_isPriority_0 : decode cX1_isPriority 0 = .ok (.iload_n 0, 1) := by decide +kernel
theorem dX1_isPriority_1 : decode cX1_isPriority 1 = .ok (.iconst 1, 1) := by decide +kernel
theorem dX1_isPriority_2 : decode cX1_isPriority 2 = .ok (.if_icmp .lt 14, 3) := by decide +kernel
theorem dX1_isPriority_5 : decode cX1_isPriority 5 = .ok (.iload_n 0, 1) := by decide +kernel
theorem dX1_isPriority_6 : decode cX1_isPriority 6 = .ok (.sipush 255, 3) := by decide +kernel
theorem dX1_isPriority_9 : decode cX1_isPriority 9 = .ok (.if_icmp .gt 7, 3) := by decide +kernel
theorem dX1_isPriority_12 : decode cX1_isPriority 12 = .ok (.iconst 1, 1) := by decide +kernel
theorem dX1_isPriority_13 : decode cX1_isPriority 13 = .ok (.goto 4, 3) := by decide +kernel
theorem dX1_isPriority_16 : decode cX1_isPriority 16 = .ok (.iconst 0, 1) := by decide +kernel
theorem dX1_isPriority_17 : decode cX1_isPriority 17 = .ok (.ireturn, 1) := by decide +kernel
theorem dX1_findEffective_0 : decode cX1_findEffective 0 = .ok (.iconst 0, 1) := by decide +kernel
theorem dX1_findEffective_1 : decode cX1_findEffective 1 = .ok (.istore_n 1, 1) := by decide +kernel
theorem dX1_findEffective_2 : decode cX1_findEffective 2 = .ok (.iload_n 1, 1) := by decide +kernel
theorem dX1_findEffective_3 : decode cX1_findEffective 3 = .ok (.bipush 16, 2) := by decide +kernel
theorem dX1_findEffective_5 : decode cX1_findEffective 5 = .ok (.if_icmp .ge 34, 3) := by decide +kernel
theorem dX1_findEffective_8 : decode cX1_findEffective 8 = .ok (.aload_n 0, 1) := by decide +kernel
theorem dX1_findEffective_9 : decode cX1_findEffective 9 = .ok (.getfield 44, 3) := by decide +kernel
theorem dX1_findEffective_12 : decode cX1_findEffective 12 = .ok (.iload_n 1, 1) := by decide +kernel
theorem dX1_findEffective_13 : decode cX1_findEffective 13 = .ok (.aload_n 0, 1) := by decide +kernel
theorem dX1_findEffective_14 : decode cX1_findEffective 14 = .ok (.getfield 7, 3) := by decide +kernel
theorem dX1_findEffective_17 : decode cX1_findEffective 17 = .ok (.iload_n 1, 1) := by decide +kernel
theorem dX1_findEffective_18 : decode cX1_findEffective 18 = .ok (.iaload, 1) := by decide +kernel
theorem dX1_findEffective_19 : decode cX1_findEffective 19 = .ok (.ifCond .ne 7, 3) := by decide +kernel
theorem dX1_findEffective_22 : decode cX1_findEffective 22 = .ok (.iconst 0, 1) := by decide +kernel
theorem dX1_findEffective_23 : decode cX1_findEffective 23 = .ok (.goto 9, 3) := by decide +kernel
theorem dX1_findEffective_26 : decode cX1_findEffective 26 = .ok (.aload_n 0, 1) := by decide +kernel
theorem dX1_findEffective_27 : decode cX1_findEffective 27 = .ok (.getfield 13, 3) := by decide +kernel
theorem dX1_findEffective_30 : decode cX1_findEffective 30 = .ok (.iload_n 1, 1) := by decide +kernel
theorem dX1_findEffective_31 : decode cX1_findEffective 31 = .ok (.iaload, 1) := by decide +kernel
theorem dX1_findEffective_32 : decode cX1_findEffective 32 = .ok (.iastore, 1) := by decide +kernel
theorem dX1_findEffective_33 : decode cX1_findEffective 33 = .ok (.iinc 1 1, 3) := by decide +kernel
theorem dX1_findEffective_36 : decode cX1_findEffective 36 = .ok (.goto (-34), 3) := by decide +kernel
theorem dX1_findEffective_39 : decode cX1_findEffective 39 = .ok (.iconst 0, 1) := by decide +kernel
theorem dX1_findEffective_40 : decode cX1_findEffective 40 = .ok (.istore_n 1, 1) := by decide +kernel
theorem dX1_findEffective_41 : decode cX1_findEffective 41 = .ok (.iload_n 1, 1) := by decide +kernel
theorem dX1_findEffective_42 : decode cX1_findEffective 42 = .ok (.bipush 16, 2) := by decide +kernel
theorem dX1_findEffective_44 : decode cX1_findEffective 44 = .ok (.if_icmp .ge 81, 3) := by decide +kernel
theorem dX1_findEffective_47 : decode cX1_findEffective 47 = .ok (.iconst 0, 1) := by decide +kernel
theorem dX1_findEffective_48 : decode cX1_findEffective 48 = .ok (.istore_n 2, 1) := by decide +kernel
theorem dX1_findEffective_49 : decode cX1_findEffective 49 = .ok (.iload_n 2, 1) := by decide +kernel
theorem dX1_findEffective_50 : decode cX1_findEffective 50 = .ok (.bipush 16, 2) := by decide +kernel
theorem dX1_findEffective_52 : decode cX1_findEffective 52 = .ok (.if_icmp .ge 67, 3) := by decide +kernel
theorem dX1_findEffective_55 : decode cX1_findEffective 55 = .ok (.aload_n 0, 1) := by decide +kernel
theorem dX1_findEffective_56 : decode cX1_findEffective 56 = .ok (.getfield 7, 3) := by decide +kernel
theorem dX1_findEffective_59 : decode cX1_findEffective 59 = .ok (.iload_n 2, 1) := by decide +kernel
theorem dX1_findEffective_60 : decode cX1_findEffective 60 = .ok (.iaload, 1) := by decide +kernel
theorem dX1_findEffective_61 : decode cX1_findEffective 61 = .ok (.iconst 2, 1) := by decide +kernel
theorem dX1_findEffective_62 : decode cX1_findEffective 62 = .ok (.if_icmp .ne 51, 3) := by decide +kernel
theorem dX1_findEffective_65 : decode cX1_findEffective 65 = .ok (.aload_n 0, 1) := by decide +kernel
theorem dX1_findEffective_66 : decode cX1_findEffective 66 = .ok (.getfield 32, 3) := by decide +kernel
theorem dX1_findEffective_69 : decode cX1_findEffective 69 = .ok (.aload_n 0, 1) := by decide +kernel
theorem dX1_findEffective_70 : decode cX1_findEffective 70 = .ok (.getfield 20, 3) := by decide +kernel
theorem dX1_findEffective_73 : decode cX1_findEffective 73 = .ok (.iload_n 2, 1) := by decide +kernel
theorem dX1_findEffective_74 : decode cX1_findEffective 74 = .ok (.iaload, 1) := by decide +kernel
theorem dX1_findEffective_75 : decode cX1_findEffective 75 = .ok (.iaload, 1) := by decide +kernel
theorem dX1_findEffective_76 : decode cX1_findEffective 76 = .ok (.istore_n 3, 1) := by decide +kernel
theorem dX1_findEffective_77 : decode cX1_findEffective 77 = .ok (.aload_n 0, 1) := by decide +kernel
theorem dX1_findEffective_78 : decode cX1_findEffective 78 = .ok (.getfield 44, 3) := by decide +kernel
theorem dX1_findEffective_81 : decode cX1_findEffective 81 = .ok (.iload_n 3, 1) := by decide +kernel
theorem dX1_findEffective_82 : decode cX1_findEffective 82 = .ok (.aload_n 0, 1) := by decide +kernel
theorem dX1_findEffective_83 : decode cX1_findEffective 83 = .ok (.getfield 44, 3) := by decide +kernel
theorem dX1_findEffective_86 : decode cX1_findEffective 86 = .ok (.iload_n 2, 1) := by decide +kernel
theorem dX1_findEffective_87 : decode cX1_findEffective 87 = .ok (.iaload, 1) := by decide +kernel
theorem dX1_findEffective_88 : decode cX1_findEffective 88 = .ok (.aload_n 0, 1) := by decide +kernel
theorem dX1_findEffective_89 : decode cX1_findEffective 89 = .ok (.getfield 44, 3) := by decide +kernel
theorem dX1_findEffective_92 : decode cX1_findEffective 92 = .ok (.iload_n 3, 1) := by decide +kernel
theorem dX1_findEffective_93 : decode cX1_findEffective 93 = .ok (.iaload, 1) := by decide +kernel
theorem dX1_findEffective_94 : decode cX1_findEffective 94 = .ok (.if_icmp .le 12, 3) := by decide +kernel
theorem dX1_findEffective_97 : decode cX1_findEffective 97 = .ok (.aload_n 0, 1) := by decide +kernel
theorem dX1_findEffective_98 : decode cX1_findEffective 98 = .ok (.getfield 44, 3) := by decide +kernel
theorem dX1_findEffective_101 : decode cX1_findEffective 101 = .ok (.iload_n 2, 1) := by decide +kernel
theorem dX1_findEffective_102 : decode cX1_findEffective 102 = .ok (.iaload, 1) := by decide +kernel
theorem dX1_findEffective_103 : decode cX1_findEffective 103 = .ok (.goto 9, 3) := by decide +kernel
theorem dX1_findEffective_106 : decode cX1_findEffective 106 = .ok (.aload_n 0, 1) := by decide +kernel
theorem dX1_findEffective_107 : decode cX1_findEffective 107 = .ok (.getfield 44, 3) := by decide +kernel
theorem dX1_findEffective_110 : decode cX1_findEffective 110 = .ok (.iload_n 3, 1) := by decide +kernel
theorem dX1_findEffective_111 : decode cX1_findEffective 111 = .ok (.iaload, 1) := by decide +kernel
theorem dX1_findEffective_112 : decode cX1_findEffective 112 = .ok (.iastore, 1) := by decide +kernel
theorem dX1_findEffective_113 : decode cX1_findEffective 113 = .ok (.iinc 2 1, 3) := by decide +kernel
theorem dX1_findEffective_116 : decode cX1_findEffective 116 = .ok (.goto (-67), 3) := by decide +kernel
theorem dX1_findEffective_119 : decode cX1_findEffective 119 = .ok (.iinc 1 1, 3) := by decide +kernel
theorem dX1_findEffective_122 : decode cX1_findEffective 122 = .ok (.goto (-81), 3) := by decide +kernel
theorem dX1_findEffective_125 : decode cX1_findEffective 125 = .ok (.return_, 1) := by decide +kernel
set_option maxRecDepth 20000 in
theorem ggX1_firstOf_X1_findEffective : GoodIn wsX1_firstOf wsX1_findEffective := goodIn_r _ [9, 3, 1, 10, 11, 2, 12, 13, 14, 15, 16, 17, 18, 19, 20, 21, 22, 23, 24, 25, 26, 27, 28] (by decide +kernel) (by decide +kernel)
set_option maxRecDepth 20000 in
theorem gX1_firstOf_X1_findEffective : GoodIn wsX1_firstOf (wsV RX1 71 RX1 yX1_findEffective wsX1_findEffective) := goodIn_app (goodIn_of _ (by decide +kernel)) ggX1_firstOf_X1_findEffective
theorem dX1_firstOf_0 : decode cX1_firstOf 0 = .ok (.aload_n 0, 1) := by decide +kernel
theorem dX1_firstOf_1 : decode cX1_firstOf 1 = .ok (.invokevirtual 71, 3) := by decide +kernel
theorem dX1_firstOf_4 : decode cX1_firstOf 4 = .ok (.iconst (-1), 1) := by decide +kernel
theorem dX1_firstOf_5 : decode cX1_firstOf 5 = .ok (.istore_n 3, 1) := by decide +kernel
theorem dX1_firstOf_6 : decode cX1_firstOf 6 = .ok (.iconst 0, 1) := by decide +kernel
theorem dX1_firstOf_7 : decode cX1_firstOf 7 = .ok (.istore 4, 2) := by decide +kernel
theorem dX1_firstOf_9 : decode cX1_firstOf 9 = .ok (.iload 4, 2) := by decide +kernel
theorem dX1_firstOf_11 : decode cX1_firstOf 11 = .ok (.bipush 16, 2) := by decide +kernel
theorem dX1_firstOf_13 : decode cX1_firstOf 13 = .ok (.if_icmp .ge 120, 3) := by decide +kernel
theorem dX1_firstOf_16 : decode cX1_firstOf 16 = .ok (.aload_n 0, 1) := by decide +kernel
theorem dX1_firstOf_17 : decode cX1_firstOf 17 = .ok (.getfield 7, 3) := by decide +kernel
theorem dX1_firstOf_20 : decode cX1_firstOf 20 = .ok (.iload 4, 2) := by decide +kernel
theorem dX1_firstOf_22 : decode cX1_firstOf 22 = .ok (.iaload, 1) := by decide +kernel
theorem dX1_firstOf_23 : decode cX1_firstOf 23 = .ok (.iload_n 1, 1) := by decide +kernel
theorem dX1_firstOf_24 : decode cX1_firstOf 24 = .ok (.if_icmp .ne 23, 3) := by decide +kernel
theorem dX1_firstOf_27 : decode cX1_firstOf 27 = .ok (.iload_n 1, 1) := by decide +kernel
theorem dX1_firstOf_28 : decode cX1_firstOf 28 = .ok (.iconst 1, 1) := by decide +kernel
theorem dX1_firstOf_29 : decode cX1_firstOf 29 = .ok (.if_icmp .eq 14, 3) := by decide +kernel
theorem dX1_firstOf_32 : decode cX1_firstOf 32 = .ok (.aload_n 0, 1) := by decide +kernel
theorem dX1_firstOf_33 : decode cX1_firstOf 33 = .ok (.getfield 20, 3) := by decide +kernel
theorem dX1_firstOf_36 : decode cX1_firstOf 36 = .ok (.iload 4, 2) := by decide +kernel
theorem dX1_firstOf_38 : decode cX1_firstOf 38 = .ok (.iaload, 1) := by decide +kernel
theorem dX1_firstOf_39 : decode cX1_firstOf 39 = .ok (.iload_n 2, 1) := by decide +kernel
theorem dX1_firstOf_40 : decode cX1_firstOf 40 = .ok (.if_icmp .ne 7, 3) := by decide +kernel
theorem dX1_firstOf_43 : decode cX1_firstOf 43 = .ok (.iconst 1, 1) := by decide +kernel
theorem dX1_firstOf_44 : decode cX1_firstOf 44 = .ok (.goto 4, 3) := by decide +kernel
theorem dX1_firstOf_47 : decode cX1_firstOf 47 = .ok (.iconst 0, 1) := by decide +kernel
theorem dX1_firstOf_48 : decode cX1_firstOf 48 = .ok (.istore 5, 2) := by decide +kernel
theorem dX1_firstOf_50 : decode cX1_firstOf 50 = .ok (.iload_n 3, 1) := by decide +kernel
theorem dX1_firstOf_51 : decode cX1_firstOf 51 = .ok (.ifCond .lt 52, 3) := by decide +kernel
theorem dX1_firstOf_54 : decode cX1_firstOf 54 = .ok (.aload_n 0, 1) := by decide +kernel
theorem dX1_firstOf_55 : decode cX1_firstOf 55 = .ok (.getfield 44, 3) := by decide +kernel
theorem dX1_firstOf_58 : decode cX1_firstOf 58 = .ok (.iload 4, 2) := by decide +kernel
theorem dX1_firstOf_60 : decode cX1_firstOf 60 = .ok (.iaload, 1) := by decide +kernel
theorem dX1_firstOf_61 : decode cX1_firstOf 61 = .ok (.aload_n 0, 1) := by decide +kernel
theorem dX1_firstOf_62 : decode cX1_firstOf 62 = .ok (.getfield 44, 3) := by decide +kernel
theorem dX1_firstOf_65 : decode cX1_firstOf 65 = .ok (.iload_n 3, 1) := by decide +kernel
theorem dX1_firstOf_66 : decode cX1_firstOf 66 = .ok (.iaload, 1) := by decide +kernel
theorem dX1_firstOf_67 : decode cX1_firstOf 67 = .ok (.if_icmp .gt 36, 3) := by decide +kernel
theorem dX1_firstOf_70 : decode cX1_firstOf 70 = .ok (.aload_n 0, 1) := by decide +kernel
theorem dX1_firstOf_71 : decode cX1_firstOf 71 = .ok (.getfield 44, 3) := by decide +kernel
theorem dX1_firstOf_74 : decode cX1_firstOf 74 = .ok (.iload 4, 2) := by decide +kernel
theorem dX1_firstOf_76 : decode cX1_firstOf 76 = .ok (.iaload, 1) := by decide +kernel
theorem dX1_firstOf_77 : decode cX1_firstOf 77 = .ok (.aload_n 0, 1) := by decide +kernel
theorem dX1_firstOf_78 : decode cX1_firstOf 78 = .ok (.getfield 44, 3) := by decide +kernel
theorem dX1_firstOf_81 : decode cX1_firstOf 81 = .ok (.iload_n 3, 1) := by decide +kernel
theorem dX1_firstOf_82 : decode cX1_firstOf 82 = .ok (.iaload, 1) := by decide +kernel
theorem dX1_firstOf_83 : decode cX1_firstOf 83 = .ok (.if_icmp .ne 24, 3) := by decide +kernel
theorem dX1_firstOf_86 : decode cX1_firstOf 86 = .ok (.aload_n 0, 1) := by decide +kernel
theorem dX1_firstOf_87 : decode cX1_firstOf 87 = .ok (.getfield 16, 3) := by decide +kernel
theorem dX1_firstOf_90 : decode cX1_firstOf 90 = .ok (.iload 4, 2) := by decide +kernel
theorem dX1_firstOf_92 : decode cX1_firstOf 92 = .ok (.laload, 1) := by decide +kernel
theorem dX1_firstOf_93 : decode cX1_firstOf 93 = .ok (.aload_n 0, 1) := by decide +kernel
theorem dX1_firstOf_94 : decode cX1_firstOf 94 = .ok (.getfield 16, 3) := by decide +kernel
theorem dX1_firstOf_97 : decode cX1_firstOf 97 = .ok (.iload_n 3, 1) := by decide +kernel
theorem dX1_firstOf_98 : decode cX1_firstOf 98 = .ok (.laload, 1) := by decide +kernel
theorem dX1_firstOf_99 : decode cX1_firstOf 99 = .ok (.lcmp, 1) := by decide +kernel
theorem dX1_firstOf_100 : decode cX1_firstOf 100 = .ok (.ifCond .ge 7, 3) := by decide +kernel
theorem dX1_firstOf_103 : decode cX1_firstOf 103 = .ok (.iconst 1, 1) := by decide +kernel
theorem dX1_firstOf_104 : decode cX1_firstOf 104 = .ok (.goto 4, 3) := by decide +kernel
theorem dX1_firstOf_107 : decode cX1_firstOf 107 = .ok (.iconst 0, 1) := by decide +kernel
theorem dX1_firstOf_108 : decode cX1_firstOf 108 = .ok (.istore 6, 2) := by decide +kernel
theorem dX1_firstOf_110 : decode cX1_firstOf 110 = .ok (.iload 5, 2) := by decide +kernel
theorem dX1_firstOf_112 : decode cX1_firstOf 112 = .ok (.ifCond .eq 13, 3) := by decide +kernel
theorem dX1_firstOf_115 : decode cX1_firstOf 115 = .ok (.iload 6, 2) := by decide +kernel
theorem dX1_firstOf_117 : decode cX1_firstOf 117 = .ok (.ifCond .eq 8, 3) := by decide +kernel
theorem dX1_firstOf_120 : decode cX1_firstOf 120 = .ok (.iload 4, 2) := by decide +kernel
theorem dX1_firstOf_122 : decode cX1_firstOf 122 = .ok (.goto 4, 3) := by decide +kernel
theorem dX1_firstOf_125 : decode cX1_firstOf 125 = .ok (.iload_n 3, 1) := by decide +kernel
theorem dX1_firstOf_126 : decode cX1_firstOf 126 = .ok (.istore_n 3, 1) := by decide +kernel
theorem dX1_firstOf_127 : decode cX1_firstOf 127 = .ok (.iinc 4 1, 3) := by decide +kernel
theorem dX1_firstOf_130 : decode cX1_firstOf 130 = .ok (.goto (-121), 3) := by decide +kernel
theorem dX1_firstOf_133 : decode cX1_firstOf 133 = .ok (.iload_n 3, 1) := by decide +kernel
theorem dX1_firstOf_134 : decode cX1_firstOf 134 = .ok (.ireturn, 1) := by decide +kernel
set_option maxRecDepth 20000 in
theorem ggX1_runs_X1_firstOf : GoodIn wsX1_runs wsX1_firstOf := goodIn_r _ [5, 6, 7, 8, 9, 10, 11, 12, 4, 13, 14, 15, 16, 17, 18, 19, 20, 21, 22, 23, 24, 25, 26, 27, 28, 29, 30, 31, 32] (by decide +kernel) (by decide +kernel)
set_option maxRecDepth 20000 in
theorem gX1_runs_X1_firstOf : GoodIn wsX1_runs (wsV RX1 74 RX1 yX1_firstOf wsX1_firstOf) := goodIn_app (goodIn_of _ (by decide +kernel)) ggX1_runs_X1_firstOf
theorem dX1_runs_0 : decode cX1_runs 0 = .ok (.aload_n 0, 1) := by decide +kernel
theorem dX1_runs_1 : decode cX1_runs 1 = .ok (.iconst 1, 1) := by decide +kernel
theorem dX1_runs_2 : decode cX1_runs 2 = .ok (.iconst 0, 1) := by decide +kernel
theorem dX1_runs_3 : decode cX1_runs 3 = .ok (.invokevirtual 74, 3) := by decide +kernel
theorem dX1_runs_6 : decode cX1_runs 6 = .ok (.ireturn, 1) := by decide +kernel
theorem dX1_enter_0 : decode cX1_enter 0 = .ok (.aload_n 0, 1) := by decide +kernel
theorem dX1_enter_1 : decode cX1_enter 1 = .ok (.getfield 7, 3) := by decide +kernel
theorem dX1_enter_4 : decode cX1_enter 4 = .ok (.iload_n 1, 1) := by decide +kernel
theorem dX1_enter_5 : decode cX1_enter 5 = .ok (.iload_n 2, 1) := by decide +kernel
theorem dX1_enter_6 : decode cX1_enter 6 = .ok (.iastore, 1) := by decide +kernel
theorem dX1_enter_7 : decode cX1_enter 7 = .ok (.aload_n 0, 1) := by decide +kernel
theorem dX1_enter_8 : decode cX1_enter 8 = .ok (.getfield 20, 3) := by decide +kernel
theorem dX1_enter_11 : decode cX1_enter 11 = .ok (.iload_n 1, 1) := by decide +kernel
theorem dX1_enter_12 : decode cX1_enter 12 = .ok (.iload_n 3, 1) := by decide +kernel
theorem dX1_enter_13 : decode cX1_enter 13 = .ok (.iastore, 1) := by decide +kernel
theorem dX1_enter_14 : decode cX1_enter 14 = .ok (.aload_n 0, 1) := by decide +kernel
theorem dX1_enter_15 : decode cX1_enter 15 = .ok (.dup, 1) := by decide +kernel
theorem dX1_enter_16 : decode cX1_enter 16 = .ok (.getfield 67, 3) := by decide +kernel
theorem dX1_enter_19 : decode cX1_enter 19 = .ok (.lconst 1, 1) := by decide +kernel
theorem dX1_enter_20 : decode cX1_enter 20 = .ok (.ladd, 1) := by decide +kernel
theorem dX1_enter_21 : decode cX1_enter 21 = .ok (.putfield 67, 3) := by decide +kernel
theorem dX1_enter_24 : decode cX1_enter 24 = .ok (.aload_n 0, 1) := by decide +kernel
theorem dX1_enter_25 : decode cX1_enter 25 = .ok (.getfield 16, 3) := by decide +kernel
theorem dX1_enter_28 : decode cX1_enter 28 = .ok (.iload_n 1, 1) := by decide +kernel
theorem dX1_enter_29 : decode cX1_enter 29 = .ok (.aload_n 0, 1) := by decide +kernel
theorem dX1_enter_30 : decode cX1_enter 30 = .ok (.getfield 67, 3) := by decide +kernel
theorem dX1_enter_33 : decode cX1_enter 33 = .ok (.lastore, 1) := by decide +kernel
theorem dX1_enter_34 : decode cX1_enter 34 = .ok (.return_, 1) := by decide +kernel
set_option maxRecDepth 20000 in
theorem ggX1_create_X1_isTask : GoodIn wsX1_create wsX1_isTask := goodIn_r _ [8] (by decide +kernel) (by decide +kernel)
set_option maxRecDepth 20000 in
theorem gX1_create_X1_isTask : GoodIn wsX1_create (va_wsS RX1 78 yX1_isTask wsX1_isTask) := goodIn_app (goodIn_of _ (by decide +kernel)) ggX1_create_X1_isTask
set_option maxRecDepth 20000 in
theorem ggX1_create_X1_isPriority : GoodIn wsX1_create wsX1_isPriority := goodIn_r _ [11] (by decide +kernel) (by decide +kernel)
set_option maxRecDepth 20000 in
theorem gX1_create_X1_isPriority : GoodIn wsX1_create (va_wsS RX1 82 yX1_isPriority wsX1_isPriority) := goodIn_app (goodIn_of _ (by decide +kernel)) ggX1_create_X1_isPriority
set_option maxRecDepth 20000 in
theorem ggX1_create_X1_enter : GoodIn wsX1_create wsX1_enter := goodIn_r _ [15, 1, 16, 17, 18, 33, 34, 35, 36, 37, 38, 39, 40, 41, 42, 43, 44, 45, 46, 47, 48, 49] (by decide +kernel) (by decide +kernel)
set_option maxRecDepth 20000 in
theorem gX1_create_X1_enter : GoodIn wsX1_create (wsV RX1 85 RX1 yX1_enter wsX1_enter) := goodIn_app (goodIn_of _ (by decide +kernel)) ggX1_create_X1_enter
set_option maxRecDepth 20000 in
theorem ggX1_create_X1_runs : GoodIn wsX1_create wsX1_runs := goodIn_r _ [22, 23, 24, 25, 7, 26, 1, 16, 27, 18, 28, 29, 30, 31, 3, 32, 33, 34, 35, 36, 37, 38, 39, 40, 41, 42, 43, 44, 45, 46, 47, 48, 49] (by decide +kernel) (by decide +kernel)
set_option maxRecDepth 20000 in
theorem gX1_create_X1_runs : GoodIn wsX1_create (wsV RX1 89 RX1 yX1_runs wsX1_runs) := goodIn_app (goodIn_of _ (by decide +kernel)) ggX1_create_X1_runs
theorem dX1_create_0 : decode cX1_create 0 = .ok (.aload_n 0, 1) := by decide +kernel
theorem dX1_create_1 : decode cX1_create 1 = .ok (.iload_n 1, 1) := by decide +kernel
theorem dX1_create_2 : decode cX1_create 2 = .ok (.invokestatic 78, 3) := by decide +kernel
theorem dX1_create_5 : decode cX1_create 5 = .ok (.ifCond .ne 7, 3) := by decide +kernel
theorem dX1_create_8 : decode cX1_create 8 = .ok (.iconst 1, 1) := by decide +kernel
theorem dX1_create_9 : decode cX1_create 9 = .ok (.goto 28, 3) := by decide +kernel
theorem dX1_create_12 : decode cX1_create 12 = .ok (.iload_n 2, 1) := by decide +kernel
theorem dX1_create_13 : decode cX1_create 13 = .ok (.invokestatic 82, 3) := by decide +kernel
theorem dX1_create_16 : decode cX1_create 16 = .ok (.ifCond .ne 7, 3) := by decide +kernel
theorem dX1_create_19 : decode cX1_create 19 = .ok (.iconst 2, 1) := by decide +kernel
theorem dX1_create_20 : decode cX1_create 20 = .ok (.goto 17, 3) := by decide +kernel
theorem dX1_create_23 : decode cX1_create 23 = .ok (.aload_n 0, 1) := by decide +kernel
theorem dX1_create_24 : decode cX1_create 24 = .ok (.getfield 7, 3) := by decide +kernel
theorem dX1_create_27 : decode cX1_create 27 = .ok (.iload_n 1, 1) := by decide +kernel
theorem dX1_create_28 : decode cX1_create 28 = .ok (.iaload, 1) := by decide +kernel
theorem dX1_create_29 : decode cX1_create 29 = .ok (.ifCond .eq 7, 3) := by decide +kernel
theorem dX1_create_32 : decode cX1_create 32 = .ok (.iconst 3, 1) := by decide +kernel
theorem dX1_create_33 : decode cX1_create 33 = .ok (.goto 4, 3) := by decide +kernel
theorem dX1_create_36 : decode cX1_create 36 = .ok (.iconst 0, 1) := by decide +kernel
theorem dX1_create_37 : decode cX1_create 37 = .ok (.putfield 64, 3) := by decide +kernel
theorem dX1_create_40 : decode cX1_create 40 = .ok (.aload_n 0, 1) := by decide +kernel
theorem dX1_create_41 : decode cX1_create 41 = .ok (.getfield 64, 3) := by decide +kernel
theorem dX1_create_44 : decode cX1_create 44 = .ok (.ifCond .le 5, 3) := by decide +kernel
theorem dX1_create_47 : decode cX1_create 47 = .ok (.iconst 0, 1) := by decide +kernel
theorem dX1_create_48 : decode cX1_create 48 = .ok (.ireturn, 1) := by decide +kernel
theorem dX1_create_49 : decode cX1_create 49 = .ok (.aload_n 0, 1) := by decide +kernel
theorem dX1_create_50 : decode cX1_create 50 = .ok (.getfield 13, 3) := by decide +kernel
theorem dX1_create_53 : decode cX1_create 53 = .ok (.iload_n 1, 1) := by decide +kernel
theorem dX1_create_54 : decode cX1_create 54 = .ok (.iload_n 2, 1) := by decide +kernel
theorem dX1_create_55 : decode cX1_create 55 = .ok (.iastore, 1) := by decide +kernel
theorem dX1_create_56 : decode cX1_create 56 = .ok (.aload_n 0, 1) := by decide +kernel
theorem dX1_create_57 : decode cX1_create 57 = .ok (.getfield 29, 3) := by decide +kernel
theorem dX1_create_60 : decode cX1_create 60 = .ok (.iload_n 1, 1) := by decide +kernel
theorem dX1_create_61 : decode cX1_create 61 = .ok (.iconst 0, 1) := by decide +kernel
theorem dX1_create_62 : decode cX1_create 62 = .ok (.iastore, 1) := by decide +kernel
theorem dX1_create_63 : decode cX1_create 63 = .ok (.aload_n 0, 1) := by decide +kernel
theorem dX1_create_64 : decode cX1_create 64 = .ok (.iload_n 1, 1) := by decide +kernel
theorem dX1_create_65 : decode cX1_create 65 = .ok (.iconst 1, 1) := by decide +kernel
theorem dX1_create_66 : decode cX1_create 66 = .ok (.iconst 0, 1) := by decide +kernel
theorem dX1_create_67 : decode cX1_create 67 = .ok (.invokevirtual 85, 3) := by decide +kernel
theorem dX1_create_70 : decode cX1_create 70 = .ok (.aload_n 0, 1) := by decide +kernel
theorem dX1_create_71 : decode cX1_create 71 = .ok (.invokevirtual 89, 3) := by decide +kernel
theorem dX1_create_74 : decode cX1_create 74 = .ok (.ireturn, 1) := by decide +kernel
set_option maxRecDepth 20000 in
theorem ggX1_priority_X1_isTask : GoodIn wsX1_priority wsX1_isTask := goodIn_r _ [7] (by decide +kernel) (by decide +kernel)
set_option maxRecDepth 20000 in
theorem gX1_priority_X1_isTask : GoodIn wsX1_priority (va_wsS RX1 78 yX1_isTask wsX1_isTask) := goodIn_app (goodIn_of _ (by decide +kernel)) ggX1_priority_X1_isTask
set_option maxRecDepth 20000 in
theorem ggX1_priority_X1_isPriority : GoodIn wsX1_priority wsX1_isPriority := goodIn_r _ [10] (by decide +kernel) (by decide +kernel)
set_option maxRecDepth 20000 in
theorem gX1_priority_X1_isPriority : GoodIn wsX1_priority (va_wsS RX1 82 yX1_isPriority wsX1_isPriority) := goodIn_app (goodIn_of _ (by decide +kernel)) ggX1_priority_X1_isPriority
theorem dX1_priority_0 : decode cX1_priority 0 = .ok (.aload_n 0, 1) := by decide +kernel
theorem dX1_priority_1 : decode cX1_priority 1 = .ok (.iload_n 1, 1) := by decide +kernel
theorem dX1_priority_2 : decode cX1_priority 2 = .ok (.invokestatic 78, 3) := by decide +kernel
theorem dX1_priority_5 : decode cX1_priority 5 = .ok (.ifCond .ne 7, 3) := by decide +kernel
theorem dX1_priority_8 : decode cX1_priority 8 = .ok (.iconst 1, 1) := by decide +kernel
theorem dX1_priority_9 : decode cX1_priority 9 = .ok (.goto 28, 3) := by decide +kernel
theorem dX1_priority_12 : decode cX1_priority 12 = .ok (.iload_n 2, 1) := by decide +kernel
theorem dX1_priority_13 : decode cX1_priority 13 = .ok (.invokestatic 82, 3) := by decide +kernel
theorem dX1_priority_16 : decode cX1_priority 16 = .ok (.ifCond .ne 7, 3) := by decide +kernel
theorem dX1_priority_19 : decode cX1_priority 19 = .ok (.iconst 2, 1) := by decide +kernel
theorem dX1_priority_20 : decode cX1_priority 20 = .ok (.goto 17, 3) := by decide +kernel
theorem dX1_priority_23 : decode cX1_priority 23 = .ok (.aload_n 0, 1) := by decide +kernel
theorem dX1_priority_24 : decode cX1_priority 24 = .ok (.getfield 7, 3) := by decide +kernel
theorem dX1_priority_27 : decode cX1_priority 27 = .ok (.iload_n 1, 1) := by decide +kernel
theorem dX1_priority_28 : decode cX1_priority 28 = .ok (.iaload, 1) := by decide +kernel
theorem dX1_priority_29 : decode cX1_priority 29 = .ok (.ifCond .ne 7, 3) := by decide +kernel
theorem dX1_priority_32 : decode cX1_priority 32 = .ok (.iconst 3, 1) := by decide +kernel
theorem dX1_priority_33 : decode cX1_priority 33 = .ok (.goto 4, 3) := by decide +kernel
theorem dX1_priority_36 : decode cX1_priority 36 = .ok (.iconst 0, 1) := by decide +kernel
theorem dX1_priority_37 : decode cX1_priority 37 = .ok (.putfield 64, 3) := by decide +kernel
theorem dX1_priority_40 : decode cX1_priority 40 = .ok (.aload_n 0, 1) := by decide +kernel
theorem dX1_priority_41 : decode cX1_priority 41 = .ok (.getfield 64, 3) := by decide +kernel
theorem dX1_priority_44 : decode cX1_priority 44 = .ok (.ifCond .le 5, 3) := by decide +kernel
theorem dX1_priority_47 : decode cX1_priority 47 = .ok (.iconst 0, 1) := by decide +kernel
theorem dX1_priority_48 : decode cX1_priority 48 = .ok (.ireturn, 1) := by decide +kernel
theorem dX1_priority_49 : decode cX1_priority 49 = .ok (.aload_n 0, 1) := by decide +kernel
theorem dX1_priority_50 : decode cX1_priority 50 = .ok (.getfield 13, 3) := by decide +kernel
theorem dX1_priority_53 : decode cX1_priority 53 = .ok (.iload_n 1, 1) := by decide +kernel
theorem dX1_priority_54 : decode cX1_priority 54 = .ok (.iaload, 1) := by decide +kernel
theorem dX1_priority_55 : decode cX1_priority 55 = .ok (.istore_n 3, 1) := by decide +kernel
theorem dX1_priority_56 : decode cX1_priority 56 = .ok (.aload_n 0, 1) := by decide +kernel
theorem dX1_priority_57 : decode cX1_priority 57 = .ok (.getfield 13, 3) := by decide +kernel
theorem dX1_priority_60 : decode cX1_priority 60 = .ok (.iload_n 1, 1) := by decide +kernel
theorem dX1_priority_61 : decode cX1_priority 61 = .ok (.iload_n 2, 1) := by decide +kernel
theorem dX1_priority_62 : decode cX1_priority 62 = .ok (.iastore, 1) := by decide +kernel
theorem dX1_priority_63 : decode cX1_priority 63 = .ok (.iload_n 3, 1) := by decide +kernel
theorem dX1_priority_64 : decode cX1_priority 64 = .ok (.ireturn, 1) := by decide +kernel
theorem dX1_leadsTo_0 : decode cX1_leadsTo 0 = .ok (.aload_n 0, 1) := by decide +kernel
theorem dX1_leadsTo_1 : decode cX1_leadsTo 1 = .ok (.getfield 32, 3) := by decide +kernel
theorem dX1_leadsTo_4 : decode cX1_leadsTo 4 = .ok (.iload_n 1, 1) := by decide +kernel
theorem dX1_leadsTo_5 : decode cX1_leadsTo 5 = .ok (.iaload, 1) := by decide +kernel
theorem dX1_leadsTo_6 : decode cX1_leadsTo 6 = .ok (.istore_n 3, 1) := by decide +kernel
theorem dX1_leadsTo_7 : decode cX1_leadsTo 7 = .ok (.iconst 0, 1) := by decide +kernel
theorem dX1_leadsTo_8 : decode cX1_leadsTo 8 = .ok (.istore 4, 2) := by decide +kernel
theorem dX1_leadsTo_10 : decode cX1_leadsTo 10 = .ok (.iload_n 3, 1) := by decide +kernel
theorem dX1_leadsTo_11 : decode cX1_leadsTo 11 = .ok (.ifCond .lt 43, 3) := by decide +kernel
theorem dX1_leadsTo_14 : decode cX1_leadsTo 14 = .ok (.iload_n 3, 1) := by decide +kernel
theorem dX1_leadsTo_15 : decode cX1_leadsTo 15 = .ok (.iload_n 2, 1) := by decide +kernel
theorem dX1_leadsTo_16 : decode cX1_leadsTo 16 = .ok (.if_icmp .eq 38, 3) := by decide +kernel
theorem dX1_leadsTo_19 : decode cX1_leadsTo 19 = .ok (.aload_n 0, 1) := by decide +kernel
theorem dX1_leadsTo_20 : decode cX1_leadsTo 20 = .ok (.getfield 7, 3) := by decide +kernel
theorem dX1_leadsTo_23 : decode cX1_leadsTo 23 = .ok (.iload_n 3, 1) := by decide +kernel
theorem dX1_leadsTo_24 : decode cX1_leadsTo 24 = .ok (.iaload, 1) := by decide +kernel
theorem dX1_leadsTo_25 : decode cX1_leadsTo 25 = .ok (.iconst 2, 1) := by decide +kernel
theorem dX1_leadsTo_26 : decode cX1_leadsTo 26 = .ok (.if_icmp .ne 28, 3) := by decide +kernel
theorem dX1_leadsTo_29 : decode cX1_leadsTo 29 = .ok (.iload 4, 2) := by decide +kernel
theorem dX1_leadsTo_31 : decode cX1_leadsTo 31 = .ok (.bipush 16, 2) := by decide +kernel
theorem dX1_leadsTo_33 : decode cX1_leadsTo 33 = .ok (.if_icmp .ge 21, 3) := by decide +kernel
theorem dX1_leadsTo_36 : decode cX1_leadsTo 36 = .ok (.aload_n 0, 1) := by decide +kernel
theorem dX1_leadsTo_37 : decode cX1_leadsTo 37 = .ok (.getfield 32, 3) := by decide +kernel
theorem dX1_leadsTo_40 : decode cX1_leadsTo 40 = .ok (.aload_n 0, 1) := by decide +kernel
theorem dX1_leadsTo_41 : decode cX1_leadsTo 41 = .ok (.getfield 20, 3) := by decide +kernel
theorem dX1_leadsTo_44 : decode cX1_leadsTo 44 = .ok (.iload_n 3, 1) := by decide +kernel
theorem dX1_leadsTo_45 : decode cX1_leadsTo 45 = .ok (.iaload, 1) := by decide +kernel
theorem dX1_leadsTo_46 : decode cX1_leadsTo 46 = .ok (.iaload, 1) := by decide +kernel
theorem dX1_leadsTo_47 : decode cX1_leadsTo 47 = .ok (.istore_n 3, 1) := by decide +kernel
theorem dX1_leadsTo_48 : decode cX1_leadsTo 48 = .ok (.iinc 4 1, 3) := by decide +kernel
theorem dX1_leadsTo_51 : decode cX1_leadsTo 51 = .ok (.goto (-41), 3) := by decide +kernel
theorem dX1_leadsTo_54 : decode cX1_leadsTo 54 = .ok (.iload_n 3, 1) := by decide +kernel
theorem dX1_leadsTo_55 : decode cX1_leadsTo 55 = .ok (.iload_n 2, 1) := by decide +kernel
theorem dX1_leadsTo_56 : decode cX1_leadsTo 56 = .ok (.if_icmp .ne 7, 3) := by decide +kernel
theorem dX1_leadsTo_59 : decode cX1_leadsTo 59 = .ok (.iconst 1, 1) := by decide +kernel
theorem dX1_leadsTo_60 : decode cX1_leadsTo 60 = .ok (.goto 4, 3) := by decide +kernel
theorem dX1_leadsTo_63 : decode cX1_leadsTo 63 = .ok (.iconst 0, 1) := by decide +kernel
theorem dX1_leadsTo_64 : decode cX1_leadsTo 64 = .ok (.ireturn, 1) := by decide +kernel
set_option maxRecDepth 20000 in
theorem ggX1_lock_X1_runs : GoodIn wsX1_lock wsX1_runs := goodIn_r _ [8, 9, 10, 11, 7, 12, 13, 14, 15, 16, 17, 18, 19, 20, 21, 3, 31, 32, 33, 34, 35, 36, 37, 38, 39, 40, 41, 42, 43, 44, 45, 46, 47] (by decide +kernel) (by decide +kernel)
set_option maxRecDepth 20000 in
theorem gX1_lock_X1_runs : GoodIn wsX1_lock (wsV RX1 89 RX1 yX1_runs wsX1_runs) := goodIn_app (goodIn_of _ (by decide +kernel)) ggX1_lock_X1_runs
set_option maxRecDepth 20000 in
theorem ggX1_lock_X1_leadsTo : GoodIn wsX1_lock wsX1_leadsTo := goodIn_r _ [25, 3, 13, 14, 31, 32, 33, 34, 35, 36, 37, 38, 39, 40, 41, 42, 43, 44, 45, 46, 47] (by decide +kernel) (by decide +kernel)
set_option maxRecDepth 20000 in
theorem gX1_lock_X1_leadsTo : GoodIn wsX1_lock (wsV RX1 93 RX1 yX1_leadsTo wsX1_leadsTo) := goodIn_app (goodIn_of _ (by decide +kernel)) ggX1_lock_X1_leadsTo
set_option maxRecDepth 20000 in
theorem ggX1_lock_X1_enter : GoodIn wsX1_lock wsX1_enter := goodIn_r _ [29, 13, 14, 30, 16, 31, 32, 33, 34, 35, 36, 37, 38, 39, 40, 41, 42, 43, 44, 45, 46, 47] (by decide +kernel) (by decide +kernel)
set_option maxRecDepth 20000 in
theorem gX1_lock_X1_enter : GoodIn wsX1_lock (wsV RX1 85 RX1 yX1_enter wsX1_enter) := goodIn_app (goodIn_of _ (by decide +kernel)) ggX1_lock_X1_enter
theorem dX1_lock_0 : decode cX1_lock 0 = .ok (.aload_n 0, 1) := by decide +kernel
theorem dX1_lock_1 : decode cX1_lock 1 = .ok (.invokevirtual 89, 3) := by decide +kernel
theorem dX1_lock_4 : decode cX1_lock 4 = .ok (.istore_n 2, 1) := by decide +kernel
theorem dX1_lock_5 : decode cX1_lock 5 = .ok (.iload_n 1, 1) := by decide +kernel
theorem dX1_lock_6 : decode cX1_lock 6 = .ok (.ifCond .lt 15, 3) := by decide +kernel
theorem dX1_lock_9 : decode cX1_lock 9 = .ok (.iload_n 1, 1) := by decide +kernel
theorem dX1_lock_10 : decode cX1_lock 10 = .ok (.aload_n 0, 1) := by decide +kernel
theorem dX1_lock_11 : decode cX1_lock 11 = .ok (.getfield 51, 3) := by decide +kernel
theorem dX1_lock_14 : decode cX1_lock 14 = .ok (.if_icmp .ge 7, 3) := by decide +kernel
theorem dX1_lock_17 : decode cX1_lock 17 = .ok (.iconst 1, 1) := by decide +kernel
theorem dX1_lock_18 : decode cX1_lock 18 = .ok (.goto 4, 3) := by decide +kernel
theorem dX1_lock_21 : decode cX1_lock 21 = .ok (.iconst 0, 1) := by decide +kernel
theorem dX1_lock_22 : decode cX1_lock 22 = .ok (.istore_n 3, 1) := by decide +kernel
theorem dX1_lock_23 : decode cX1_lock 23 = .ok (.aload_n 0, 1) := by decide +kernel
theorem dX1_lock_24 : decode cX1_lock 24 = .ok (.iload_n 3, 1) := by decide +kernel
theorem dX1_lock_25 : decode cX1_lock 25 = .ok (.ifCond .ne 7, 3) := by decide +kernel
theorem dX1_lock_28 : decode cX1_lock 28 = .ok (.iconst 1, 1) := by decide +kernel
theorem dX1_lock_29 : decode cX1_lock 29 = .ok (.goto 25, 3) := by decide +kernel
theorem dX1_lock_32 : decode cX1_lock 32 = .ok (.iload_n 2, 1) := by decide +kernel
theorem dX1_lock_33 : decode cX1_lock 33 = .ok (.ifCond .ge 7, 3) := by decide +kernel
theorem dX1_lock_36 : decode cX1_lock 36 = .ok (.iconst 2, 1) := by decide +kernel
theorem dX1_lock_37 : decode cX1_lock 37 = .ok (.goto 17, 3) := by decide +kernel
theorem dX1_lock_40 : decode cX1_lock 40 = .ok (.aload_n 0, 1) := by decide +kernel
theorem dX1_lock_41 : decode cX1_lock 41 = .ok (.iload_n 1, 1) := by decide +kernel
theorem dX1_lock_42 : decode cX1_lock 42 = .ok (.iload_n 2, 1) := by decide +kernel
theorem dX1_lock_43 : decode cX1_lock 43 = .ok (.invokevirtual 93, 3) := by decide +kernel
theorem dX1_lock_46 : decode cX1_lock 46 = .ok (.ifCond .eq 7, 3) := by decide +kernel
theorem dX1_lock_49 : decode cX1_lock 49 = .ok (.iconst 3, 1) := by decide +kernel
theorem dX1_lock_50 : decode cX1_lock 50 = .ok (.goto 4, 3) := by decide +kernel
theorem dX1_lock_53 : decode cX1_lock 53 = .ok (.iconst 0, 1) := by decide +kernel
theorem dX1_lock_54 : decode cX1_lock 54 = .ok (.putfield 64, 3) := by decide +kernel
theorem dX1_lock_57 : decode cX1_lock 57 = .ok (.aload_n 0, 1) := by decide +kernel
theorem dX1_lock_58 : decode cX1_lock 58 = .ok (.getfield 64, 3) := by decide +kernel
theorem dX1_lock_61 : decode cX1_lock 61 = .ok (.ifCond .le 5, 3) := by decide +kernel
theorem dX1_lock_64 : decode cX1_lock 64 = .ok (.iconst 0, 1) := by decide +kernel
theorem dX1_lock_65 : decode cX1_lock 65 = .ok (.ireturn, 1) := by decide +kernel
theorem dX1_lock_66 : decode cX1_lock 66 = .ok (.aload_n 0, 1) := by decide +kernel
theorem dX1_lock_67 : decode cX1_lock 67 = .ok (.getfield 32, 3) := by decide +kernel
theorem dX1_lock_70 : decode cX1_lock 70 = .ok (.iload_n 1, 1) := by decide +kernel
theorem dX1_lock_71 : decode cX1_lock 71 = .ok (.iaload, 1) := by decide +kernel
theorem dX1_lock_72 : decode cX1_lock 72 = .ok (.ifCond .ge 12, 3) := by decide +kernel
theorem dX1_lock_75 : decode cX1_lock 75 = .ok (.aload_n 0, 1) := by decide +kernel
theorem dX1_lock_76 : decode cX1_lock 76 = .ok (.getfield 32, 3) := by decide +kernel
theorem dX1_lock_79 : decode cX1_lock 79 = .ok (.iload_n 1, 1) := by decide +kernel
theorem dX1_lock_80 : decode cX1_lock 80 = .ok (.iload_n 2, 1) := by decide +kernel
theorem dX1_lock_81 : decode cX1_lock 81 = .ok (.iastore, 1) := by decide +kernel
theorem dX1_lock_82 : decode cX1_lock 82 = .ok (.iconst 0, 1) := by decide +kernel
theorem dX1_lock_83 : decode cX1_lock 83 = .ok (.ireturn, 1) := by decide +kernel
theorem dX1_lock_84 : decode cX1_lock 84 = .ok (.aload_n 0, 1) := by decide +kernel
theorem dX1_lock_85 : decode cX1_lock 85 = .ok (.iload_n 2, 1) := by decide +kernel
theorem dX1_lock_86 : decode cX1_lock 86 = .ok (.iconst 2, 1) := by decide +kernel
theorem dX1_lock_87 : decode cX1_lock 87 = .ok (.iload_n 1, 1) := by decide +kernel
theorem dX1_lock_88 : decode cX1_lock 88 = .ok (.invokevirtual 85, 3) := by decide +kernel
theorem dX1_lock_91 : decode cX1_lock 91 = .ok (.iconst 1, 1) := by decide +kernel
theorem dX1_lock_92 : decode cX1_lock 92 = .ok (.ireturn, 1) := by decide +kernel
set_option maxRecDepth 20000 in
theorem ggX1_unlock_X1_runs : GoodIn wsX1_unlock wsX1_runs := goodIn_r _ [8, 9, 10, 11, 7, 12, 13, 14, 15, 16, 17, 18, 19, 20, 21, 2, 27, 28, 29, 30, 31, 32, 33, 34, 35, 36, 37, 38, 39, 40, 41, 42, 43] (by decide +kernel) (by decide +kernel)
set_option maxRecDepth 20000 in
theorem gX1_unlock_X1_runs : GoodIn wsX1_unlock (wsV RX1 89 RX1 yX1_runs wsX1_runs) := goodIn_app (goodIn_of _ (by decide +kernel)) ggX1_unlock_X1_runs
set_option maxRecDepth 20000 in
theorem ggX1_unlock_X1_firstOf : GoodIn wsX1_unlock wsX1_firstOf := goodIn_r _ [12, 13, 14, 15, 16, 17, 18, 19, 7, 20, 21, 2, 27, 28, 29, 30, 31, 32, 33, 34, 35, 36, 37, 38, 39, 40, 41, 42, 43] (by decide +kernel) (by decide +kernel)
set_option maxRecDepth 20000 in
theorem gX1_unlock_X1_firstOf : GoodIn wsX1_unlock (wsV RX1 74 RX1 yX1_firstOf wsX1_firstOf) := goodIn_app (goodIn_of _ (by decide +kernel)) ggX1_unlock_X1_firstOf
set_option maxRecDepth 20000 in
theorem ggX1_unlock_X1_enter : GoodIn wsX1_unlock wsX1_enter := goodIn_r _ [25, 13, 14, 26, 16, 27, 28, 29, 30, 31, 32, 33, 34, 35, 36, 37, 38, 39, 40, 41, 42, 43] (by decide +kernel) (by decide +kernel)
set_option maxRecDepth 20000 in
theorem gX1_unlock_X1_enter : GoodIn wsX1_unlock (wsV RX1 85 RX1 yX1_enter wsX1_enter) := goodIn_app (goodIn_of _ (by decide +kernel)) ggX1_unlock_X1_enter
theorem dX1_unlock_0 : decode cX1_unlock 0 = .ok (.aload_n 0, 1) := by decide +kernel
theorem dX1_unlock_1 : decode cX1_unlock 1 = .ok (.invokevirtual 89, 3) := by decide +kernel
theorem dX1_unlock_4 : decode cX1_unlock 4 = .ok (.istore_n 2, 1) := by decide +kernel
theorem dX1_unlock_5 : decode cX1_unlock 5 = .ok (.iload_n 1, 1) := by decide +kernel
theorem dX1_unlock_6 : decode cX1_unlock 6 = .ok (.ifCond .lt 15, 3) := by decide +kernel
theorem dX1_unlock_9 : decode cX1_unlock 9 = .ok (.iload_n 1, 1) := by decide +kernel
theorem dX1_unlock_10 : decode cX1_unlock 10 = .ok (.aload_n 0, 1) := by decide +kernel
theorem dX1_unlock_11 : decode cX1_unlock 11 = .ok (.getfield 51, 3) := by decide +kernel
theorem dX1_unlock_14 : decode cX1_unlock 14 = .ok (.if_icmp .ge 7, 3) := by decide +kernel
theorem dX1_unlock_17 : decode cX1_unlock 17 = .ok (.iconst 1, 1) := by decide +kernel
theorem dX1_unlock_18 : decode cX1_unlock 18 = .ok (.goto 4, 3) := by decide +kernel
theorem dX1_unlock_21 : decode cX1_unlock 21 = .ok (.iconst 0, 1) := by decide +kernel
theorem dX1_unlock_22 : decode cX1_unlock 22 = .ok (.istore_n 3, 1) := by decide +kernel
theorem dX1_unlock_23 : decode cX1_unlock 23 = .ok (.aload_n 0, 1) := by decide +kernel
theorem dX1_unlock_24 : decode cX1_unlock 24 = .ok (.iload_n 3, 1) := by decide +kernel
theorem dX1_unlock_25 : decode cX1_unlock 25 = .ok (.ifCond .ne 7, 3) := by decide +kernel
theorem dX1_unlock_28 : decode cX1_unlock 28 = .ok (.iconst 1, 1) := by decide +kernel
theorem dX1_unlock_29 : decode cX1_unlock 29 = .ok (.goto 26, 3) := by decide +kernel
theorem dX1_unlock_32 : decode cX1_unlock 32 = .ok (.iload_n 2, 1) := by decide +kernel
theorem dX1_unlock_33 : decode cX1_unlock 33 = .ok (.ifCond .ge 7, 3) := by decide +kernel
theorem dX1_unlock_36 : decode cX1_unlock 36 = .ok (.iconst 2, 1) := by decide +kernel
theorem dX1_unlock_37 : decode cX1_unlock 37 = .ok (.goto 18, 3) := by decide +kernel
theorem dX1_unlock_40 : decode cX1_unlock 40 = .ok (.aload_n 0, 1) := by decide +kernel
theorem dX1_unlock_41 : decode cX1_unlock 41 = .ok (.getfield 32, 3) := by decide +kernel
theorem dX1_unlock_44 : decode cX1_unlock 44 = .ok (.iload_n 1, 1) := by decide +kernel
theorem dX1_unlock_45 : decode cX1_unlock 45 = .ok (.iaload, 1) := by decide +kernel
theorem dX1_unlock_46 : decode cX1_unlock 46 = .ok (.iload_n 2, 1) := by decide +kernel
theorem dX1_unlock_47 : decode cX1_unlock 47 = .ok (.if_icmp .eq 7, 3) := by decide +kernel
theorem dX1_unlock_50 : decode cX1_unlock 50 = .ok (.iconst 3, 1) := by decide +kernel
theorem dX1_unlock_51 : decode cX1_unlock 51 = .ok (.goto 4, 3) := by decide +kernel
theorem dX1_unlock_54 : decode cX1_unlock 54 = .ok (.iconst 0, 1) := by decide +kernel
theorem dX1_unlock_55 : decode cX1_unlock 55 = .ok (.putfield 64, 3) := by decide +kernel
theorem dX1_unlock_58 : decode cX1_unlock 58 = .ok (.aload_n 0, 1) := by decide +kernel
theorem dX1_unlock_59 : decode cX1_unlock 59 = .ok (.getfield 64, 3) := by decide +kernel
theorem dX1_unlock_62 : decode cX1_unlock 62 = .ok (.ifCond .le 5, 3) := by decide +kernel
theorem dX1_unlock_65 : decode cX1_unlock 65 = .ok (.iconst 0, 1) := by decide +kernel
theorem dX1_unlock_66 : decode cX1_unlock 66 = .ok (.ireturn, 1) := by decide +kernel
theorem dX1_unlock_67 : decode cX1_unlock 67 = .ok (.aload_n 0, 1) := by decide +kernel
theorem dX1_unlock_68 : decode cX1_unlock 68 = .ok (.iconst 2, 1) := by decide +kernel
theorem dX1_unlock_69 : decode cX1_unlock 69 = .ok (.iload_n 1, 1) := by decide +kernel
theorem dX1_unlock_70 : decode cX1_unlock 70 = .ok (.invokevirtual 74, 3) := by decide +kernel
theorem dX1_unlock_73 : decode cX1_unlock 73 = .ok (.istore 4, 2) := by decide +kernel
theorem dX1_unlock_75 : decode cX1_unlock 75 = .ok (.aload_n 0, 1) := by decide +kernel
theorem dX1_unlock_76 : decode cX1_unlock 76 = .ok (.getfield 32, 3) := by decide +kernel
theorem dX1_unlock_79 : decode cX1_unlock 79 = .ok (.iload_n 1, 1) := by decide +kernel
theorem dX1_unlock_80 : decode cX1_unlock 80 = .ok (.iload 4, 2) := by decide +kernel
theorem dX1_unlock_82 : decode cX1_unlock 82 = .ok (.iastore, 1) := by decide +kernel
theorem dX1_unlock_83 : decode cX1_unlock 83 = .ok (.iload 4, 2) := by decide +kernel
theorem dX1_unlock_85 : decode cX1_unlock 85 = .ok (.ifCond .lt 11, 3) := by decide +kernel
theorem dX1_unlock_88 : decode cX1_unlock 88 = .ok (.aload_n 0, 1) := by decide +kernel
theorem dX1_unlock_89 : decode cX1_unlock 89 = .ok (.iload 4, 2) := by decide +kernel
theorem dX1_unlock_91 : decode cX1_unlock 91 = .ok (.iconst 1, 1) := by decide +kernel
theorem dX1_unlock_92 : decode cX1_unlock 92 = .ok (.iconst 0, 1) := by decide +kernel
theorem dX1_unlock_93 : decode cX1_unlock 93 = .ok (.invokevirtual 85, 3) := by decide +kernel
theorem dX1_unlock_96 : decode cX1_unlock 96 = .ok (.iload 4, 2) := by decide +kernel
theorem dX1_unlock_98 : decode cX1_unlock 98 = .ok (.ireturn, 1) := by decide +kernel
set_option maxRecDepth 20000 in
theorem ggX1_down_X1_runs : GoodIn wsX1_down wsX1_runs := goodIn_r _ [8, 9, 10, 11, 7, 12, 13, 14, 15, 16, 17, 18, 19, 20, 21, 22, 28, 29, 30, 31, 32, 33, 34, 35, 36, 37, 38, 39, 40, 41, 42, 43, 44] (by decide +kernel) (by decide +kernel)
set_option maxRecDepth 20000 in
theorem gX1_down_X1_runs : GoodIn wsX1_down (wsV RX1 89 RX1 yX1_runs wsX1_runs) := goodIn_app (goodIn_of _ (by decide +kernel)) ggX1_down_X1_runs
set_option maxRecDepth 20000 in
theorem ggX1_down_X1_enter : GoodIn wsX1_down wsX1_enter := goodIn_r _ [26, 13, 14, 27, 16, 28, 29, 30, 31, 32, 33, 34, 35, 36, 37, 38, 39, 40, 41, 42, 43, 44] (by decide +kernel) (by decide +kernel)
set_option maxRecDepth 20000 in
theorem gX1_down_X1_enter : GoodIn wsX1_down (wsV RX1 85 RX1 yX1_enter wsX1_enter) := goodIn_app (goodIn_of _ (by decide +kernel)) ggX1_down_X1_enter
theorem dX1_down_0 : decode cX1_down 0 = .ok (.aload_n 0, 1) := by decide +kernel
theorem dX1_down_1 : decode cX1_down 1 = .ok (.invokevirtual 89, 3) := by decide +kernel
theorem dX1_down_4 : decode cX1_down 4 = .ok (.istore_n 2, 1) := by decide +kernel
theorem dX1_down_5 : decode cX1_down 5 = .ok (.aload_n 0, 1) := by decide +kernel
theorem dX1_down_6 : decode cX1_down 6 = .ok (.iload_n 1, 1) := by decide +kernel
theorem dX1_down_7 : decode cX1_down 7 = .ok (.ifCond .lt 11, 3) := by decide +kernel
theorem dX1_down_10 : decode cX1_down 10 = .ok (.iload_n 1, 1) := by decide +kernel
theorem dX1_down_11 : decode cX1_down 11 = .ok (.aload_n 0, 1) := by decide +kernel
theorem dX1_down_12 : decode cX1_down 12 = .ok (.getfield 55, 3) := by decide +kernel
theorem dX1_down_15 : decode cX1_down 15 = .ok (.if_icmp .lt 7, 3) := by decide +kernel
theorem dX1_down_18 : decode cX1_down 18 = .ok (.iconst 1, 1) := by decide +kernel
theorem dX1_down_19 : decode cX1_down 19 = .ok (.goto 12, 3) := by decide +kernel
theorem dX1_down_22 : decode cX1_down 22 = .ok (.iload_n 2, 1) := by decide +kernel
theorem dX1_down_23 : decode cX1_down 23 = .ok (.ifCond .ge 7, 3) := by decide +kernel
theorem dX1_down_26 : decode cX1_down 26 = .ok (.iconst 2, 1) := by decide +kernel
theorem dX1_down_27 : decode cX1_down 27 = .ok (.goto 4, 3) := by decide +kernel
theorem dX1_down_30 : decode cX1_down 30 = .ok (.iconst 0, 1) := by decide +kernel
theorem dX1_down_31 : decode cX1_down 31 = .ok (.putfield 64, 3) := by decide +kernel
theorem dX1_down_34 : decode cX1_down 34 = .ok (.aload_n 0, 1) := by decide +kernel
theorem dX1_down_35 : decode cX1_down 35 = .ok (.getfield 64, 3) := by decide +kernel
theorem dX1_down_38 : decode cX1_down 38 = .ok (.ifCond .le 5, 3) := by decide +kernel
theorem dX1_down_41 : decode cX1_down 41 = .ok (.iconst 0, 1) := by decide +kernel
theorem dX1_down_42 : decode cX1_down 42 = .ok (.ireturn, 1) := by decide +kernel
theorem dX1_down_43 : decode cX1_down 43 = .ok (.aload_n 0, 1) := by decide +kernel
theorem dX1_down_44 : decode cX1_down 44 = .ok (.getfield 35, 3) := by decide +kernel
theorem dX1_down_47 : decode cX1_down 47 = .ok (.iload_n 1, 1) := by decide +kernel
theorem dX1_down_48 : decode cX1_down 48 = .ok (.iaload, 1) := by decide +kernel
theorem dX1_down_49 : decode cX1_down 49 = .ok (.ifCond .le 15, 3) := by decide +kernel
theorem dX1_down_52 : decode cX1_down 52 = .ok (.aload_n 0, 1) := by decide +kernel
theorem dX1_down_53 : decode cX1_down 53 = .ok (.getfield 35, 3) := by decide +kernel
theorem dX1_down_56 : decode cX1_down 56 = .ok (.iload_n 1, 1) := by decide +kernel
theorem dX1_down_57 : decode cX1_down 57 = .ok (.dup2, 1) := by decide +kernel
theorem dX1_down_58 : decode cX1_down 58 = .ok (.iaload, 1) := by decide +kernel
theorem dX1_down_59 : decode cX1_down 59 = .ok (.iconst 1, 1) := by decide +kernel
theorem dX1_down_60 : decode cX1_down 60 = .ok (.isub, 1) := by decide +kernel
theorem dX1_down_61 : decode cX1_down 61 = .ok (.iastore, 1) := by decide +kernel
theorem dX1_down_62 : decode cX1_down 62 = .ok (.iconst 0, 1) := by decide +kernel
theorem dX1_down_63 : decode cX1_down 63 = .ok (.ireturn, 1) := by decide +kernel
theorem dX1_down_64 : decode cX1_down 64 = .ok (.aload_n 0, 1) := by decide +kernel
theorem dX1_down_65 : decode cX1_down 65 = .ok (.iload_n 2, 1) := by decide +kernel
theorem dX1_down_66 : decode cX1_down 66 = .ok (.iconst 3, 1) := by decide +kernel
theorem dX1_down_67 : decode cX1_down 67 = .ok (.iload_n 1, 1) := by decide +kernel
theorem dX1_down_68 : decode cX1_down 68 = .ok (.invokevirtual 85, 3) := by decide +kernel
theorem dX1_down_71 : decode cX1_down 71 = .ok (.iconst 1, 1) := by decide +kernel
theorem dX1_down_72 : decode cX1_down 72 = .ok (.ireturn, 1) := by decide +kernel
set_option maxRecDepth 20000 in
theorem ggX1_up_X1_firstOf : GoodIn wsX1_up wsX1_firstOf := goodIn_r _ [8, 9, 10, 11, 12, 13, 14, 15, 7, 16, 17, 18, 24, 25, 26, 27, 28, 29, 30, 31, 32, 33, 34, 35, 36, 37, 38, 39, 40] (by decide +kernel) (by decide +kernel)
set_option maxRecDepth 20000 in
theorem gX1_up_X1_firstOf : GoodIn wsX1_up (wsV RX1 74 RX1 yX1_firstOf wsX1_firstOf) := goodIn_app (goodIn_of _ (by decide +kernel)) ggX1_up_X1_firstOf
set_option maxRecDepth 20000 in
theorem ggX1_up_X1_enter : GoodIn wsX1_up wsX1_enter := goodIn_r _ [22, 9, 10, 23, 12, 24, 25, 26, 27, 28, 29, 30, 31, 32, 33, 34, 35, 36, 37, 38, 39, 40] (by decide +kernel) (by decide +kernel)
set_option maxRecDepth 20000 in
theorem gX1_up_X1_enter : GoodIn wsX1_up (wsV RX1 85 RX1 yX1_enter wsX1_enter) := goodIn_app (goodIn_of _ (by decide +kernel)) ggX1_up_X1_enter
theorem dX1_up_0 : decode cX1_up 0 = .ok (.aload_n 0, 1) := by decide +kernel
theorem dX1_up_1 : decode cX1_up 1 = .ok (.iload_n 1, 1) := by decide +kernel
theorem dX1_up_2 : decode cX1_up 2 = .ok (.ifCond .lt 11, 3) := by decide +kernel
theorem dX1_up_5 : decode cX1_up 5 = .ok (.iload_n 1, 1) := by decide +kernel
theorem dX1_up_6 : decode cX1_up 6 = .ok (.aload_n 0, 1) := by decide +kernel
theorem dX1_up_7 : decode cX1_up 7 = .ok (.getfield 55, 3) := by decide +kernel
theorem dX1_up_10 : decode cX1_up 10 = .ok (.if_icmp .lt 7, 3) := by decide +kernel
theorem dX1_up_13 : decode cX1_up 13 = .ok (.iconst 1, 1) := by decide +kernel
theorem dX1_up_14 : decode cX1_up 14 = .ok (.goto 4, 3) := by decide +kernel
theorem dX1_up_17 : decode cX1_up 17 = .ok (.iconst 0, 1) := by decide +kernel
theorem dX1_up_18 : decode cX1_up 18 = .ok (.putfield 64, 3) := by decide +kernel
theorem dX1_up_21 : decode cX1_up 21 = .ok (.aload_n 0, 1) := by decide +kernel
theorem dX1_up_22 : decode cX1_up 22 = .ok (.getfield 64, 3) := by decide +kernel
theorem dX1_up_25 : decode cX1_up 25 = .ok (.ifCond .le 5, 3) := by decide +kernel
theorem dX1_up_28 : decode cX1_up 28 = .ok (.iconst 0, 1) := by decide +kernel
theorem dX1_up_29 : decode cX1_up 29 = .ok (.ireturn, 1) := by decide +kernel
theorem dX1_up_30 : decode cX1_up 30 = .ok (.aload_n 0, 1) := by decide +kernel
theorem dX1_up_31 : decode cX1_up 31 = .ok (.iconst 3, 1) := by decide +kernel
theorem dX1_up_32 : decode cX1_up 32 = .ok (.iload_n 1, 1) := by decide +kernel
theorem dX1_up_33 : decode cX1_up 33 = .ok (.invokevirtual 74, 3) := by decide +kernel
theorem dX1_up_36 : decode cX1_up 36 = .ok (.istore_n 2, 1) := by decide +kernel
theorem dX1_up_37 : decode cX1_up 37 = .ok (.iload_n 2, 1) := by decide +kernel
theorem dX1_up_38 : decode cX1_up 38 = .ok (.ifCond .ge 22, 3) := by decide +kernel
theorem dX1_up_41 : decode cX1_up 41 = .ok (.aload_n 0, 1) := by decide +kernel
theorem dX1_up_42 : decode cX1_up 42 = .ok (.getfield 35, 3) := by decide +kernel
theorem dX1_up_45 : decode cX1_up 45 = .ok (.iload_n 1, 1) := by decide +kernel
theorem dX1_up_46 : decode cX1_up 46 = .ok (.iaload, 1) := by decide +kernel
theorem dX1_up_47 : decode cX1_up 47 = .ok (.sipush 1000, 3) := by decide +kernel
theorem dX1_up_50 : decode cX1_up 50 = .ok (.if_icmp .ne 10, 3) := by decide +kernel
theorem dX1_up_53 : decode cX1_up 53 = .ok (.aload_n 0, 1) := by decide +kernel
theorem dX1_up_54 : decode cX1_up 54 = .ok (.iconst 2, 1) := by decide +kernel
theorem dX1_up_55 : decode cX1_up 55 = .ok (.putfield 64, 3) := by decide +kernel
theorem dX1_up_58 : decode cX1_up 58 = .ok (.iconst 0, 1) := by decide +kernel
theorem dX1_up_59 : decode cX1_up 59 = .ok (.ireturn, 1) := by decide +kernel
theorem dX1_up_60 : decode cX1_up 60 = .ok (.iload_n 2, 1) := by decide +kernel
theorem dX1_up_61 : decode cX1_up 61 = .ok (.ifCond .ge 16, 3) := by decide +kernel
theorem dX1_up_64 : decode cX1_up 64 = .ok (.aload_n 0, 1) := by decide +kernel
theorem dX1_up_65 : decode cX1_up 65 = .ok (.getfield 35, 3) := by decide +kernel
theorem dX1_up_68 : decode cX1_up 68 = .ok (.iload_n 1, 1) := by decide +kernel
theorem dX1_up_69 : decode cX1_up 69 = .ok (.dup2, 1) := by decide +kernel
theorem dX1_up_70 : decode cX1_up 70 = .ok (.iaload, 1) := by decide +kernel
theorem dX1_up_71 : decode cX1_up 71 = .ok (.iconst 1, 1) := by decide +kernel
theorem dX1_up_72 : decode cX1_up 72 = .ok (.iadd, 1) := by decide +kernel
theorem dX1_up_73 : decode cX1_up 73 = .ok (.iastore, 1) := by decide +kernel
theorem dX1_up_74 : decode cX1_up 74 = .ok (.goto 10, 3) := by decide +kernel
theorem dX1_up_77 : decode cX1_up 77 = .ok (.aload_n 0, 1) := by decide +kernel
theorem dX1_up_78 : decode cX1_up 78 = .ok (.iload_n 2, 1) := by decide +kernel
theorem dX1_up_79 : decode cX1_up 79 = .ok (.iconst 1, 1) := by decide +kernel
theorem dX1_up_80 : decode cX1_up 80 = .ok (.iconst 0, 1) := by decide +kernel
theorem dX1_up_81 : decode cX1_up 81 = .ok (.invokevirtual 85, 3) := by decide +kernel
theorem dX1_up_84 : decode cX1_up 84 = .ok (.iload_n 2, 1) := by decide +kernel
theorem dX1_up_85 : decode cX1_up 85 = .ok (.ireturn, 1) := by decide +kernel
theorem dX1_put_0 : decode cX1_put 0 = .ok (.aload_n 0, 1) := by decide +kernel
theorem dX1_put_1 : decode cX1_put 1 = .ok (.getfield 41, 3) := by decide +kernel
theorem dX1_put_4 : decode cX1_put 4 = .ok (.iconst 4, 1) := by decide +kernel
theorem dX1_put_5 : decode cX1_put 5 = .ok (.iload_n 1, 1) := by decide +kernel
theorem dX1_put_6 : decode cX1_put 6 = .ok (.imul, 1) := by decide +kernel
theorem dX1_put_7 : decode cX1_put 7 = .ok (.aload_n 0, 1) := by decide +kernel
theorem dX1_put_8 : decode cX1_put 8 = .ok (.getfield 38, 3) := by decide +kernel
theorem dX1_put_11 : decode cX1_put 11 = .ok (.iload_n 1, 1) := by decide +kernel
theorem dX1_put_12 : decode cX1_put 12 = .ok (.iaload, 1) := by decide +kernel
theorem dX1_put_13 : decode cX1_put 13 = .ok (.iadd, 1) := by decide +kernel
theorem dX1_put_14 : decode cX1_put 14 = .ok (.iload_n 2, 1) := by decide +kernel
theorem dX1_put_15 : decode cX1_put 15 = .ok (.iastore, 1) := by decide +kernel
theorem dX1_put_16 : decode cX1_put 16 = .ok (.aload_n 0, 1) := by decide +kernel
theorem dX1_put_17 : decode cX1_put 17 = .ok (.getfield 38, 3) := by decide +kernel
theorem dX1_put_20 : decode cX1_put 20 = .ok (.iload_n 1, 1) := by decide +kernel
theorem dX1_put_21 : decode cX1_put 21 = .ok (.dup2, 1) := by decide +kernel
theorem dX1_put_22 : decode cX1_put 22 = .ok (.iaload, 1) := by decide +kernel
theorem dX1_put_23 : decode cX1_put 23 = .ok (.iconst 1, 1) := by decide +kernel
theorem dX1_put_24 : decode cX1_put 24 = .ok (.iadd, 1) := by decide +kernel
theorem dX1_put_25 : decode cX1_put 25 = .ok (.iastore, 1) := by decide +kernel
theorem dX1_put_26 : decode cX1_put 26 = .ok (.return_, 1) := by decide +kernel
set_option maxRecDepth 20000 in
theorem ggX1_send_X1_runs : GoodIn wsX1_send wsX1_runs := goodIn_r _ [10, 11, 12, 13, 9, 14, 15, 16, 17, 18, 19, 20, 21, 22, 23, 24, 35, 36, 37, 38, 39, 40, 41, 42, 43, 44, 45, 46, 47, 48, 49, 50, 51] (by decide +kernel) (by decide +kernel)
set_option maxRecDepth 20000 in
theorem gX1_send_X1_runs : GoodIn wsX1_send (wsV RX1 89 RX1 yX1_runs wsX1_runs) := goodIn_app (goodIn_of _ (by decide +kernel)) ggX1_send_X1_runs
set_option maxRecDepth 20000 in
theorem ggX1_send_X1_firstOf : GoodIn wsX1_send wsX1_firstOf := goodIn_r _ [14, 15, 16, 17, 18, 19, 20, 21, 9, 22, 23, 24, 35, 36, 37, 38, 39, 40, 41, 42, 43, 44, 45, 46, 47, 48, 49, 50, 51] (by decide +kernel) (by decide +kernel)
set_option maxRecDepth 20000 in
theorem gX1_send_X1_firstOf : GoodIn wsX1_send (wsV RX1 74 RX1 yX1_firstOf wsX1_firstOf) := goodIn_app (goodIn_of _ (by decide +kernel)) ggX1_send_X1_firstOf
set_option maxRecDepth 20000 in
theorem ggX1_send_X1_enter : GoodIn wsX1_send wsX1_enter := goodIn_r _ [28, 15, 16, 29, 18, 35, 36, 37, 38, 39, 40, 41, 42, 43, 44, 45, 46, 47, 48, 49, 50, 51] (by decide +kernel) (by decide +kernel)
set_option maxRecDepth 20000 in
theorem gX1_send_X1_enter : GoodIn wsX1_send (wsV RX1 85 RX1 yX1_enter wsX1_enter) := goodIn_app (goodIn_of _ (by decide +kernel)) ggX1_send_X1_enter
set_option maxRecDepth 20000 in
theorem ggX1_send_X1_put : GoodIn wsX1_send wsX1_put := goodIn_r _ [33, 34, 4, 35, 36, 37, 38, 39, 40, 41, 42, 43, 44, 45, 46, 47, 48, 49, 50, 51] (by decide +kernel) (by decide +kernel)
set_option maxRecDepth 20000 in
theorem gX1_send_X1_put : GoodIn wsX1_send (wsV RX1 97 RX1 yX1_put wsX1_put) := goodIn_app (goodIn_of _ (by decide +kernel)) ggX1_send_X1_put
theorem dX1_send_0 : decode cX1_send 0 = .ok (.aload_n 0, 1) := by decide +kernel
theorem dX1_send_1 : decode cX1_send 1 = .ok (.invokevirtual 89, 3) := by decide +kernel
theorem dX1_send_4 : decode cX1_send 4 = .ok (.istore_n 3, 1) := by decide +kernel
theorem dX1_send_5 : decode cX1_send 5 = .ok (.aload_n 0, 1) := by decide +kernel
theorem dX1_send_6 : decode cX1_send 6 = .ok (.iload_n 1, 1) := by decide +kernel
theorem dX1_send_7 : decode cX1_send 7 = .ok (.ifCond .lt 11, 3) := by decide +kernel
theorem dX1_send_10 : decode cX1_send 10 = .ok (.iload_n 1, 1) := by decide +kernel
theorem dX1_send_11 : decode cX1_send 11 = .ok (.aload_n 0, 1) := by decide +kernel
theorem dX1_send_12 : decode cX1_send 12 = .ok (.getfield 58, 3) := by decide +kernel
theorem dX1_send_15 : decode cX1_send 15 = .ok (.if_icmp .lt 7, 3) := by decide +kernel
theorem dX1_send_18 : decode cX1_send 18 = .ok (.iconst 1, 1) := by decide +kernel
theorem dX1_send_19 : decode cX1_send 19 = .ok (.goto 12, 3) := by decide +kernel
theorem dX1_send_22 : decode cX1_send 22 = .ok (.iload_n 3, 1) := by decide +kernel
theorem dX1_send_23 : decode cX1_send 23 = .ok (.ifCond .ge 7, 3) := by decide +kernel
theorem dX1_send_26 : decode cX1_send 26 = .ok (.iconst 2, 1) := by decide +kernel
theorem dX1_send_27 : decode cX1_send 27 = .ok (.goto 4, 3) := by decide +kernel
theorem dX1_send_30 : decode cX1_send 30 = .ok (.iconst 0, 1) := by decide +kernel
theorem dX1_send_31 : decode cX1_send 31 = .ok (.putfield 64, 3) := by decide +kernel
theorem dX1_send_34 : decode cX1_send 34 = .ok (.aload_n 0, 1) := by decide +kernel
theorem dX1_send_35 : decode cX1_send 35 = .ok (.getfield 64, 3) := by decide +kernel
theorem dX1_send_38 : decode cX1_send 38 = .ok (.ifCond .le 5, 3) := by decide +kernel
theorem dX1_send_41 : decode cX1_send 41 = .ok (.iconst 0, 1) := by decide +kernel
theorem dX1_send_42 : decode cX1_send 42 = .ok (.ireturn, 1) := by decide +kernel
theorem dX1_send_43 : decode cX1_send 43 = .ok (.aload_n 0, 1) := by decide +kernel
theorem dX1_send_44 : decode cX1_send 44 = .ok (.iconst 5, 1) := by decide +kernel
theorem dX1_send_45 : decode cX1_send 45 = .ok (.iload_n 1, 1) := by decide +kernel
theorem dX1_send_46 : decode cX1_send 46 = .ok (.invokevirtual 74, 3) := by decide +kernel
theorem dX1_send_49 : decode cX1_send 49 = .ok (.istore 4, 2) := by decide +kernel
theorem dX1_send_51 : decode cX1_send 51 = .ok (.iload 4, 2) := by decide +kernel
theorem dX1_send_53 : decode cX1_send 53 = .ok (.ifCond .lt 21, 3) := by decide +kernel
theorem dX1_send_56 : decode cX1_send 56 = .ok (.aload_n 0, 1) := by decide +kernel
theorem dX1_send_57 : decode cX1_send 57 = .ok (.getfield 29, 3) := by decide +kernel
theorem dX1_send_60 : decode cX1_send 60 = .ok (.iload 4, 2) := by decide +kernel
theorem dX1_send_62 : decode cX1_send 62 = .ok (.iload_n 2, 1) := by decide +kernel
theorem dX1_send_63 : decode cX1_send 63 = .ok (.iastore, 1) := by decide +kernel
theorem dX1_send_64 : decode cX1_send 64 = .ok (.aload_n 0, 1) := by decide +kernel
theorem dX1_send_65 : decode cX1_send 65 = .ok (.iload 4, 2) := by decide +kernel
theorem dX1_send_67 : decode cX1_send 67 = .ok (.iconst 1, 1) := by decide +kernel
theorem dX1_send_68 : decode cX1_send 68 = .ok (.iconst 0, 1) := by decide +kernel
theorem dX1_send_69 : decode cX1_send 69 = .ok (.invokevirtual 85, 3) := by decide +kernel
theorem dX1_send_72 : decode cX1_send 72 = .ok (.iconst 0, 1) := by decide +kernel
theorem dX1_send_73 : decode cX1_send 73 = .ok (.ireturn, 1) := by decide +kernel
theorem dX1_send_74 : decode cX1_send 74 = .ok (.aload_n 0, 1) := by decide +kernel
theorem dX1_send_75 : decode cX1_send 75 = .ok (.getfield 38, 3) := by decide +kernel
theorem dX1_send_78 : decode cX1_send 78 = .ok (.iload_n 1, 1) := by decide +kernel
theorem dX1_send_79 : decode cX1_send 79 = .ok (.iaload, 1) := by decide +kernel
theorem dX1_send_80 : decode cX1_send 80 = .ok (.iconst 4, 1) := by decide +kernel
theorem dX1_send_81 : decode cX1_send 81 = .ok (.if_icmp .ge 11, 3) := by decide +kernel
theorem dX1_send_84 : decode cX1_send 84 = .ok (.aload_n 0, 1) := by decide +kernel
theorem dX1_send_85 : decode cX1_send 85 = .ok (.iload_n 1, 1) := by decide +kernel
theorem dX1_send_86 : decode cX1_send 86 = .ok (.iload_n 2, 1) := by decide +kernel
theorem dX1_send_87 : decode cX1_send 87 = .ok (.invokevirtual 97, 3) := by decide +kernel
theorem dX1_send_90 : decode cX1_send 90 = .ok (.iconst 0, 1) := by decide +kernel
theorem dX1_send_91 : decode cX1_send 91 = .ok (.ireturn, 1) := by decide +kernel
theorem dX1_send_92 : decode cX1_send 92 = .ok (.aload_n 0, 1) := by decide +kernel
theorem dX1_send_93 : decode cX1_send 93 = .ok (.getfield 26, 3) := by decide +kernel
theorem dX1_send_96 : decode cX1_send 96 = .ok (.iload_n 3, 1) := by decide +kernel
theorem dX1_send_97 : decode cX1_send 97 = .ok (.iload_n 2, 1) := by decide +kernel
theorem dX1_send_98 : decode cX1_send 98 = .ok (.iastore, 1) := by decide +kernel
theorem dX1_send_99 : decode cX1_send 99 = .ok (.aload_n 0, 1) := by decide +kernel
theorem dX1_send_100 : decode cX1_send 100 = .ok (.iload_n 3, 1) := by decide +kernel
theorem dX1_send_101 : decode cX1_send 101 = .ok (.iconst 4, 1) := by decide +kernel
theorem dX1_send_102 : decode cX1_send 102 = .ok (.iload_n 1, 1) := by decide +kernel
theorem dX1_send_103 : decode cX1_send 103 = .ok (.invokevirtual 85, 3) := by decide +kernel
theorem dX1_send_106 : decode cX1_send 106 = .ok (.iconst 1, 1) := by decide +kernel
theorem dX1_send_107 : decode cX1_send 107 = .ok (.ireturn, 1) := by decide +kernel
set_option maxRecDepth 20000 in
theorem ggX1_receive_X1_runs : GoodIn wsX1_receive wsX1_runs := goodIn_r _ [11, 12, 13, 14, 10, 15, 16, 17, 18, 19, 20, 21, 22, 23, 24, 25, 35, 36, 37, 38, 39, 40, 41, 42, 43, 44, 45, 46, 47, 48, 49, 50, 51] (by decide +kernel) (by decide +kernel)
set_option maxRecDepth 20000 in
theorem gX1_receive_X1_runs : GoodIn wsX1_receive (wsV RX1 89 RX1 yX1_runs wsX1_runs) := goodIn_app (goodIn_of _ (by decide +kernel)) ggX1_receive_X1_runs
set_option maxRecDepth 20000 in
theorem ggX1_receive_X1_enter : GoodIn wsX1_receive wsX1_enter := goodIn_r _ [29, 16, 17, 30, 19, 35, 36, 37, 38, 39, 40, 41, 42, 43, 44, 45, 46, 47, 48, 49, 50, 51] (by decide +kernel) (by decide +kernel)
set_option maxRecDepth 20000 in
theorem gX1_receive_X1_enter : GoodIn wsX1_receive (wsV RX1 85 RX1 yX1_enter wsX1_enter) := goodIn_app (goodIn_of _ (by decide +kernel)) ggX1_receive_X1_enter
set_option maxRecDepth 20000 in
theorem ggX1_receive_X1_firstOf : GoodIn wsX1_receive wsX1_firstOf := goodIn_r _ [15, 16, 17, 18, 19, 20, 21, 22, 10, 23, 24, 25, 35, 36, 37, 38, 39, 40, 41, 42, 43, 44, 45, 46, 47, 48, 49, 50, 51] (by decide +kernel) (by decide +kernel)
set_option maxRecDepth 20000 in
theorem gX1_receive_X1_firstOf : GoodIn wsX1_receive (wsV RX1 74 RX1 yX1_firstOf wsX1_firstOf) := goodIn_app (goodIn_of _ (by decide +kernel)) ggX1_receive_X1_firstOf
set_option maxRecDepth 20000 in
theorem ggX1_receive_X1_put : GoodIn wsX1_receive wsX1_put := goodIn_r _ [34, 5, 3, 35, 36, 37, 38, 39, 40, 41, 42, 43, 44, 45, 46, 47, 48, 49, 50, 51] (by decide +kernel) (by decide +kernel)
set_option maxRecDepth 20000 in
theorem gX1_receive_X1_put : GoodIn wsX1_receive (wsV RX1 97 RX1 yX1_put wsX1_put) := goodIn_app (goodIn_of _ (by decide +kernel)) ggX1_receive_X1_put
theorem dX1_receive_0 : decode cX1_receive 0 = .ok (.aload_n 0, 1) := by decide +kernel
theorem dX1_receive_1 : decode cX1_receive 1 = .ok (.invokevirtual 89, 3) := by decide +kernel
theorem dX1_receive_4 : decode cX1_receive 4 = .ok (.istore_n 2, 1) := by decide +kernel
theorem dX1_receive_5 : decode cX1_receive 5 = .ok (.aload_n 0, 1) := by decide +kernel
theorem dX1_receive_6 : decode cX1_receive 6 = .ok (.iload_n 1, 1) := by decide +kernel
theorem dX1_receive_7 : decode cX1_receive 7 = .ok (.ifCond .lt 11, 3) := by decide +kernel
theorem dX1_receive_10 : decode cX1_receive 10 = .ok (.iload_n 1, 1) := by decide +kernel
theorem dX1_receive_11 : decode cX1_receive 11 = .ok (.aload_n 0, 1) := by decide +kernel
theorem dX1_receive_12 : decode cX1_receive 12 = .ok (.getfield 58, 3) := by decide +kernel
theorem dX1_receive_15 : decode cX1_receive 15 = .ok (.if_icmp .lt 7, 3) := by decide +kernel
theorem dX1_receive_18 : decode cX1_receive 18 = .ok (.iconst 1, 1) := by decide +kernel
theorem dX1_receive_19 : decode cX1_receive 19 = .ok (.goto 12, 3) := by decide +kernel
theorem dX1_receive_22 : decode cX1_receive 22 = .ok (.iload_n 2, 1) := by decide +kernel
theorem dX1_receive_23 : decode cX1_receive 23 = .ok (.ifCond .ge 7, 3) := by decide +kernel
theorem dX1_receive_26 : decode cX1_receive 26 = .ok (.iconst 2, 1) := by decide +kernel
theorem dX1_receive_27 : decode cX1_receive 27 = .ok (.goto 4, 3) := by decide +kernel
theorem dX1_receive_30 : decode cX1_receive 30 = .ok (.iconst 0, 1) := by decide +kernel
theorem dX1_receive_31 : decode cX1_receive 31 = .ok (.putfield 64, 3) := by decide +kernel
theorem dX1_receive_34 : decode cX1_receive 34 = .ok (.aload_n 0, 1) := by decide +kernel
theorem dX1_receive_35 : decode cX1_receive 35 = .ok (.getfield 64, 3) := by decide +kernel
theorem dX1_receive_38 : decode cX1_receive 38 = .ok (.ifCond .le 5, 3) := by decide +kernel
theorem dX1_receive_41 : decode cX1_receive 41 = .ok (.iconst 0, 1) := by decide +kernel
theorem dX1_receive_42 : decode cX1_receive 42 = .ok (.ireturn, 1) := by decide +kernel
theorem dX1_receive_43 : decode cX1_receive 43 = .ok (.aload_n 0, 1) := by decide +kernel
theorem dX1_receive_44 : decode cX1_receive 44 = .ok (.getfield 38, 3) := by decide +kernel
theorem dX1_receive_47 : decode cX1_receive 47 = .ok (.iload_n 1, 1) := by decide +kernel
theorem dX1_receive_48 : decode cX1_receive 48 = .ok (.iaload, 1) := by decide +kernel
theorem dX1_receive_49 : decode cX1_receive 49 = .ok (.ifCond .ne 12, 3) := by decide +kernel
theorem dX1_receive_52 : decode cX1_receive 52 = .ok (.aload_n 0, 1) := by decide +kernel
theorem dX1_receive_53 : decode cX1_receive 53 = .ok (.iload_n 2, 1) := by decide +kernel
theorem dX1_receive_54 : decode cX1_receive 54 = .ok (.iconst 5, 1) := by decide +kernel
theorem dX1_receive_55 : decode cX1_receive 55 = .ok (.iload_n 1, 1) := by decide +kernel
theorem dX1_receive_56 : decode cX1_receive 56 = .ok (.invokevirtual 85, 3) := by decide +kernel
theorem dX1_receive_59 : decode cX1_receive 59 = .ok (.iconst 1, 1) := by decide +kernel
theorem dX1_receive_60 : decode cX1_receive 60 = .ok (.ireturn, 1) := by decide +kernel
theorem dX1_receive_61 : decode cX1_receive 61 = .ok (.aload_n 0, 1) := by decide +kernel
theorem dX1_receive_62 : decode cX1_receive 62 = .ok (.getfield 29, 3) := by decide +kernel
theorem dX1_receive_65 : decode cX1_receive 65 = .ok (.iload_n 2, 1) := by decide +kernel
theorem dX1_receive_66 : decode cX1_receive 66 = .ok (.aload_n 0, 1) := by decide +kernel
theorem dX1_receive_67 : decode cX1_receive 67 = .ok (.getfield 41, 3) := by decide +kernel
theorem dX1_receive_70 : decode cX1_receive 70 = .ok (.iconst 4, 1) := by decide +kernel
theorem dX1_receive_71 : decode cX1_receive 71 = .ok (.iload_n 1, 1) := by decide +kernel
theorem dX1_receive_72 : decode cX1_receive 72 = .ok (.imul, 1) := by decide +kernel
theorem dX1_receive_73 : decode cX1_receive 73 = .ok (.iaload, 1) := by decide +kernel
theorem dX1_receive_74 : decode cX1_receive 74 = .ok (.iastore, 1) := by decide +kernel
theorem dX1_receive_75 : decode cX1_receive 75 = .ok (.aload_n 0, 1) := by decide +kernel
theorem dX1_receive_76 : decode cX1_receive 76 = .ok (.getfield 38, 3) := by decide +kernel
theorem dX1_receive_79 : decode cX1_receive 79 = .ok (.iload_n 1, 1) := by decide +kernel
theorem dX1_receive_80 : decode cX1_receive 80 = .ok (.dup2, 1) := by decide +kernel
theorem dX1_receive_81 : decode cX1_receive 81 = .ok (.iaload, 1) := by decide +kernel
theorem dX1_receive_82 : decode cX1_receive 82 = .ok (.iconst 1, 1) := by decide +kernel
theorem dX1_receive_83 : decode cX1_receive 83 = .ok (.isub, 1) := by decide +kernel
theorem dX1_receive_84 : decode cX1_receive 84 = .ok (.iastore, 1) := by decide +kernel
theorem dX1_receive_85 : decode cX1_receive 85 = .ok (.iconst 0, 1) := by decide +kernel
theorem dX1_receive_86 : decode cX1_receive 86 = .ok (.istore_n 3, 1) := by decide +kernel
theorem dX1_receive_87 : decode cX1_receive 87 = .ok (.iload_n 3, 1) := by decide +kernel
theorem dX1_receive_88 : decode cX1_receive 88 = .ok (.aload_n 0, 1) := by decide +kernel
theorem dX1_receive_89 : decode cX1_receive 89 = .ok (.getfield 38, 3) := by decide +kernel
theorem dX1_receive_92 : decode cX1_receive 92 = .ok (.iload_n 1, 1) := by decide +kernel
theorem dX1_receive_93 : decode cX1_receive 93 = .ok (.iaload, 1) := by decide +kernel
theorem dX1_receive_94 : decode cX1_receive 94 = .ok (.if_icmp .ge 31, 3) := by decide +kernel
theorem dX1_receive_97 : decode cX1_receive 97 = .ok (.aload_n 0, 1) := by decide +kernel
theorem dX1_receive_98 : decode cX1_receive 98 = .ok (.getfield 41, 3) := by decide +kernel
theorem dX1_receive_101 : decode cX1_receive 101 = .ok (.iconst 4, 1) := by decide +kernel
theorem dX1_receive_102 : decode cX1_receive 102 = .ok (.iload_n 1, 1) := by decide +kernel
theorem dX1_receive_103 : decode cX1_receive 103 = .ok (.imul, 1) := by decide +kernel
theorem dX1_receive_104 : decode cX1_receive 104 = .ok (.iload_n 3, 1) := by decide +kernel
theorem dX1_receive_105 : decode cX1_receive 105 = .ok (.iadd, 1) := by decide +kernel
theorem dX1_receive_106 : decode cX1_receive 106 = .ok (.aload_n 0, 1) := by decide +kernel
theorem dX1_receive_107 : decode cX1_receive 107 = .ok (.getfield 41, 3) := by decide +kernel
theorem dX1_receive_110 : decode cX1_receive 110 = .ok (.iconst 4, 1) := by decide +kernel
theorem dX1_receive_111 : decode cX1_receive 111 = .ok (.iload_n 1, 1) := by decide +kernel
theorem dX1_receive_112 : decode cX1_receive 112 = .ok (.imul, 1) := by decide +kernel
theorem dX1_receive_113 : decode cX1_receive 113 = .ok (.iload_n 3, 1) := by decide +kernel
theorem dX1_receive_114 : decode cX1_receive 114 = .ok (.iadd, 1) := by decide +kernel
theorem dX1_receive_115 : decode cX1_receive 115 = .ok (.iconst 1, 1) := by decide +kernel
theorem dX1_receive_116 : decode cX1_receive 116 = .ok (.iadd, 1) := by decide +kernel
theorem dX1_receive_117 : decode cX1_receive 117 = .ok (.iaload, 1) := by decide +kernel
theorem dX1_receive_118 : decode cX1_receive 118 = .ok (.iastore, 1) := by decide +kernel
theorem dX1_receive_119 : decode cX1_receive 119 = .ok (.iinc 3 1, 3) := by decide +kernel
theorem dX1_receive_122 : decode cX1_receive 122 = .ok (.goto (-35), 3) := by decide +kernel
theorem dX1_receive_125 : decode cX1_receive 125 = .ok (.aload_n 0, 1) := by decide +kernel
theorem dX1_receive_126 : decode cX1_receive 126 = .ok (.iconst 4, 1) := by decide +kernel
theorem dX1_receive_127 : decode cX1_receive 127 = .ok (.iload_n 1, 1) := by decide +kernel
theorem dX1_receive_128 : decode cX1_receive 128 = .ok (.invokevirtual 74, 3) := by decide +kernel
theorem dX1_receive_131 : decode cX1_receive 131 = .ok (.istore_n 3, 1) := by decide +kernel
theorem dX1_receive_132 : decode cX1_receive 132 = .ok (.iload_n 3, 1) := by decide +kernel
theorem dX1_receive_133 : decode cX1_receive 133 = .ok (.ifCond .lt 21, 3) := by decide +kernel
theorem dX1_receive_136 : decode cX1_receive 136 = .ok (.aload_n 0, 1) := by decide +kernel
theorem dX1_receive_137 : decode cX1_receive 137 = .ok (.iload_n 1, 1) := by decide +kernel
theorem dX1_receive_138 : decode cX1_receive 138 = .ok (.aload_n 0, 1) := by decide +kernel
theorem dX1_receive_139 : decode cX1_receive 139 = .ok (.getfield 26, 3) := by decide +kernel
theorem dX1_receive_142 : decode cX1_receive 142 = .ok (.iload_n 3, 1) := by decide +kernel
theorem dX1_receive_143 : decode cX1_receive 143 = .ok (.iaload, 1) := by decide +kernel
theorem dX1_receive_144 : decode cX1_receive 144 = .ok (.invokevirtual 97, 3) := by decide +kernel
theorem dX1_receive_147 : decode cX1_receive 147 = .ok (.aload_n 0, 1) := by decide +kernel
theorem dX1_receive_148 : decode cX1_receive 148 = .ok (.iload_n 3, 1) := by decide +kernel
theorem dX1_receive_149 : decode cX1_receive 149 = .ok (.iconst 1, 1) := by decide +kernel
theorem dX1_receive_150 : decode cX1_receive 150 = .ok (.iconst 0, 1) := by decide +kernel
theorem dX1_receive_151 : decode cX1_receive 151 = .ok (.invokevirtual 85, 3) := by decide +kernel
theorem dX1_receive_154 : decode cX1_receive 154 = .ok (.iconst 0, 1) := by decide +kernel
theorem dX1_receive_155 : decode cX1_receive 155 = .ok (.ireturn, 1) := by decide +kernel
set_option maxRecDepth 20000 in
theorem ggX1_sleep_X1_runs : GoodIn wsX1_sleep wsX1_runs := goodIn_r _ [7, 8, 9, 10, 6, 11, 12, 13, 14, 15, 16, 17, 18, 19, 20, 21, 27, 28, 29, 30, 31, 32, 33, 34, 35, 36, 37, 38, 39, 40, 41, 42, 43] (by decide +kernel) (by decide +kernel)
set_option maxRecDepth 20000 in
theorem gX1_sleep_X1_runs : GoodIn wsX1_sleep (wsV RX1 89 RX1 yX1_runs wsX1_runs) := goodIn_app (goodIn_of _ (by decide +kernel)) ggX1_sleep_X1_runs
set_option maxRecDepth 20000 in
theorem ggX1_sleep_X1_enter : GoodIn wsX1_sleep wsX1_enter := goodIn_r _ [25, 12, 13, 26, 15, 27, 28, 29, 30, 31, 32, 33, 34, 35, 36, 37, 38, 39, 40, 41, 42, 43] (by decide +kernel) (by decide +kernel)
set_option maxRecDepth 20000 in
theorem gX1_sleep_X1_enter : GoodIn wsX1_sleep (wsV RX1 85 RX1 yX1_enter wsX1_enter) := goodIn_app (goodIn_of _ (by decide +kernel)) ggX1_sleep_X1_enter
theorem dX1_sleep_0 : decode cX1_sleep 0 = .ok (.aload_n 0, 1) := by decide +kernel
theorem dX1_sleep_1 : decode cX1_sleep 1 = .ok (.invokevirtual 89, 3) := by decide +kernel
theorem dX1_sleep_4 : decode cX1_sleep 4 = .ok (.istore_n 2, 1) := by decide +kernel
theorem dX1_sleep_5 : decode cX1_sleep 5 = .ok (.aload_n 0, 1) := by decide +kernel
theorem dX1_sleep_6 : decode cX1_sleep 6 = .ok (.iload_n 2, 1) := by decide +kernel
theorem dX1_sleep_7 : decode cX1_sleep 7 = .ok (.ifCond .ge 7, 3) := by decide +kernel
theorem dX1_sleep_10 : decode cX1_sleep 10 = .ok (.iconst 1, 1) := by decide +kernel
theorem dX1_sleep_11 : decode cX1_sleep 11 = .ok (.goto 20, 3) := by decide +kernel
theorem dX1_sleep_14 : decode cX1_sleep 14 = .ok (.iload_n 1, 1) := by decide +kernel
theorem dX1_sleep_15 : decode cX1_sleep 15 = .ok (.iconst 1, 1) := by decide +kernel
theorem dX1_sleep_16 : decode cX1_sleep 16 = .ok (.if_icmp .lt 10, 3) := by decide +kernel
theorem dX1_sleep_19 : decode cX1_sleep 19 = .ok (.iload_n 1, 1) := by decide +kernel
theorem dX1_sleep_20 : decode cX1_sleep 20 = .ok (.sipush 1000, 3) := by decide +kernel
theorem dX1_sleep_23 : decode cX1_sleep 23 = .ok (.if_icmp .le 7, 3) := by decide +kernel
theorem dX1_sleep_26 : decode cX1_sleep 26 = .ok (.iconst 2, 1) := by decide +kernel
theorem dX1_sleep_27 : decode cX1_sleep 27 = .ok (.goto 4, 3) := by decide +kernel
theorem dX1_sleep_30 : decode cX1_sleep 30 = .ok (.iconst 0, 1) := by decide +kernel
theorem dX1_sleep_31 : decode cX1_sleep 31 = .ok (.putfield 64, 3) := by decide +kernel
theorem dX1_sleep_34 : decode cX1_sleep 34 = .ok (.aload_n 0, 1) := by decide +kernel
theorem dX1_sleep_35 : decode cX1_sleep 35 = .ok (.getfield 64, 3) := by decide +kernel
theorem dX1_sleep_38 : decode cX1_sleep 38 = .ok (.ifCond .le 5, 3) := by decide +kernel
theorem dX1_sleep_41 : decode cX1_sleep 41 = .ok (.iconst 0, 1) := by decide +kernel
theorem dX1_sleep_42 : decode cX1_sleep 42 = .ok (.ireturn, 1) := by decide +kernel
theorem dX1_sleep_43 : decode cX1_sleep 43 = .ok (.aload_n 0, 1) := by decide +kernel
theorem dX1_sleep_44 : decode cX1_sleep 44 = .ok (.getfield 23, 3) := by decide +kernel
theorem dX1_sleep_47 : decode cX1_sleep 47 = .ok (.iload_n 2, 1) := by decide +kernel
theorem dX1_sleep_48 : decode cX1_sleep 48 = .ok (.iload_n 1, 1) := by decide +kernel
theorem dX1_sleep_49 : decode cX1_sleep 49 = .ok (.iastore, 1) := by decide +kernel
theorem dX1_sleep_50 : decode cX1_sleep 50 = .ok (.aload_n 0, 1) := by decide +kernel
theorem dX1_sleep_51 : decode cX1_sleep 51 = .ok (.iload_n 2, 1) := by decide +kernel
theorem dX1_sleep_52 : decode cX1_sleep 52 = .ok (.bipush 6, 2) := by decide +kernel
theorem dX1_sleep_54 : decode cX1_sleep 54 = .ok (.iconst 0, 1) := by decide +kernel
theorem dX1_sleep_55 : decode cX1_sleep 55 = .ok (.invokevirtual 85, 3) := by decide +kernel
theorem dX1_sleep_58 : decode cX1_sleep 58 = .ok (.aload_n 0, 1) := by decide +kernel
theorem dX1_sleep_59 : decode cX1_sleep 59 = .ok (.invokevirtual 89, 3) := by decide +kernel
theorem dX1_sleep_62 : decode cX1_sleep 62 = .ok (.ireturn, 1) := by decide +kernel
theorem dX1_owned_0 : decode cX1_owned 0 = .ok (.iconst 0, 1) := by decide +kernel
theorem dX1_owned_1 : decode cX1_owned 1 = .ok (.istore_n 2, 1) := by decide +kernel
theorem dX1_owned_2 : decode cX1_owned 2 = .ok (.iconst 0, 1) := by decide +kernel
theorem dX1_owned_3 : decode cX1_owned 3 = .ok (.istore_n 3, 1) := by decide +kernel
theorem dX1_owned_4 : decode cX1_owned 4 = .ok (.iload_n 3, 1) := by decide +kernel
theorem dX1_owned_5 : decode cX1_owned 5 = .ok (.aload_n 0, 1) := by decide +kernel
theorem dX1_owned_6 : decode cX1_owned 6 = .ok (.getfield 51, 3) := by decide +kernel
theorem dX1_owned_9 : decode cX1_owned 9 = .ok (.if_icmp .ge 27, 3) := by decide +kernel
theorem dX1_owned_12 : decode cX1_owned 12 = .ok (.iload_n 2, 1) := by decide +kernel
theorem dX1_owned_13 : decode cX1_owned 13 = .ok (.aload_n 0, 1) := by decide +kernel
theorem dX1_owned_14 : decode cX1_owned 14 = .ok (.getfield 32, 3) := by decide +kernel
theorem dX1_owned_17 : decode cX1_owned 17 = .ok (.iload_n 3, 1) := by decide +kernel
theorem dX1_owned_18 : decode cX1_owned 18 = .ok (.iaload, 1) := by decide +kernel
theorem dX1_owned_19 : decode cX1_owned 19 = .ok (.iload_n 1, 1) := by decide +kernel
theorem dX1_owned_20 : decode cX1_owned 20 = .ok (.if_icmp .ne 7, 3) := by decide +kernel
theorem dX1_owned_23 : decode cX1_owned 23 = .ok (.iconst 1, 1) := by decide +kernel
theorem dX1_owned_24 : decode cX1_owned 24 = .ok (.goto 4, 3) := by decide +kernel
theorem dX1_owned_27 : decode cX1_owned 27 = .ok (.iconst 0, 1) := by decide +kernel
theorem dX1_owned_28 : decode cX1_owned 28 = .ok (.iadd, 1) := by decide +kernel
theorem dX1_owned_29 : decode cX1_owned 29 = .ok (.istore_n 2, 1) := by decide +kernel
theorem dX1_owned_30 : decode cX1_owned 30 = .ok (.iinc 3 1, 3) := by decide +kernel
theorem dX1_owned_33 : decode cX1_owned 33 = .ok (.goto (-29), 3) := by decide +kernel
theorem dX1_owned_36 : decode cX1_owned 36 = .ok (.iload_n 2, 1) := by decide +kernel
theorem dX1_owned_37 : decode cX1_owned 37 = .ok (.ireturn, 1) := by decide +kernel
set_option maxRecDepth 20000 in
theorem ggX1_end_X1_runs : GoodIn wsX1_end wsX1_runs := goodIn_r _ [9, 10, 11, 12, 8, 13, 2, 14, 15, 16, 17, 18, 19, 20, 3, 21, 27, 28, 29, 30, 31, 32, 33, 34, 35, 36, 37, 38, 39, 40, 41, 42, 43] (by decide +kernel) (by decide +kernel)
set_option maxRecDepth 20000 in
theorem gX1_end_X1_runs : GoodIn wsX1_end (wsV RX1 89 RX1 yX1_runs wsX1_runs) := goodIn_app (goodIn_of _ (by decide +kernel)) ggX1_end_X1_runs
set_option maxRecDepth 20000 in
theorem ggX1_end_X1_owned : GoodIn wsX1_end wsX1_owned := goodIn_r _ [25, 26, 21, 27, 28, 29, 30, 31, 32, 33, 34, 35, 36, 37, 38, 39, 40, 41, 42, 43] (by decide +kernel) (by decide +kernel)
set_option maxRecDepth 20000 in
theorem gX1_end_X1_owned : GoodIn wsX1_end (wsV RX1 101 RX1 yX1_owned wsX1_owned) := goodIn_app (goodIn_of _ (by decide +kernel)) ggX1_end_X1_owned
theorem dX1_end_0 : decode cX1_end 0 = .ok (.aload_n 0, 1) := by decide +kernel
theorem dX1_end_1 : decode cX1_end 1 = .ok (.invokevirtual 89, 3) := by decide +kernel
theorem dX1_end_4 : decode cX1_end 4 = .ok (.istore_n 1, 1) := by decide +kernel
theorem dX1_end_5 : decode cX1_end 5 = .ok (.aload_n 0, 1) := by decide +kernel
theorem dX1_end_6 : decode cX1_end 6 = .ok (.iload_n 1, 1) := by decide +kernel
theorem dX1_end_7 : decode cX1_end 7 = .ok (.ifCond .ge 7, 3) := by decide +kernel
theorem dX1_end_10 : decode cX1_end 10 = .ok (.iconst 1, 1) := by decide +kernel
theorem dX1_end_11 : decode cX1_end 11 = .ok (.goto 16, 3) := by decide +kernel
theorem dX1_end_14 : decode cX1_end 14 = .ok (.aload_n 0, 1) := by decide +kernel
theorem dX1_end_15 : decode cX1_end 15 = .ok (.iload_n 1, 1) := by decide +kernel
theorem dX1_end_16 : decode cX1_end 16 = .ok (.invokevirtual 101, 3) := by decide +kernel
theorem dX1_end_19 : decode cX1_end 19 = .ok (.ifCond .le 7, 3) := by decide +kernel
theorem dX1_end_22 : decode cX1_end 22 = .ok (.iconst 2, 1) := by decide +kernel
theorem dX1_end_23 : decode cX1_end 23 = .ok (.goto 4, 3) := by decide +kernel
theorem dX1_end_26 : decode cX1_end 26 = .ok (.iconst 0, 1) := by decide +kernel
theorem dX1_end_27 : decode cX1_end 27 = .ok (.putfield 64, 3) := by decide +kernel
theorem dX1_end_30 : decode cX1_end 30 = .ok (.aload_n 0, 1) := by decide +kernel
theorem dX1_end_31 : decode cX1_end 31 = .ok (.getfield 64, 3) := by decide +kernel
theorem dX1_end_34 : decode cX1_end 34 = .ok (.ifCond .le 5, 3) := by decide +kernel
theorem dX1_end_37 : decode cX1_end 37 = .ok (.iconst 0, 1) := by decide +kernel
theorem dX1_end_38 : decode cX1_end 38 = .ok (.ireturn, 1) := by decide +kernel
theorem dX1_end_39 : decode cX1_end 39 = .ok (.aload_n 0, 1) := by decide +kernel
theorem dX1_end_40 : decode cX1_end 40 = .ok (.getfield 7, 3) := by decide +kernel
theorem dX1_end_43 : decode cX1_end 43 = .ok (.iload_n 1, 1) := by decide +kernel
theorem dX1_end_44 : decode cX1_end 44 = .ok (.iconst 0, 1) := by decide +kernel
theorem dX1_end_45 : decode cX1_end 45 = .ok (.iastore, 1) := by decide +kernel
theorem dX1_end_46 : decode cX1_end 46 = .ok (.aload_n 0, 1) := by decide +kernel
theorem dX1_end_47 : decode cX1_end 47 = .ok (.getfield 13, 3) := by decide +kernel
theorem dX1_end_50 : decode cX1_end 50 = .ok (.iload_n 1, 1) := by decide +kernel
theorem dX1_end_51 : decode cX1_end 51 = .ok (.iconst 0, 1) := by decide +kernel
theorem dX1_end_52 : decode cX1_end 52 = .ok (.iastore, 1) := by decide +kernel
theorem dX1_end_53 : decode cX1_end 53 = .ok (.aload_n 0, 1) := by decide +kernel
theorem dX1_end_54 : decode cX1_end 54 = .ok (.getfield 29, 3) := by decide +kernel
theorem dX1_end_57 : decode cX1_end 57 = .ok (.iload_n 1, 1) := by decide +kernel
theorem dX1_end_58 : decode cX1_end 58 = .ok (.iconst 0, 1) := by decide +kernel
theorem dX1_end_59 : decode cX1_end 59 = .ok (.iastore, 1) := by decide +kernel
theorem dX1_end_60 : decode cX1_end 60 = .ok (.aload_n 0, 1) := by decide +kernel
theorem dX1_end_61 : decode cX1_end 61 = .ok (.invokevirtual 89, 3) := by decide +kernel
theorem dX1_end_64 : decode cX1_end 64 = .ok (.ireturn, 1) := by decide +kernel
set_option maxRecDepth 20000 in
theorem ggX1_tick_X1_enter : GoodIn wsX1_tick wsX1_enter := goodIn_r _ [8, 2, 9, 10, 11, 12, 13, 14, 15, 16, 17, 18, 19, 20, 21, 22, 23, 24, 25, 26, 27, 28] (by decide +kernel) (by decide +kernel)
set_option maxRecDepth 20000 in
theorem gX1_tick_X1_enter : GoodIn wsX1_tick (wsV RX1 85 RX1 yX1_enter wsX1_enter) := goodIn_app (goodIn_of _ (by decide +kernel)) ggX1_tick_X1_enter
theorem dX1_tick_0 : decode cX1_tick 0 = .ok (.aload_n 0, 1) := by decide +kernel
theorem dX1_tick_1 : decode cX1_tick 1 = .ok (.iload_n 1, 1) := by decide +kernel
theorem dX1_tick_2 : decode cX1_tick 2 = .ok (.ifCond .lt 10, 3) := by decide +kernel
theorem dX1_tick_5 : decode cX1_tick 5 = .ok (.iload_n 1, 1) := by decide +kernel
theorem dX1_tick_6 : decode cX1_tick 6 = .ok (.sipush 1000, 3) := by decide +kernel
theorem dX1_tick_9 : decode cX1_tick 9 = .ok (.if_icmp .le 7, 3) := by decide +kernel
theorem dX1_tick_12 : decode cX1_tick 12 = .ok (.iconst 1, 1) := by decide +kernel
theorem dX1_tick_13 : decode cX1_tick 13 = .ok (.goto 4, 3) := by decide +kernel
theorem dX1_tick_16 : decode cX1_tick 16 = .ok (.iconst 0, 1) := by decide +kernel
theorem dX1_tick_17 : decode cX1_tick 17 = .ok (.putfield 64, 3) := by decide +kernel
theorem dX1_tick_20 : decode cX1_tick 20 = .ok (.aload_n 0, 1) := by decide +kernel
theorem dX1_tick_21 : decode cX1_tick 21 = .ok (.getfield 64, 3) := by decide +kernel
theorem dX1_tick_24 : decode cX1_tick 24 = .ok (.ifCond .le 5, 3) := by decide +kernel
theorem dX1_tick_27 : decode cX1_tick 27 = .ok (.iconst 0, 1) := by decide +kernel
theorem dX1_tick_28 : decode cX1_tick 28 = .ok (.ireturn, 1) := by decide +kernel
theorem dX1_tick_29 : decode cX1_tick 29 = .ok (.iconst 0, 1) := by decide +kernel
theorem dX1_tick_30 : decode cX1_tick 30 = .ok (.istore_n 2, 1) := by decide +kernel
theorem dX1_tick_31 : decode cX1_tick 31 = .ok (.iconst 0, 1) := by decide +kernel
theorem dX1_tick_32 : decode cX1_tick 32 = .ok (.istore_n 3, 1) := by decide +kernel
theorem dX1_tick_33 : decode cX1_tick 33 = .ok (.iload_n 3, 1) := by decide +kernel
theorem dX1_tick_34 : decode cX1_tick 34 = .ok (.iload_n 1, 1) := by decide +kernel
theorem dX1_tick_35 : decode cX1_tick 35 = .ok (.if_icmp .ge 69, 3) := by decide +kernel
theorem dX1_tick_38 : decode cX1_tick 38 = .ok (.iconst 0, 1) := by decide +kernel
theorem dX1_tick_39 : decode cX1_tick 39 = .ok (.istore 4, 2) := by decide +kernel
theorem dX1_tick_41 : decode cX1_tick 41 = .ok (.iload 4, 2) := by decide +kernel
theorem dX1_tick_43 : decode cX1_tick 43 = .ok (.bipush 16, 2) := by decide +kernel
theorem dX1_tick_45 : decode cX1_tick 45 = .ok (.if_icmp .ge 53, 3) := by decide +kernel
theorem dX1_tick_48 : decode cX1_tick 48 = .ok (.aload_n 0, 1) := by decide +kernel
theorem dX1_tick_49 : decode cX1_tick 49 = .ok (.getfield 7, 3) := by decide +kernel
theorem dX1_tick_52 : decode cX1_tick 52 = .ok (.iload 4, 2) := by decide +kernel
theorem dX1_tick_54 : decode cX1_tick 54 = .ok (.iaload, 1) := by decide +kernel
theorem dX1_tick_55 : decode cX1_tick 55 = .ok (.bipush 6, 2) := by decide +kernel
theorem dX1_tick_57 : decode cX1_tick 57 = .ok (.if_icmp .ne 35, 3) := by decide +kernel
theorem dX1_tick_60 : decode cX1_tick 60 = .ok (.aload_n 0, 1) := by decide +kernel
theorem dX1_tick_61 : decode cX1_tick 61 = .ok (.getfield 23, 3) := by decide +kernel
theorem dX1_tick_64 : decode cX1_tick 64 = .ok (.iload 4, 2) := by decide +kernel
theorem dX1_tick_66 : decode cX1_tick 66 = .ok (.dup2, 1) := by decide +kernel
theorem dX1_tick_67 : decode cX1_tick 67 = .ok (.iaload, 1) := by decide +kernel
theorem dX1_tick_68 : decode cX1_tick 68 = .ok (.iconst 1, 1) := by decide +kernel
theorem dX1_tick_69 : decode cX1_tick 69 = .ok (.isub, 1) := by decide +kernel
theorem dX1_tick_70 : decode cX1_tick 70 = .ok (.iastore, 1) := by decide +kernel
theorem dX1_tick_71 : decode cX1_tick 71 = .ok (.aload_n 0, 1) := by decide +kernel
theorem dX1_tick_72 : decode cX1_tick 72 = .ok (.getfield 23, 3) := by decide +kernel
theorem dX1_tick_75 : decode cX1_tick 75 = .ok (.iload 4, 2) := by decide +kernel
theorem dX1_tick_77 : decode cX1_tick 77 = .ok (.iaload, 1) := by decide +kernel
theorem dX1_tick_78 : decode cX1_tick 78 = .ok (.ifCond .ne 14, 3) := by decide +kernel
theorem dX1_tick_81 : decode cX1_tick 81 = .ok (.aload_n 0, 1) := by decide +kernel
theorem dX1_tick_82 : decode cX1_tick 82 = .ok (.iload 4, 2) := by decide +kernel
theorem dX1_tick_84 : decode cX1_tick 84 = .ok (.iconst 1, 1) := by decide +kernel
theorem dX1_tick_85 : decode cX1_tick 85 = .ok (.iconst 0, 1) := by decide +kernel
theorem dX1_tick_86 : decode cX1_tick 86 = .ok (.invokevirtual 85, 3) := by decide +kernel
theorem dX1_tick_89 : decode cX1_tick 89 = .ok (.iinc 2 1, 3) := by decide +kernel
theorem dX1_tick_92 : decode cX1_tick 92 = .ok (.iinc 4 1, 3) := by decide +kernel
theorem dX1_tick_95 : decode cX1_tick 95 = .ok (.goto (-54), 3) := by decide +kernel
theorem dX1_tick_98 : decode cX1_tick 98 = .ok (.iinc 3 1, 3) := by decide +kernel
theorem dX1_tick_101 : decode cX1_tick 101 = .ok (.goto (-68), 3) := by decide +kernel
theorem dX1_tick_104 : decode cX1_tick 104 = .ok (.iload_n 2, 1) := by decide +kernel
theorem dX1_tick_105 : decode cX1_tick 105 = .ok (.ireturn, 1) := by decide +kernel
set_option maxRecDepth 20000 in
theorem ggX1_running_X1_runs : GoodIn wsX1_running wsX1_runs := goodIn_r _ [6, 7, 8, 9, 5, 10, 11, 12, 13, 14, 15, 16, 17, 18, 19, 20, 21, 22, 23, 24, 25, 26, 27, 28, 29, 30, 31, 32, 33, 34, 35, 36, 37] (by decide +kernel) (by decide +kernel)
set_option maxRecDepth 20000 in
theorem gX1_running_X1_runs : GoodIn wsX1_running (wsV RX1 89 RX1 yX1_runs wsX1_runs) := goodIn_app (goodIn_of _ (by decide +kernel)) ggX1_running_X1_runs
theorem dX1_running_0 : decode cX1_running 0 = .ok (.aload_n 0, 1) := by decide +kernel
theorem dX1_running_1 : decode cX1_running 1 = .ok (.iconst 0, 1) := by decide +kernel
theorem dX1_running_2 : decode cX1_running 2 = .ok (.putfield 64, 3) := by decide +kernel
theorem dX1_running_5 : decode cX1_running 5 = .ok (.aload_n 0, 1) := by decide +kernel
theorem dX1_running_6 : decode cX1_running 6 = .ok (.invokevirtual 89, 3) := by decide +kernel
theorem dX1_running_9 : decode cX1_running 9 = .ok (.ireturn, 1) := by decide +kernel
set_option maxRecDepth 20000 in
theorem ggX1_told_X1_isTask : GoodIn wsX1_told wsX1_isTask := goodIn_r _ [11] (by decide +kernel) (by decide +kernel)
set_option maxRecDepth 20000 in
theorem gX1_told_X1_isTask : GoodIn wsX1_told (va_wsS RX1 78 yX1_isTask wsX1_isTask) := goodIn_app (goodIn_of _ (by decide +kernel)) ggX1_told_X1_isTask
set_option maxRecDepth 20000 in
theorem ggX1_told_X1_findEffective : GoodIn wsX1_told wsX1_findEffective := goodIn_r _ [15, 4, 2, 3, 16, 5, 22, 23, 24, 25, 26, 27, 28, 29, 30, 31, 32, 33, 34, 35, 36, 37, 38] (by decide +kernel) (by decide +kernel)
set_option maxRecDepth 20000 in
theorem gX1_told_X1_findEffective : GoodIn wsX1_told (wsV RX1 71 RX1 yX1_findEffective wsX1_findEffective) := goodIn_app (goodIn_of _ (by decide +kernel)) ggX1_told_X1_findEffective
set_option maxRecDepth 20000 in
theorem ggX1_told_X1_owned : GoodIn wsX1_told wsX1_owned := goodIn_r _ [20, 21, 16, 22, 23, 24, 25, 26, 27, 28, 29, 30, 31, 32, 33, 34, 35, 36, 37, 38] (by decide +kernel) (by decide +kernel)
set_option maxRecDepth 20000 in
theorem gX1_told_X1_owned : GoodIn wsX1_told (wsV RX1 101 RX1 yX1_owned wsX1_owned) := goodIn_app (goodIn_of _ (by decide +kernel)) ggX1_told_X1_owned
theorem dX1_told_0 : decode cX1_told 0 = .ok (.aload_n 0, 1) := by decide +kernel
theorem dX1_told_1 : decode cX1_told 1 = .ok (.iload_n 1, 1) := by decide +kernel
theorem dX1_told_2 : decode cX1_told 2 = .ok (.invokestatic 78, 3) := by decide +kernel
theorem dX1_told_5 : decode cX1_told 5 = .ok (.ifCond .ne 7, 3) := by decide +kernel
theorem dX1_told_8 : decode cX1_told 8 = .ok (.iconst 1, 1) := by decide +kernel
theorem dX1_told_9 : decode cX1_told 9 = .ok (.goto 18, 3) := by decide +kernel
theorem dX1_told_12 : decode cX1_told 12 = .ok (.iload_n 2, 1) := by decide +kernel
theorem dX1_told_13 : decode cX1_told 13 = .ok (.ifCond .lt 9, 3) := by decide +kernel
theorem dX1_told_16 : decode cX1_told 16 = .ok (.iload_n 2, 1) := by decide +kernel
theorem dX1_told_17 : decode cX1_told 17 = .ok (.bipush 6, 2) := by decide +kernel
theorem dX1_told_19 : decode cX1_told 19 = .ok (.if_icmp .le 7, 3) := by decide +kernel
theorem dX1_told_22 : decode cX1_told 22 = .ok (.iconst 2, 1) := by decide +kernel
theorem dX1_told_23 : decode cX1_told 23 = .ok (.goto 4, 3) := by decide +kernel
theorem dX1_told_26 : decode cX1_told 26 = .ok (.iconst 0, 1) := by decide +kernel
theorem dX1_told_27 : decode cX1_told 27 = .ok (.putfield 64, 3) := by decide +kernel
theorem dX1_told_30 : decode cX1_told 30 = .ok (.aload_n 0, 1) := by decide +kernel
theorem dX1_told_31 : decode cX1_told 31 = .ok (.getfield 64, 3) := by decide +kernel
theorem dX1_told_34 : decode cX1_told 34 = .ok (.ifCond .le 5, 3) := by decide +kernel
theorem dX1_told_37 : decode cX1_told 37 = .ok (.iconst 0, 1) := by decide +kernel
theorem dX1_told_38 : decode cX1_told 38 = .ok (.ireturn, 1) := by decide +kernel
theorem dX1_told_39 : decode cX1_told 39 = .ok (.aload_n 0, 1) := by decide +kernel
theorem dX1_told_40 : decode cX1_told 40 = .ok (.invokevirtual 71, 3) := by decide +kernel
theorem dX1_told_43 : decode cX1_told 43 = .ok (.iload_n 2, 1) := by decide +kernel
theorem dX1_told_44 : decode cX1_told 44 = .ok (.tableswitch 121 0 5 #[40, 47, 54, 61, 92, 114], 40) := by decide +kernel
theorem dX1_told_84 : decode cX1_told 84 = .ok (.aload_n 0, 1) := by decide +kernel
theorem dX1_told_85 : decode cX1_told 85 = .ok (.getfield 7, 3) := by decide +kernel
theorem dX1_told_88 : decode cX1_told 88 = .ok (.iload_n 1, 1) := by decide +kernel
theorem dX1_told_89 : decode cX1_told 89 = .ok (.iaload, 1) := by decide +kernel
theorem dX1_told_90 : decode cX1_told 90 = .ok (.ireturn, 1) := by decide +kernel
theorem dX1_told_91 : decode cX1_told 91 = .ok (.aload_n 0, 1) := by decide +kernel
theorem dX1_told_92 : decode cX1_told 92 = .ok (.getfield 13, 3) := by decide +kernel
theorem dX1_told_95 : decode cX1_told 95 = .ok (.iload_n 1, 1) := by decide +kernel
theorem dX1_told_96 : decode cX1_told 96 = .ok (.iaload, 1) := by decide +kernel
theorem dX1_told_97 : decode cX1_told 97 = .ok (.ireturn, 1) := by decide +kernel
theorem dX1_told_98 : decode cX1_told 98 = .ok (.aload_n 0, 1) := by decide +kernel
theorem dX1_told_99 : decode cX1_told 99 = .ok (.getfield 44, 3) := by decide +kernel
theorem dX1_told_102 : decode cX1_told 102 = .ok (.iload_n 1, 1) := by decide +kernel
theorem dX1_told_103 : decode cX1_told 103 = .ok (.iaload, 1) := by decide +kernel
theorem dX1_told_104 : decode cX1_told 104 = .ok (.ireturn, 1) := by decide +kernel
theorem dX1_told_105 : decode cX1_told 105 = .ok (.aload_n 0, 1) := by decide +kernel
theorem dX1_told_106 : decode cX1_told 106 = .ok (.getfield 7, 3) := by decide +kernel
theorem dX1_told_109 : decode cX1_told 109 = .ok (.iload_n 1, 1) := by decide +kernel
theorem dX1_told_110 : decode cX1_told 110 = .ok (.iaload, 1) := by decide +kernel
theorem dX1_told_111 : decode cX1_told 111 = .ok (.iconst 2, 1) := by decide +kernel
theorem dX1_told_112 : decode cX1_told 112 = .ok (.if_icmp .lt 22, 3) := by decide +kernel
theorem dX1_told_115 : decode cX1_told 115 = .ok (.aload_n 0, 1) := by decide +kernel
theorem dX1_told_116 : decode cX1_told 116 = .ok (.getfield 7, 3) := by decide +kernel
theorem dX1_told_119 : decode cX1_told 119 = .ok (.iload_n 1, 1) := by decide +kernel
theorem dX1_told_120 : decode cX1_told 120 = .ok (.iaload, 1) := by decide +kernel
theorem dX1_told_121 : decode cX1_told 121 = .ok (.iconst 5, 1) := by decide +kernel
theorem dX1_told_122 : decode cX1_told 122 = .ok (.if_icmp .gt 12, 3) := by decide +kernel
theorem dX1_told_125 : decode cX1_told 125 = .ok (.aload_n 0, 1) := by decide +kernel
theorem dX1_told_126 : decode cX1_told 126 = .ok (.getfield 20, 3) := by decide +kernel
theorem dX1_told_129 : decode cX1_told 129 = .ok (.iload_n 1, 1) := by decide +kernel
theorem dX1_told_130 : decode cX1_told 130 = .ok (.iaload, 1) := by decide +kernel
theorem dX1_told_131 : decode cX1_told 131 = .ok (.goto 4, 3) := by decide +kernel
theorem dX1_told_134 : decode cX1_told 134 = .ok (.iconst (-1), 1) := by decide +kernel
theorem dX1_told_135 : decode cX1_told 135 = .ok (.ireturn, 1) := by decide +kernel
theorem dX1_told_136 : decode cX1_told 136 = .ok (.aload_n 0, 1) := by decide +kernel
theorem dX1_told_137 : decode cX1_told 137 = .ok (.getfield 7, 3) := by decide +kernel
theorem dX1_told_140 : decode cX1_told 140 = .ok (.iload_n 1, 1) := by decide +kernel
theorem dX1_told_141 : decode cX1_told 141 = .ok (.iaload, 1) := by decide +kernel
theorem dX1_told_142 : decode cX1_told 142 = .ok (.bipush 6, 2) := by decide +kernel
theorem dX1_told_144 : decode cX1_told 144 = .ok (.if_icmp .ne 12, 3) := by decide +kernel
theorem dX1_told_147 : decode cX1_told 147 = .ok (.aload_n 0, 1) := by decide +kernel
theorem dX1_told_148 : decode cX1_told 148 = .ok (.getfield 23, 3) := by decide +kernel
theorem dX1_told_151 : decode cX1_told 151 = .ok (.iload_n 1, 1) := by decide +kernel
theorem dX1_told_152 : decode cX1_told 152 = .ok (.iaload, 1) := by decide +kernel
theorem dX1_told_153 : decode cX1_told 153 = .ok (.goto 4, 3) := by decide +kernel
theorem dX1_told_156 : decode cX1_told 156 = .ok (.iconst 0, 1) := by decide +kernel
theorem dX1_told_157 : decode cX1_told 157 = .ok (.ireturn, 1) := by decide +kernel
theorem dX1_told_158 : decode cX1_told 158 = .ok (.aload_n 0, 1) := by decide +kernel
theorem dX1_told_159 : decode cX1_told 159 = .ok (.getfield 29, 3) := by decide +kernel
theorem dX1_told_162 : decode cX1_told 162 = .ok (.iload_n 1, 1) := by decide +kernel
theorem dX1_told_163 : decode cX1_told 163 = .ok (.iaload, 1) := by decide +kernel
theorem dX1_told_164 : decode cX1_told 164 = .ok (.ireturn, 1) := by decide +kernel
theorem dX1_told_165 : decode cX1_told 165 = .ok (.aload_n 0, 1) := by decide +kernel
theorem dX1_told_166 : decode cX1_told 166 = .ok (.iload_n 1, 1) := by decide +kernel
theorem dX1_told_167 : decode cX1_told 167 = .ok (.invokevirtual 101, 3) := by decide +kernel
theorem dX1_told_170 : decode cX1_told 170 = .ok (.ireturn, 1) := by decide +kernel
theorem dX1_owner_0 : decode cX1_owner 0 = .ok (.aload_n 0, 1) := by decide +kernel
theorem dX1_owner_1 : decode cX1_owner 1 = .ok (.iload_n 1, 1) := by decide +kernel
theorem dX1_owner_2 : decode cX1_owner 2 = .ok (.ifCond .lt 15, 3) := by decide +kernel
theorem dX1_owner_5 : decode cX1_owner 5 = .ok (.iload_n 1, 1) := by decide +kernel
theorem dX1_owner_6 : decode cX1_owner 6 = .ok (.aload_n 0, 1) := by decide +kernel
theorem dX1_owner_7 : decode cX1_owner 7 = .ok (.getfield 51, 3) := by decide +kernel
theorem dX1_owner_10 : decode cX1_owner 10 = .ok (.if_icmp .ge 7, 3) := by decide +kernel
theorem dX1_owner_13 : decode cX1_owner 13 = .ok (.iconst 0, 1) := by decide +kernel
theorem dX1_owner_14 : decode cX1_owner 14 = .ok (.goto 4, 3) := by decide +kernel
theorem dX1_owner_17 : decode cX1_owner 17 = .ok (.iconst 1, 1) := by decide +kernel
theorem dX1_owner_18 : decode cX1_owner 18 = .ok (.putfield 64, 3) := by decide +kernel
theorem dX1_owner_21 : decode cX1_owner 21 = .ok (.aload_n 0, 1) := by decide +kernel
theorem dX1_owner_22 : decode cX1_owner 22 = .ok (.getfield 64, 3) := by decide +kernel
theorem dX1_owner_25 : decode cX1_owner 25 = .ok (.ifCond .le 7, 3) := by decide +kernel
theorem dX1_owner_28 : decode cX1_owner 28 = .ok (.iconst 0, 1) := by decide +kernel
theorem dX1_owner_29 : decode cX1_owner 29 = .ok (.goto 9, 3) := by decide +kernel
theorem dX1_owner_32 : decode cX1_owner 32 = .ok (.aload_n 0, 1) := by decide +kernel
theorem dX1_owner_33 : decode cX1_owner 33 = .ok (.getfield 32, 3) := by decide +kernel
theorem dX1_owner_36 : decode cX1_owner 36 = .ok (.iload_n 1, 1) := by decide +kernel
theorem dX1_owner_37 : decode cX1_owner 37 = .ok (.iaload, 1) := by decide +kernel
theorem dX1_owner_38 : decode cX1_owner 38 = .ok (.ireturn, 1) := by decide +kernel
theorem dX1_count_0 : decode cX1_count 0 = .ok (.aload_n 0, 1) := by decide +kernel
theorem dX1_count_1 : decode cX1_count 1 = .ok (.iload_n 1, 1) := by decide +kernel
theorem dX1_count_2 : decode cX1_count 2 = .ok (.ifCond .lt 15, 3) := by decide +kernel
theorem dX1_count_5 : decode cX1_count 5 = .ok (.iload_n 1, 1) := by decide +kernel
theorem dX1_count_6 : decode cX1_count 6 = .ok (.aload_n 0, 1) := by decide +kernel
theorem dX1_count_7 : decode cX1_count 7 = .ok (.getfield 55, 3) := by decide +kernel
theorem dX1_count_10 : decode cX1_count 10 = .ok (.if_icmp .ge 7, 3) := by decide +kernel
theorem dX1_count_13 : decode cX1_count 13 = .ok (.iconst 0, 1) := by decide +kernel
theorem dX1_count_14 : decode cX1_count 14 = .ok (.goto 4, 3) := by decide +kernel
theorem dX1_count_17 : decode cX1_count 17 = .ok (.iconst 1, 1) := by decide +kernel
theorem dX1_count_18 : decode cX1_count 18 = .ok (.putfield 64, 3) := by decide +kernel
theorem dX1_count_21 : decode cX1_count 21 = .ok (.aload_n 0, 1) := by decide +kernel
theorem dX1_count_22 : decode cX1_count 22 = .ok (.getfield 64, 3) := by decide +kernel
theorem dX1_count_25 : decode cX1_count 25 = .ok (.ifCond .le 7, 3) := by decide +kernel
theorem dX1_count_28 : decode cX1_count 28 = .ok (.iconst 0, 1) := by decide +kernel
theorem dX1_count_29 : decode cX1_count 29 = .ok (.goto 9, 3) := by decide +kernel
theorem dX1_count_32 : decode cX1_count 32 = .ok (.aload_n 0, 1) := by decide +kernel
theorem dX1_count_33 : decode cX1_count 33 = .ok (.getfield 35, 3) := by decide +kernel
theorem dX1_count_36 : decode cX1_count 36 = .ok (.iload_n 1, 1) := by decide +kernel
theorem dX1_count_37 : decode cX1_count 37 = .ok (.iaload, 1) := by decide +kernel
theorem dX1_count_38 : decode cX1_count 38 = .ok (.ireturn, 1) := by decide +kernel
theorem dX1_words_0 : decode cX1_words 0 = .ok (.aload_n 0, 1) := by decide +kernel
theorem dX1_words_1 : decode cX1_words 1 = .ok (.iload_n 1, 1) := by decide +kernel
theorem dX1_words_2 : decode cX1_words 2 = .ok (.ifCond .lt 15, 3) := by decide +kernel
theorem dX1_words_5 : decode cX1_words 5 = .ok (.iload_n 1, 1) := by decide +kernel
theorem dX1_words_6 : decode cX1_words 6 = .ok (.aload_n 0, 1) := by decide +kernel
theorem dX1_words_7 : decode cX1_words 7 = .ok (.getfield 58, 3) := by decide +kernel
theorem dX1_words_10 : decode cX1_words 10 = .ok (.if_icmp .ge 7, 3) := by decide +kernel
theorem dX1_words_13 : decode cX1_words 13 = .ok (.iconst 0, 1) := by decide +kernel
theorem dX1_words_14 : decode cX1_words 14 = .ok (.goto 4, 3) := by decide +kernel
theorem dX1_words_17 : decode cX1_words 17 = .ok (.iconst 1, 1) := by decide +kernel
theorem dX1_words_18 : decode cX1_words 18 = .ok (.putfield 64, 3) := by decide +kernel
theorem dX1_words_21 : decode cX1_words 21 = .ok (.aload_n 0, 1) := by decide +kernel
theorem dX1_words_22 : decode cX1_words 22 = .ok (.getfield 64, 3) := by decide +kernel
theorem dX1_words_25 : decode cX1_words 25 = .ok (.ifCond .le 7, 3) := by decide +kernel
theorem dX1_words_28 : decode cX1_words 28 = .ok (.iconst 0, 1) := by decide +kernel
theorem dX1_words_29 : decode cX1_words 29 = .ok (.goto 9, 3) := by decide +kernel
theorem dX1_words_32 : decode cX1_words 32 = .ok (.aload_n 0, 1) := by decide +kernel
theorem dX1_words_33 : decode cX1_words 33 = .ok (.getfield 38, 3) := by decide +kernel
theorem dX1_words_36 : decode cX1_words 36 = .ok (.iload_n 1, 1) := by decide +kernel
theorem dX1_words_37 : decode cX1_words 37 = .ok (.iaload, 1) := by decide +kernel
theorem dX1_words_38 : decode cX1_words 38 = .ok (.ireturn, 1) := by decide +kernel
set_option maxRecDepth 20000 in
theorem ggX1_first_X1_firstOf : GoodIn wsX1_first wsX1_firstOf := goodIn_r _ [9, 10, 11, 12, 13, 14, 15, 16, 8, 17, 18, 19, 20, 21, 22, 23, 24, 25, 26, 27, 28, 29, 30, 31, 32, 33, 34, 35, 36] (by decide +kernel) (by decide +kernel)
set_option maxRecDepth 20000 in
theorem gX1_first_X1_firstOf : GoodIn wsX1_first (wsV RX1 74 RX1 yX1_firstOf wsX1_firstOf) := goodIn_app (goodIn_of _ (by decide +kernel)) ggX1_first_X1_firstOf
theorem dX1_first_0 : decode cX1_first 0 = .ok (.iload_n 1, 1) := by decide +kernel
theorem dX1_first_1 : decode cX1_first 1 = .ok (.iconst 2, 1) := by decide +kernel
theorem dX1_first_2 : decode cX1_first 2 = .ok (.if_icmp .ne 10, 3) := by decide +kernel
theorem dX1_first_5 : decode cX1_first 5 = .ok (.aload_n 0, 1) := by decide +kernel
theorem dX1_first_6 : decode cX1_first 6 = .ok (.getfield 51, 3) := by decide +kernel
theorem dX1_first_9 : decode cX1_first 9 = .ok (.goto 19, 3) := by decide +kernel
theorem dX1_first_12 : decode cX1_first 12 = .ok (.iload_n 1, 1) := by decide +kernel
theorem dX1_first_13 : decode cX1_first 13 = .ok (.iconst 3, 1) := by decide +kernel
theorem dX1_first_14 : decode cX1_first 14 = .ok (.if_icmp .ne 10, 3) := by decide +kernel
theorem dX1_first_17 : decode cX1_first 17 = .ok (.aload_n 0, 1) := by decide +kernel
theorem dX1_first_18 : decode cX1_first 18 = .ok (.getfield 55, 3) := by decide +kernel
theorem dX1_first_21 : decode cX1_first 21 = .ok (.goto 7, 3) := by decide +kernel
theorem dX1_first_24 : decode cX1_first 24 = .ok (.aload_n 0, 1) := by decide +kernel
theorem dX1_first_25 : decode cX1_first 25 = .ok (.getfield 58, 3) := by decide +kernel
theorem dX1_first_28 : decode cX1_first 28 = .ok (.istore_n 3, 1) := by decide +kernel
theorem dX1_first_29 : decode cX1_first 29 = .ok (.aload_n 0, 1) := by decide +kernel
theorem dX1_first_30 : decode cX1_first 30 = .ok (.iload_n 1, 1) := by decide +kernel
theorem dX1_first_31 : decode cX1_first 31 = .ok (.iconst 2, 1) := by decide +kernel
theorem dX1_first_32 : decode cX1_first 32 = .ok (.if_icmp .lt 8, 3) := by decide +kernel
theorem dX1_first_35 : decode cX1_first 35 = .ok (.iload_n 1, 1) := by decide +kernel
theorem dX1_first_36 : decode cX1_first 36 = .ok (.iconst 5, 1) := by decide +kernel
theorem dX1_first_37 : decode cX1_first 37 = .ok (.if_icmp .le 7, 3) := by decide +kernel
theorem dX1_first_40 : decode cX1_first 40 = .ok (.iconst 1, 1) := by decide +kernel
theorem dX1_first_41 : decode cX1_first 41 = .ok (.goto 17, 3) := by decide +kernel
theorem dX1_first_44 : decode cX1_first 44 = .ok (.iload_n 2, 1) := by decide +kernel
theorem dX1_first_45 : decode cX1_first 45 = .ok (.ifCond .lt 8, 3) := by decide +kernel
theorem dX1_first_48 : decode cX1_first 48 = .ok (.iload_n 2, 1) := by decide +kernel
theorem dX1_first_49 : decode cX1_first 49 = .ok (.iload_n 3, 1) := by decide +kernel
theorem dX1_first_50 : decode cX1_first 50 = .ok (.if_icmp .lt 7, 3) := by decide +kernel
theorem dX1_first_53 : decode cX1_first 53 = .ok (.iconst 2, 1) := by decide +kernel
theorem dX1_first_54 : decode cX1_first 54 = .ok (.goto 4, 3) := by decide +kernel
theorem dX1_first_57 : decode cX1_first 57 = .ok (.iconst 0, 1) := by decide +kernel
theorem dX1_first_58 : decode cX1_first 58 = .ok (.putfield 64, 3) := by decide +kernel
theorem dX1_first_61 : decode cX1_first 61 = .ok (.aload_n 0, 1) := by decide +kernel
theorem dX1_first_62 : decode cX1_first 62 = .ok (.getfield 64, 3) := by decide +kernel
theorem dX1_first_65 : decode cX1_first 65 = .ok (.ifCond .le 7, 3) := by decide +kernel
theorem dX1_first_68 : decode cX1_first 68 = .ok (.iconst 0, 1) := by decide +kernel
theorem dX1_first_69 : decode cX1_first 69 = .ok (.goto 9, 3) := by decide +kernel
theorem dX1_first_72 : decode cX1_first 72 = .ok (.aload_n 0, 1) := by decide +kernel
theorem dX1_first_73 : decode cX1_first 73 = .ok (.iload_n 1, 1) := by decide +kernel
theorem dX1_first_74 : decode cX1_first 74 = .ok (.iload_n 2, 1) := by decide +kernel
theorem dX1_first_75 : decode cX1_first 75 = .ok (.invokevirtual 74, 3) := by decide +kernel
theorem dX1_first_78 : decode cX1_first 78 = .ok (.ireturn, 1) := by decide +kernel
