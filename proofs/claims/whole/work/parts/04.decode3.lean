/-! DECODE ROWS (printed by gen/words.py) -/
theorem d_Program_add_20 : decode b_Program_add 20 = .ok (.aload_n 0, 1) := by decide +kernel
theorem d_Program_add_21 : decode b_Program_add 21 = .ok (.getfield 18, 3) := by decide +kernel
theorem d_Program_add_24 : decode b_Program_add 24 = .ok (.aload_n 0, 1) := by decide +kernel
theorem d_Program_add_25 : decode b_Program_add 25 = .ok (.getfield 25, 3) := by decide +kernel
theorem d_Program_add_28 : decode b_Program_add 28 = .ok (.iload_n 3, 1) := by decide +kernel
theorem d_Program_add_29 : decode b_Program_add 29 = .ok (.iastore, 1) := by decide +kernel
theorem d_Program_add_30 : decode b_Program_add 30 = .ok (.aload_n 0, 1) := by decide +kernel
theorem d_Program_add_31 : decode b_Program_add 31 = .ok (.dup, 1) := by decide +kernel
theorem d_Program_add_32 : decode b_Program_add 32 = .ok (.getfield 25, 3) := by decide +kernel
theorem d_Program_add_35 : decode b_Program_add 35 = .ok (.iconst 1, 1) := by decide +kernel
theorem d_Program_add_36 : decode b_Program_add 36 = .ok (.iadd, 1) := by decide +kernel
theorem d_Program_add_37 : decode b_Program_add 37 = .ok (.putfield 25, 3) := by decide +kernel
theorem d_Program_add_40 : decode b_Program_add 40 = .ok (.return_, 1) := by decide +kernel
theorem d_Program_allows_0 : decode b_Program_allows 0 = .ok (.iload_n 0, 1) := by decide +kernel
theorem d_Program_allows_1 : decode b_Program_allows 1 = .ok (.tableswitch 149 0 12 #[67, 69, 77, 77, 77, 84, 91, 91, 91, 91, 91, 99, 124], 67) := by decide +kernel
theorem d_Program_allows_68 : decode b_Program_allows 68 = .ok (.iconst 1, 1) := by decide +kernel
theorem d_Program_allows_69 : decode b_Program_allows 69 = .ok (.ireturn, 1) := by decide +kernel
theorem d_Program_allows_70 : decode b_Program_allows 70 = .ok (.iload_n 1, 1) := by decide +kernel
theorem d_Program_allows_71 : decode b_Program_allows 71 = .ok (.iconst 0, 1) := by decide +kernel
theorem d_Program_allows_72 : decode b_Program_allows 72 = .ok (.bipush 8, 2) := by decide +kernel
theorem d_Program_allows_74 : decode b_Program_allows 74 = .ok (.invokestatic 21, 3) := by decide +kernel
theorem d_Program_allows_77 : decode b_Program_allows 77 = .ok (.ireturn, 1) := by decide +kernel
theorem d_Program_allows_78 : decode b_Program_allows 78 = .ok (.iload_n 1, 1) := by decide +kernel
theorem d_Program_allows_79 : decode b_Program_allows 79 = .ok (.iconst (-1), 1) := by decide +kernel
theorem d_Program_allows_80 : decode b_Program_allows 80 = .ok (.iconst 1, 1) := by decide +kernel
theorem d_Program_allows_81 : decode b_Program_allows 81 = .ok (.invokestatic 21, 3) := by decide +kernel
theorem d_Program_allows_84 : decode b_Program_allows 84 = .ok (.ireturn, 1) := by decide +kernel
theorem d_Program_allows_85 : decode b_Program_allows 85 = .ok (.iload_n 1, 1) := by decide +kernel
theorem d_Program_allows_86 : decode b_Program_allows 86 = .ok (.iconst 1, 1) := by decide +kernel
theorem d_Program_allows_87 : decode b_Program_allows 87 = .ok (.iconst 3, 1) := by decide +kernel
theorem d_Program_allows_88 : decode b_Program_allows 88 = .ok (.invokestatic 21, 3) := by decide +kernel
theorem d_Program_allows_91 : decode b_Program_allows 91 = .ok (.ireturn, 1) := by decide +kernel
theorem d_Program_allows_92 : decode b_Program_allows 92 = .ok (.iload_n 1, 1) := by decide +kernel
theorem d_Program_allows_93 : decode b_Program_allows 93 = .ok (.iconst 0, 1) := by decide +kernel
theorem d_Program_allows_94 : decode b_Program_allows 94 = .ok (.bipush 15, 2) := by decide +kernel
theorem d_Program_allows_96 : decode b_Program_allows 96 = .ok (.invokestatic 21, 3) := by decide +kernel
theorem d_Program_allows_99 : decode b_Program_allows 99 = .ok (.ireturn, 1) := by decide +kernel
theorem d_Program_allows_100 : decode b_Program_allows 100 = .ok (.iload_n 1, 1) := by decide +kernel
theorem d_Program_allows_101 : decode b_Program_allows 101 = .ok (.iconst 0, 1) := by decide +kernel
theorem d_Program_allows_102 : decode b_Program_allows 102 = .ok (.iconst 1, 1) := by decide +kernel
theorem d_Program_allows_103 : decode b_Program_allows 103 = .ok (.invokestatic 21, 3) := by decide +kernel
theorem d_Program_allows_106 : decode b_Program_allows 106 = .ok (.ifCond .eq 17, 3) := by decide +kernel
theorem d_Program_allows_109 : decode b_Program_allows 109 = .ok (.iload_n 2, 1) := by decide +kernel
theorem d_Program_allows_110 : decode b_Program_allows 110 = .ok (.iconst 0, 1) := by decide +kernel
theorem d_Program_allows_111 : decode b_Program_allows 111 = .ok (.bipush 100, 2) := by decide +kernel
theorem d_Program_allows_113 : decode b_Program_allows 113 = .ok (.invokestatic 21, 3) := by decide +kernel
theorem d_Program_allows_116 : decode b_Program_allows 116 = .ok (.ifCond .eq 7, 3) := by decide +kernel
theorem d_Program_allows_119 : decode b_Program_allows 119 = .ok (.iconst 1, 1) := by decide +kernel
theorem d_Program_allows_120 : decode b_Program_allows 120 = .ok (.goto 4, 3) := by decide +kernel
theorem d_Program_allows_123 : decode b_Program_allows 123 = .ok (.iconst 0, 1) := by decide +kernel
theorem d_Program_allows_124 : decode b_Program_allows 124 = .ok (.ireturn, 1) := by decide +kernel
theorem d_Program_allows_125 : decode b_Program_allows 125 = .ok (.iload_n 1, 1) := by decide +kernel
theorem d_Program_allows_126 : decode b_Program_allows 126 = .ok (.iconst 0, 1) := by decide +kernel
theorem d_Program_allows_127 : decode b_Program_allows 127 = .ok (.bipush 15, 2) := by decide +kernel
theorem d_Program_allows_129 : decode b_Program_allows 129 = .ok (.invokestatic 21, 3) := by decide +kernel
theorem d_Program_allows_132 : decode b_Program_allows 132 = .ok (.ifCond .eq 16, 3) := by decide +kernel
theorem d_Program_allows_135 : decode b_Program_allows 135 = .ok (.iload_n 2, 1) := by decide +kernel
theorem d_Program_allows_136 : decode b_Program_allows 136 = .ok (.iconst 0, 1) := by decide +kernel
theorem d_Program_allows_137 : decode b_Program_allows 137 = .ok (.iconst 1, 1) := by decide +kernel
theorem d_Program_allows_138 : decode b_Program_allows 138 = .ok (.invokestatic 21, 3) := by decide +kernel
theorem d_Program_allows_141 : decode b_Program_allows 141 = .ok (.ifCond .eq 7, 3) := by decide +kernel
theorem d_Program_allows_144 : decode b_Program_allows 144 = .ok (.iconst 1, 1) := by decide +kernel
theorem d_Program_allows_145 : decode b_Program_allows 145 = .ok (.goto 4, 3) := by decide +kernel
theorem d_Program_allows_148 : decode b_Program_allows 148 = .ok (.iconst 0, 1) := by decide +kernel
theorem d_Program_allows_149 : decode b_Program_allows 149 = .ok (.ireturn, 1) := by decide +kernel
theorem d_Program_allows_150 : decode b_Program_allows 150 = .ok (.iconst 0, 1) := by decide +kernel
theorem d_Program_allows_151 : decode b_Program_allows 151 = .ok (.ireturn, 1) := by decide +kernel
theorem d_Program_isFull_0 : decode b_Program_isFull 0 = .ok (.aload_n 0, 1) := by decide +kernel
theorem d_Program_isFull_1 : decode b_Program_isFull 1 = .ok (.getfield 25, 3) := by decide +kernel
theorem d_Program_isFull_4 : decode b_Program_isFull 4 = .ok (.bipush 16, 2) := by decide +kernel
theorem d_Program_isFull_6 : decode b_Program_isFull 6 = .ok (.if_icmp .lt 7, 3) := by decide +kernel
theorem d_Program_isFull_9 : decode b_Program_isFull 9 = .ok (.iconst 1, 1) := by decide +kernel
theorem d_Program_isFull_10 : decode b_Program_isFull 10 = .ok (.goto 4, 3) := by decide +kernel
theorem d_Program_isFull_13 : decode b_Program_isFull 13 = .ok (.iconst 0, 1) := by decide +kernel
theorem d_Program_isFull_14 : decode b_Program_isFull 14 = .ok (.ireturn, 1) := by decide +kernel
theorem d_Report__init__0 : decode b_Report__init_ 0 = .ok (.aload_n 0, 1) := by decide +kernel
theorem d_Report__init__1 : decode b_Report__init_ 1 = .ok (.invokespecial 3, 3) := by decide +kernel
theorem d_Report__init__4 : decode b_Report__init_ 4 = .ok (.aload_n 0, 1) := by decide +kernel
theorem d_Report__init__5 : decode b_Report__init_ 5 = .ok (.iconst 4, 1) := by decide +kernel
theorem d_Report__init__6 : decode b_Report__init_ 6 = .ok (.putfield 9, 3) := by decide +kernel
theorem d_Report__init__9 : decode b_Report__init_ 9 = .ok (.return_, 1) := by decide +kernel
theorem d_Report_clear_0 : decode b_Report_clear 0 = .ok (.aload_n 0, 1) := by decide +kernel
theorem d_Report_clear_1 : decode b_Report_clear 1 = .ok (.iconst 0, 1) := by decide +kernel
theorem d_Report_clear_2 : decode b_Report_clear 2 = .ok (.putfield 15, 3) := by decide +kernel
theorem d_Report_clear_5 : decode b_Report_clear 5 = .ok (.aload_n 0, 1) := by decide +kernel
theorem d_Report_clear_6 : decode b_Report_clear 6 = .ok (.iconst 0, 1) := by decide +kernel
theorem d_Report_clear_7 : decode b_Report_clear 7 = .ok (.putfield 19, 3) := by decide +kernel
theorem d_Report_clear_10 : decode b_Report_clear 10 = .ok (.aload_n 0, 1) := by decide +kernel
theorem d_Report_clear_11 : decode b_Report_clear 11 = .ok (.iconst 4, 1) := by decide +kernel
theorem d_Report_clear_12 : decode b_Report_clear 12 = .ok (.putfield 9, 3) := by decide +kernel
theorem d_Report_clear_15 : decode b_Report_clear 15 = .ok (.aload_n 0, 1) := by decide +kernel
theorem d_Report_clear_16 : decode b_Report_clear 16 = .ok (.iconst 0, 1) := by decide +kernel
theorem d_Report_clear_17 : decode b_Report_clear 17 = .ok (.putfield 22, 3) := by decide +kernel
theorem d_Report_clear_20 : decode b_Report_clear 20 = .ok (.return_, 1) := by decide +kernel
theorem d_Report_noteSight_0 : decode b_Report_noteSight 0 = .ok (.aload_n 0, 1) := by decide +kernel
theorem d_Report_noteSight_1 : decode b_Report_noteSight 1 = .ok (.invokevirtual 25, 3) := by decide +kernel
theorem d_Report_noteSight_4 : decode b_Report_noteSight 4 = .ok (.ifCond .eq 11, 3) := by decide +kernel
theorem d_Report_noteSight_7 : decode b_Report_noteSight 7 = .ok (.iload_n 2, 1) := by decide +kernel
theorem d_Report_noteSight_8 : decode b_Report_noteSight 8 = .ok (.aload_n 0, 1) := by decide +kernel
theorem d_Report_noteSight_9 : decode b_Report_noteSight 9 = .ok (.getfield 22, 3) := by decide +kernel
theorem d_Report_noteSight_12 : decode b_Report_noteSight 12 = .ok (.if_icmp .ge 13, 3) := by decide +kernel
theorem d_Report_noteSight_15 : decode b_Report_noteSight 15 = .ok (.aload_n 0, 1) := by decide +kernel
theorem d_Report_noteSight_16 : decode b_Report_noteSight 16 = .ok (.iload_n 1, 1) := by decide +kernel
theorem d_Report_noteSight_17 : decode b_Report_noteSight 17 = .ok (.putfield 9, 3) := by decide +kernel
theorem d_Report_noteSight_20 : decode b_Report_noteSight 20 = .ok (.aload_n 0, 1) := by decide +kernel
theorem d_Report_noteSight_21 : decode b_Report_noteSight 21 = .ok (.iload_n 2, 1) := by decide +kernel
theorem d_Report_noteSight_22 : decode b_Report_noteSight 22 = .ok (.putfield 22, 3) := by decide +kernel
theorem d_Report_noteSight_25 : decode b_Report_noteSight 25 = .ok (.return_, 1) := by decide +kernel
theorem d_Report_seesTank_0 : decode b_Report_seesTank 0 = .ok (.aload_n 0, 1) := by decide +kernel
theorem d_Report_seesTank_1 : decode b_Report_seesTank 1 = .ok (.getfield 9, 3) := by decide +kernel
theorem d_Report_seesTank_4 : decode b_Report_seesTank 4 = .ok (.iconst 4, 1) := by decide +kernel
theorem d_Report_seesTank_5 : decode b_Report_seesTank 5 = .ok (.if_icmp .eq 7, 3) := by decide +kernel
theorem d_Report_seesTank_8 : decode b_Report_seesTank 8 = .ok (.iconst 1, 1) := by decide +kernel
theorem d_Report_seesTank_9 : decode b_Report_seesTank 9 = .ok (.goto 4, 3) := by decide +kernel
theorem d_Report_seesTank_12 : decode b_Report_seesTank 12 = .ok (.iconst 0, 1) := by decide +kernel
theorem d_Report_seesTank_13 : decode b_Report_seesTank 13 = .ok (.ireturn, 1) := by decide +kernel
theorem d_Tank__init__0 : decode b_Tank__init_ 0 = .ok (.aload_n 0, 1) := by decide +kernel
theorem d_Tank__init__1 : decode b_Tank__init_ 1 = .ok (.invokespecial 3, 3) := by decide +kernel
theorem d_Tank__init__4 : decode b_Tank__init_ 4 = .ok (.aload_n 0, 1) := by decide +kernel
theorem d_Tank__init__5 : decode b_Tank__init_ 5 = .ok (.new 9, 3) := by decide +kernel
theorem d_Tank__init__8 : decode b_Tank__init_ 8 = .ok (.dup, 1) := by decide +kernel
theorem d_Tank__init__9 : decode b_Tank__init_ 9 = .ok (.invokespecial 11, 3) := by decide +kernel
theorem d_Tank__init__12 : decode b_Tank__init_ 12 = .ok (.putfield 12, 3) := by decide +kernel
theorem d_Tank__init__15 : decode b_Tank__init_ 15 = .ok (.aload_n 0, 1) := by decide +kernel
theorem d_Tank__init__16 : decode b_Tank__init_ 16 = .ok (.new 18, 3) := by decide +kernel
theorem d_Tank__init__19 : decode b_Tank__init_ 19 = .ok (.dup, 1) := by decide +kernel
theorem d_Tank__init__20 : decode b_Tank__init_ 20 = .ok (.invokespecial 20, 3) := by decide +kernel
theorem d_Tank__init__23 : decode b_Tank__init_ 23 = .ok (.putfield 21, 3) := by decide +kernel
theorem d_Tank__init__26 : decode b_Tank__init_ 26 = .ok (.aload_n 0, 1) := by decide +kernel
theorem d_Tank__init__27 : decode b_Tank__init_ 27 = .ok (.new 25, 3) := by decide +kernel
theorem d_Tank__init__30 : decode b_Tank__init_ 30 = .ok (.dup, 1) := by decide +kernel
theorem d_Tank__init__31 : decode b_Tank__init_ 31 = .ok (.invokespecial 27, 3) := by decide +kernel
theorem d_Tank__init__34 : decode b_Tank__init_ 34 = .ok (.putfield 28, 3) := by decide +kernel
theorem d_Tank__init__37 : decode b_Tank__init_ 37 = .ok (.aload_n 0, 1) := by decide +kernel
theorem d_Tank__init__38 : decode b_Tank__init_ 38 = .ok (.new 32, 3) := by decide +kernel
theorem d_Tank__init__41 : decode b_Tank__init_ 41 = .ok (.dup, 1) := by decide +kernel
theorem d_Tank__init__42 : decode b_Tank__init_ 42 = .ok (.invokespecial 34, 3) := by decide +kernel
theorem d_Tank__init__45 : decode b_Tank__init_ 45 = .ok (.putfield 35, 3) := by decide +kernel
theorem d_Tank__init__48 : decode b_Tank__init_ 48 = .ok (.return_, 1) := by decide +kernel
theorem d_Tank_betweenWalls_0 : decode b_Tank_betweenWalls 0 = .ok (.bipush 16, 2) := by decide +kernel
theorem d_Tank_betweenWalls_2 : decode b_Tank_betweenWalls 2 = .ok (.sipush 496, 3) := by decide +kernel
theorem d_Tank_betweenWalls_5 : decode b_Tank_betweenWalls 5 = .ok (.iload_n 0, 1) := by decide +kernel
theorem d_Tank_betweenWalls_6 : decode b_Tank_betweenWalls 6 = .ok (.invokestatic 127, 3) := by decide +kernel
theorem d_Tank_betweenWalls_9 : decode b_Tank_betweenWalls 9 = .ok (.invokestatic 108, 3) := by decide +kernel
theorem d_Tank_betweenWalls_12 : decode b_Tank_betweenWalls 12 = .ok (.ireturn, 1) := by decide +kernel
theorem d_Tank_canFire_0 : decode b_Tank_canFire 0 = .ok (.aload_n 0, 1) := by decide +kernel
theorem d_Tank_canFire_1 : decode b_Tank_canFire 1 = .ok (.getfield 28, 3) := by decide +kernel
theorem d_Tank_canFire_4 : decode b_Tank_canFire 4 = .ok (.getfield 94, 3) := by decide +kernel
theorem d_Tank_canFire_7 : decode b_Tank_canFire 7 = .ok (.ifCond .le 31, 3) := by decide +kernel
theorem d_Tank_canFire_10 : decode b_Tank_canFire 10 = .ok (.aload_n 0, 1) := by decide +kernel
theorem d_Tank_canFire_11 : decode b_Tank_canFire 11 = .ok (.getfield 76, 3) := by decide +kernel
theorem d_Tank_canFire_14 : decode b_Tank_canFire 14 = .ok (.ifCond .ne 24, 3) := by decide +kernel
theorem d_Tank_canFire_17 : decode b_Tank_canFire 17 = .ok (.aload_n 0, 1) := by decide +kernel
theorem d_Tank_canFire_18 : decode b_Tank_canFire 18 = .ok (.getfield 73, 3) := by decide +kernel
theorem d_Tank_canFire_21 : decode b_Tank_canFire 21 = .ok (.aload_n 0, 1) := by decide +kernel
theorem d_Tank_canFire_22 : decode b_Tank_canFire 22 = .ok (.getfield 28, 3) := by decide +kernel
theorem d_Tank_canFire_25 : decode b_Tank_canFire 25 = .ok (.getfield 94, 3) := by decide +kernel
theorem d_Tank_canFire_28 : decode b_Tank_canFire 28 = .ok (.bipush 8, 2) := by decide +kernel
theorem d_Tank_canFire_30 : decode b_Tank_canFire 30 = .ok (.imul, 1) := by decide +kernel
theorem d_Tank_canFire_31 : decode b_Tank_canFire 31 = .ok (.if_icmp .le 7, 3) := by decide +kernel
theorem d_Tank_canFire_34 : decode b_Tank_canFire 34 = .ok (.iconst 1, 1) := by decide +kernel
theorem d_Tank_canFire_35 : decode b_Tank_canFire 35 = .ok (.goto 4, 3) := by decide +kernel
theorem d_Tank_canFire_38 : decode b_Tank_canFire 38 = .ok (.iconst 0, 1) := by decide +kernel
theorem d_Tank_canFire_39 : decode b_Tank_canFire 39 = .ok (.ireturn, 1) := by decide +kernel
theorem d_Tank_changeSpeed_0 : decode b_Tank_changeSpeed 0 = .ok (.aload_n 0, 1) := by decide +kernel
theorem d_Tank_changeSpeed_1 : decode b_Tank_changeSpeed 1 = .ok (.invokevirtual 104, 3) := by decide +kernel
theorem d_Tank_changeSpeed_4 : decode b_Tank_changeSpeed 4 = .ok (.ifCond .eq 7, 3) := by decide +kernel
theorem d_Tank_changeSpeed_7 : decode b_Tank_changeSpeed 7 = .ok (.iconst 0, 1) := by decide +kernel
theorem d_Tank_changeSpeed_8 : decode b_Tank_changeSpeed 8 = .ok (.goto 7, 3) := by decide +kernel
theorem d_Tank_changeSpeed_11 : decode b_Tank_changeSpeed 11 = .ok (.aload_n 0, 1) := by decide +kernel
theorem d_Tank_changeSpeed_12 : decode b_Tank_changeSpeed 12 = .ok (.getfield 70, 3) := by decide +kernel
theorem d_Tank_changeSpeed_15 : decode b_Tank_changeSpeed 15 = .ok (.istore_n 1, 1) := by decide +kernel
theorem d_Tank_changeSpeed_16 : decode b_Tank_changeSpeed 16 = .ok (.iload_n 1, 1) := by decide +kernel
theorem d_Tank_changeSpeed_17 : decode b_Tank_changeSpeed 17 = .ok (.aload_n 0, 1) := by decide +kernel
theorem d_Tank_changeSpeed_18 : decode b_Tank_changeSpeed 18 = .ok (.getfield 67, 3) := by decide +kernel
theorem d_Tank_changeSpeed_21 : decode b_Tank_changeSpeed 21 = .ok (.if_icmp .le 16, 3) := by decide +kernel
theorem d_Tank_changeSpeed_24 : decode b_Tank_changeSpeed 24 = .ok (.aload_n 0, 1) := by decide +kernel
theorem d_Tank_changeSpeed_25 : decode b_Tank_changeSpeed 25 = .ok (.dup, 1) := by decide +kernel
theorem d_Tank_changeSpeed_26 : decode b_Tank_changeSpeed 26 = .ok (.getfield 67, 3) := by decide +kernel
theorem d_Tank_changeSpeed_29 : decode b_Tank_changeSpeed 29 = .ok (.iconst 4, 1) := by decide +kernel
theorem d_Tank_changeSpeed_30 : decode b_Tank_changeSpeed 30 = .ok (.iadd, 1) := by decide +kernel
theorem d_Tank_changeSpeed_31 : decode b_Tank_changeSpeed 31 = .ok (.putfield 67, 3) := by decide +kernel
theorem d_Tank_changeSpeed_34 : decode b_Tank_changeSpeed 34 = .ok (.goto 26, 3) := by decide +kernel
theorem d_Tank_changeSpeed_37 : decode b_Tank_changeSpeed 37 = .ok (.iload_n 1, 1) := by decide +kernel
theorem d_Tank_changeSpeed_38 : decode b_Tank_changeSpeed 38 = .ok (.aload_n 0, 1) := by decide +kernel
theorem d_Tank_changeSpeed_39 : decode b_Tank_changeSpeed 39 = .ok (.getfield 67, 3) := by decide +kernel
theorem d_Tank_changeSpeed_42 : decode b_Tank_changeSpeed 42 = .ok (.if_icmp .ge 18, 3) := by decide +kernel
theorem d_Tank_changeSpeed_45 : decode b_Tank_changeSpeed 45 = .ok (.aload_n 0, 1) := by decide +kernel
theorem d_Tank_changeSpeed_46 : decode b_Tank_changeSpeed 46 = .ok (.aload_n 0, 1) := by decide +kernel
theorem d_Tank_changeSpeed_47 : decode b_Tank_changeSpeed 47 = .ok (.getfield 67, 3) := by decide +kernel
theorem d_Tank_changeSpeed_50 : decode b_Tank_changeSpeed 50 = .ok (.bipush 8, 2) := by decide +kernel
theorem d_Tank_changeSpeed_52 : decode b_Tank_changeSpeed 52 = .ok (.isub, 1) := by decide +kernel
theorem d_Tank_changeSpeed_53 : decode b_Tank_changeSpeed 53 = .ok (.iload_n 1, 1) := by decide +kernel
theorem d_Tank_changeSpeed_54 : decode b_Tank_changeSpeed 54 = .ok (.invokestatic 108, 3) := by decide +kernel
theorem d_Tank_changeSpeed_57 : decode b_Tank_changeSpeed 57 = .ok (.putfield 67, 3) := by decide +kernel
theorem d_Tank_changeSpeed_60 : decode b_Tank_changeSpeed 60 = .ok (.return_, 1) := by decide +kernel
theorem d_Tank_cool_0 : decode b_Tank_cool 0 = .ok (.aload_n 0, 1) := by decide +kernel
theorem d_Tank_cool_1 : decode b_Tank_cool 1 = .ok (.aload_n 0, 1) := by decide +kernel
theorem d_Tank_cool_2 : decode b_Tank_cool 2 = .ok (.getfield 76, 3) := by decide +kernel
theorem d_Tank_cool_5 : decode b_Tank_cool 5 = .ok (.iconst 2, 1) := by decide +kernel
theorem d_Tank_cool_6 : decode b_Tank_cool 6 = .ok (.isub, 1) := by decide +kernel
theorem d_Tank_cool_7 : decode b_Tank_cool 7 = .ok (.iconst 0, 1) := by decide +kernel
theorem d_Tank_cool_8 : decode b_Tank_cool 8 = .ok (.invokestatic 108, 3) := by decide +kernel
theorem d_Tank_cool_11 : decode b_Tank_cool 11 = .ok (.putfield 76, 3) := by decide +kernel
theorem d_Tank_cool_14 : decode b_Tank_cool 14 = .ok (.return_, 1) := by decide +kernel
theorem d_Tank_distanceTo_0 : decode b_Tank_distanceTo 0 = .ok (.iload_n 1, 1) := by decide +kernel
theorem d_Tank_distanceTo_1 : decode b_Tank_distanceTo 1 = .ok (.aload_n 0, 1) := by decide +kernel
theorem d_Tank_distanceTo_2 : decode b_Tank_distanceTo 2 = .ok (.getfield 52, 3) := by decide +kernel
theorem d_Tank_distanceTo_5 : decode b_Tank_distanceTo 5 = .ok (.isub, 1) := by decide +kernel
theorem d_Tank_distanceTo_6 : decode b_Tank_distanceTo 6 = .ok (.invokestatic 130, 3) := by decide +kernel
theorem d_Tank_distanceTo_9 : decode b_Tank_distanceTo 9 = .ok (.iload_n 2, 1) := by decide +kernel
theorem d_Tank_distanceTo_10 : decode b_Tank_distanceTo 10 = .ok (.aload_n 0, 1) := by decide +kernel
theorem d_Tank_distanceTo_11 : decode b_Tank_distanceTo 11 = .ok (.getfield 55, 3) := by decide +kernel
theorem d_Tank_distanceTo_14 : decode b_Tank_distanceTo 14 = .ok (.isub, 1) := by decide +kernel
theorem d_Tank_distanceTo_15 : decode b_Tank_distanceTo 15 = .ok (.invokestatic 130, 3) := by decide +kernel
theorem d_Tank_distanceTo_18 : decode b_Tank_distanceTo 18 = .ok (.invokestatic 108, 3) := by decide +kernel
theorem d_Tank_distanceTo_21 : decode b_Tank_distanceTo 21 = .ok (.ireturn, 1) := by decide +kernel
theorem d_Tank_goOn_0 : decode b_Tank_goOn 0 = .ok (.aload_n 0, 1) := by decide +kernel
theorem d_Tank_goOn_1 : decode b_Tank_goOn 1 = .ok (.getfield 52, 3) := by decide +kernel
theorem d_Tank_goOn_4 : decode b_Tank_goOn 4 = .ok (.getstatic 113, 3) := by decide +kernel
theorem d_Tank_goOn_7 : decode b_Tank_goOn 7 = .ok (.aload_n 0, 1) := by decide +kernel
theorem d_Tank_goOn_8 : decode b_Tank_goOn 8 = .ok (.getfield 58, 3) := by decide +kernel
theorem d_Tank_goOn_11 : decode b_Tank_goOn 11 = .ok (.iaload, 1) := by decide +kernel
theorem d_Tank_goOn_12 : decode b_Tank_goOn 12 = .ok (.aload_n 0, 1) := by decide +kernel
theorem d_Tank_goOn_13 : decode b_Tank_goOn 13 = .ok (.getfield 67, 3) := by decide +kernel
theorem d_Tank_goOn_16 : decode b_Tank_goOn 16 = .ok (.imul, 1) := by decide +kernel
theorem d_Tank_goOn_17 : decode b_Tank_goOn 17 = .ok (.iadd, 1) := by decide +kernel
theorem d_Tank_goOn_18 : decode b_Tank_goOn 18 = .ok (.istore_n 1, 1) := by decide +kernel
theorem d_Tank_goOn_19 : decode b_Tank_goOn 19 = .ok (.aload_n 0, 1) := by decide +kernel
theorem d_Tank_goOn_20 : decode b_Tank_goOn 20 = .ok (.getfield 55, 3) := by decide +kernel
theorem d_Tank_goOn_23 : decode b_Tank_goOn 23 = .ok (.getstatic 117, 3) := by decide +kernel
theorem d_Tank_goOn_26 : decode b_Tank_goOn 26 = .ok (.aload_n 0, 1) := by decide +kernel
theorem d_Tank_goOn_27 : decode b_Tank_goOn 27 = .ok (.getfield 58, 3) := by decide +kernel
theorem d_Tank_goOn_30 : decode b_Tank_goOn 30 = .ok (.iaload, 1) := by decide +kernel
theorem d_Tank_goOn_31 : decode b_Tank_goOn 31 = .ok (.aload_n 0, 1) := by decide +kernel
theorem d_Tank_goOn_32 : decode b_Tank_goOn 32 = .ok (.getfield 67, 3) := by decide +kernel
theorem d_Tank_goOn_35 : decode b_Tank_goOn 35 = .ok (.imul, 1) := by decide +kernel
theorem d_Tank_goOn_36 : decode b_Tank_goOn 36 = .ok (.iadd, 1) := by decide +kernel
theorem d_Tank_goOn_37 : decode b_Tank_goOn 37 = .ok (.istore_n 2, 1) := by decide +kernel
theorem d_Tank_goOn_38 : decode b_Tank_goOn 38 = .ok (.aload_n 0, 1) := by decide +kernel
theorem d_Tank_goOn_39 : decode b_Tank_goOn 39 = .ok (.iload_n 1, 1) := by decide +kernel
theorem d_Tank_goOn_40 : decode b_Tank_goOn 40 = .ok (.invokestatic 120, 3) := by decide +kernel
theorem d_Tank_goOn_43 : decode b_Tank_goOn 43 = .ok (.putfield 52, 3) := by decide +kernel
theorem d_Tank_goOn_46 : decode b_Tank_goOn 46 = .ok (.aload_n 0, 1) := by decide +kernel
theorem d_Tank_goOn_47 : decode b_Tank_goOn 47 = .ok (.iload_n 2, 1) := by decide +kernel
theorem d_Tank_goOn_48 : decode b_Tank_goOn 48 = .ok (.invokestatic 120, 3) := by decide +kernel
theorem d_Tank_goOn_51 : decode b_Tank_goOn 51 = .ok (.putfield 55, 3) := by decide +kernel
theorem d_Tank_goOn_54 : decode b_Tank_goOn 54 = .ok (.aload_n 0, 1) := by decide +kernel
theorem d_Tank_goOn_55 : decode b_Tank_goOn 55 = .ok (.getfield 52, 3) := by decide +kernel
theorem d_Tank_goOn_58 : decode b_Tank_goOn 58 = .ok (.iload_n 1, 1) := by decide +kernel
theorem d_Tank_goOn_59 : decode b_Tank_goOn 59 = .ok (.if_icmp .ne 11, 3) := by decide +kernel
theorem d_Tank_goOn_62 : decode b_Tank_goOn 62 = .ok (.aload_n 0, 1) := by decide +kernel
theorem d_Tank_goOn_63 : decode b_Tank_goOn 63 = .ok (.getfield 55, 3) := by decide +kernel
theorem d_Tank_goOn_66 : decode b_Tank_goOn 66 = .ok (.iload_n 2, 1) := by decide +kernel
theorem d_Tank_goOn_67 : decode b_Tank_goOn 67 = .ok (.if_icmp .eq 26, 3) := by decide +kernel
theorem d_Tank_goOn_70 : decode b_Tank_goOn 70 = .ok (.aload_n 0, 1) := by decide +kernel
theorem d_Tank_goOn_71 : decode b_Tank_goOn 71 = .ok (.getfield 35, 3) := by decide +kernel
theorem d_Tank_goOn_74 : decode b_Tank_goOn 74 = .ok (.iconst 1, 1) := by decide +kernel
theorem d_Tank_goOn_75 : decode b_Tank_goOn 75 = .ok (.putfield 124, 3) := by decide +kernel
theorem d_Tank_goOn_78 : decode b_Tank_goOn 78 = .ok (.aload_n 0, 1) := by decide +kernel
theorem d_Tank_goOn_79 : decode b_Tank_goOn 79 = .ok (.dup, 1) := by decide +kernel
theorem d_Tank_goOn_80 : decode b_Tank_goOn 80 = .ok (.getfield 73, 3) := by decide +kernel
theorem d_Tank_goOn_83 : decode b_Tank_goOn 83 = .ok (.aload_n 0, 1) := by decide +kernel
theorem d_Tank_goOn_84 : decode b_Tank_goOn 84 = .ok (.getfield 67, 3) := by decide +kernel
theorem d_Tank_goOn_87 : decode b_Tank_goOn 87 = .ok (.iconst 2, 1) := by decide +kernel
theorem d_Tank_goOn_88 : decode b_Tank_goOn 88 = .ok (.idiv, 1) := by decide +kernel
theorem d_Tank_goOn_89 : decode b_Tank_goOn 89 = .ok (.isub, 1) := by decide +kernel
theorem d_Tank_goOn_90 : decode b_Tank_goOn 90 = .ok (.putfield 73, 3) := by decide +kernel
theorem d_Tank_goOn_93 : decode b_Tank_goOn 93 = .ok (.return_, 1) := by decide +kernel
theorem d_Tank_isDisabled_0 : decode b_Tank_isDisabled 0 = .ok (.aload_n 0, 1) := by decide +kernel
theorem d_Tank_isDisabled_1 : decode b_Tank_isDisabled 1 = .ok (.getfield 21, 3) := by decide +kernel
theorem d_Tank_isDisabled_4 : decode b_Tank_isDisabled 4 = .ok (.getfield 91, 3) := by decide +kernel
theorem d_Tank_isDisabled_7 : decode b_Tank_isDisabled 7 = .ok (.iconst 3, 1) := by decide +kernel
theorem d_Tank_isDisabled_8 : decode b_Tank_isDisabled 8 = .ok (.if_icmp .lt 7, 3) := by decide +kernel
theorem d_Tank_isDisabled_11 : decode b_Tank_isDisabled 11 = .ok (.iconst 1, 1) := by decide +kernel
theorem d_Tank_isDisabled_12 : decode b_Tank_isDisabled 12 = .ok (.goto 4, 3) := by decide +kernel
theorem d_Tank_isDisabled_15 : decode b_Tank_isDisabled 15 = .ok (.iconst 0, 1) := by decide +kernel
theorem d_Tank_isDisabled_16 : decode b_Tank_isDisabled 16 = .ok (.ireturn, 1) := by decide +kernel
theorem d_Tank_measured_0 : decode b_Tank_measured 0 = .ok (.iload_n 1, 1) := by decide +kernel
theorem d_Tank_measured_1 : decode b_Tank_measured 1 = .ok (.tableswitch 90 0 7 #[47, 52, 57, 62, 67, 72, 77, 82], 47) := by decide +kernel
theorem d_Tank_measured_48 : decode b_Tank_measured 48 = .ok (.aload_n 0, 1) := by decide +kernel
theorem d_Tank_measured_49 : decode b_Tank_measured 49 = .ok (.getfield 52, 3) := by decide +kernel
theorem d_Tank_measured_52 : decode b_Tank_measured 52 = .ok (.ireturn, 1) := by decide +kernel
theorem d_Tank_measured_53 : decode b_Tank_measured 53 = .ok (.aload_n 0, 1) := by decide +kernel
theorem d_Tank_measured_54 : decode b_Tank_measured 54 = .ok (.getfield 55, 3) := by decide +kernel
theorem d_Tank_measured_57 : decode b_Tank_measured 57 = .ok (.ireturn, 1) := by decide +kernel
theorem d_Tank_measured_58 : decode b_Tank_measured 58 = .ok (.aload_n 0, 1) := by decide +kernel
theorem d_Tank_measured_59 : decode b_Tank_measured 59 = .ok (.getfield 67, 3) := by decide +kernel
theorem d_Tank_measured_62 : decode b_Tank_measured 62 = .ok (.ireturn, 1) := by decide +kernel
theorem d_Tank_measured_63 : decode b_Tank_measured 63 = .ok (.aload_n 0, 1) := by decide +kernel
theorem d_Tank_measured_64 : decode b_Tank_measured 64 = .ok (.getfield 73, 3) := by decide +kernel
theorem d_Tank_measured_67 : decode b_Tank_measured 67 = .ok (.ireturn, 1) := by decide +kernel
theorem d_Tank_measured_68 : decode b_Tank_measured 68 = .ok (.aload_n 0, 1) := by decide +kernel
theorem d_Tank_measured_69 : decode b_Tank_measured 69 = .ok (.getfield 76, 3) := by decide +kernel
theorem d_Tank_measured_72 : decode b_Tank_measured 72 = .ok (.ireturn, 1) := by decide +kernel
theorem d_Tank_measured_73 : decode b_Tank_measured 73 = .ok (.aload_n 0, 1) := by decide +kernel
theorem d_Tank_measured_74 : decode b_Tank_measured 74 = .ok (.getfield 70, 3) := by decide +kernel
theorem d_Tank_measured_77 : decode b_Tank_measured 77 = .ok (.ireturn, 1) := by decide +kernel
theorem d_Tank_measured_78 : decode b_Tank_measured 78 = .ok (.aload_n 0, 1) := by decide +kernel
theorem d_Tank_measured_79 : decode b_Tank_measured 79 = .ok (.getfield 79, 3) := by decide +kernel
theorem d_Tank_measured_82 : decode b_Tank_measured 82 = .ok (.ireturn, 1) := by decide +kernel
theorem d_Tank_measured_83 : decode b_Tank_measured 83 = .ok (.aload_n 0, 1) := by decide +kernel
theorem d_Tank_measured_84 : decode b_Tank_measured 84 = .ok (.getfield 35, 3) := by decide +kernel
theorem d_Tank_measured_87 : decode b_Tank_measured 87 = .ok (.getfield 133, 3) := by decide +kernel
theorem d_Tank_measured_90 : decode b_Tank_measured 90 = .ok (.ireturn, 1) := by decide +kernel
theorem d_Tank_measured_91 : decode b_Tank_measured 91 = .ok (.ldc 136, 2) := by decide +kernel
theorem d_Tank_measured_93 : decode b_Tank_measured 93 = .ok (.ireturn, 1) := by decide +kernel
theorem d_Tank_obeyTurns_0 : decode b_Tank_obeyTurns 0 = .ok (.aload_n 0, 1) := by decide +kernel
theorem d_Tank_obeyTurns_1 : decode b_Tank_obeyTurns 1 = .ok (.getfield 67, 3) := by decide +kernel
theorem d_Tank_obeyTurns_4 : decode b_Tank_obeyTurns 4 = .ok (.bipush 16, 2) := by decide +kernel
theorem d_Tank_obeyTurns_6 : decode b_Tank_obeyTurns 6 = .ok (.if_icmp .gt 21, 3) := by decide +kernel
theorem d_Tank_obeyTurns_9 : decode b_Tank_obeyTurns 9 = .ok (.aload_n 0, 1) := by decide +kernel
theorem d_Tank_obeyTurns_10 : decode b_Tank_obeyTurns 10 = .ok (.aload_n 0, 1) := by decide +kernel
theorem d_Tank_obeyTurns_11 : decode b_Tank_obeyTurns 11 = .ok (.getfield 58, 3) := by decide +kernel
theorem d_Tank_obeyTurns_14 : decode b_Tank_obeyTurns 14 = .ok (.aload_n 0, 1) := by decide +kernel
theorem d_Tank_obeyTurns_15 : decode b_Tank_obeyTurns 15 = .ok (.getfield 28, 3) := by decide +kernel
theorem d_Tank_obeyTurns_18 : decode b_Tank_obeyTurns 18 = .ok (.getfield 97, 3) := by decide +kernel
theorem d_Tank_obeyTurns_21 : decode b_Tank_obeyTurns 21 = .ok (.invokestatic 98, 3) := by decide +kernel
theorem d_Tank_obeyTurns_24 : decode b_Tank_obeyTurns 24 = .ok (.putfield 58, 3) := by decide +kernel
theorem d_Tank_obeyTurns_27 : decode b_Tank_obeyTurns 27 = .ok (.aload_n 0, 1) := by decide +kernel
theorem d_Tank_obeyTurns_28 : decode b_Tank_obeyTurns 28 = .ok (.aload_n 0, 1) := by decide +kernel
theorem d_Tank_obeyTurns_29 : decode b_Tank_obeyTurns 29 = .ok (.getfield 61, 3) := by decide +kernel
theorem d_Tank_obeyTurns_32 : decode b_Tank_obeyTurns 32 = .ok (.aload_n 0, 1) := by decide +kernel
theorem d_Tank_obeyTurns_33 : decode b_Tank_obeyTurns 33 = .ok (.getfield 28, 3) := by decide +kernel
theorem d_Tank_obeyTurns_36 : decode b_Tank_obeyTurns 36 = .ok (.getfield 102, 3) := by decide +kernel
theorem d_Tank_obeyTurns_39 : decode b_Tank_obeyTurns 39 = .ok (.invokestatic 98, 3) := by decide +kernel
theorem d_Tank_obeyTurns_42 : decode b_Tank_obeyTurns 42 = .ok (.putfield 61, 3) := by decide +kernel
theorem d_Tank_obeyTurns_45 : decode b_Tank_obeyTurns 45 = .ok (.aload_n 0, 1) := by decide +kernel
theorem d_Tank_obeyTurns_46 : decode b_Tank_obeyTurns 46 = .ok (.aload_n 0, 1) := by decide +kernel
theorem d_Tank_obeyTurns_47 : decode b_Tank_obeyTurns 47 = .ok (.getfield 64, 3) := by decide +kernel
theorem d_Tank_obeyTurns_50 : decode b_Tank_obeyTurns 50 = .ok (.aload_n 0, 1) := by decide +kernel
theorem d_Tank_obeyTurns_51 : decode b_Tank_obeyTurns 51 = .ok (.getfield 28, 3) := by decide +kernel
theorem d_Tank_obeyTurns_54 : decode b_Tank_obeyTurns 54 = .ok (.getfield 103, 3) := by decide +kernel
theorem d_Tank_obeyTurns_57 : decode b_Tank_obeyTurns 57 = .ok (.invokestatic 98, 3) := by decide +kernel
theorem d_Tank_obeyTurns_60 : decode b_Tank_obeyTurns 60 = .ok (.putfield 64, 3) := by decide +kernel
theorem d_Tank_obeyTurns_63 : decode b_Tank_obeyTurns 63 = .ok (.return_, 1) := by decide +kernel
theorem d_Tank_standAt_0 : decode b_Tank_standAt 0 = .ok (.aload_n 0, 1) := by decide +kernel
theorem d_Tank_standAt_1 : decode b_Tank_standAt 1 = .ok (.iload_n 1, 1) := by decide +kernel
theorem d_Tank_standAt_2 : decode b_Tank_standAt 2 = .ok (.putfield 39, 3) := by decide +kernel
theorem d_Tank_standAt_5 : decode b_Tank_standAt 5 = .ok (.aload_n 0, 1) := by decide +kernel
theorem d_Tank_standAt_6 : decode b_Tank_standAt 6 = .ok (.iload_n 2, 1) := by decide +kernel
theorem d_Tank_standAt_7 : decode b_Tank_standAt 7 = .ok (.putfield 43, 3) := by decide +kernel
theorem d_Tank_standAt_10 : decode b_Tank_standAt 10 = .ok (.aload_n 0, 1) := by decide +kernel
theorem d_Tank_standAt_11 : decode b_Tank_standAt 11 = .ok (.iload_n 3, 1) := by decide +kernel
theorem d_Tank_standAt_12 : decode b_Tank_standAt 12 = .ok (.putfield 46, 3) := by decide +kernel
theorem d_Tank_standAt_15 : decode b_Tank_standAt 15 = .ok (.aload_n 0, 1) := by decide +kernel
theorem d_Tank_standAt_16 : decode b_Tank_standAt 16 = .ok (.invokevirtual 49, 3) := by decide +kernel
theorem d_Tank_standAt_19 : decode b_Tank_standAt 19 = .ok (.return_, 1) := by decide +kernel
theorem d_Tank_startAnew_0 : decode b_Tank_startAnew 0 = .ok (.aload_n 0, 1) := by decide +kernel
theorem d_Tank_startAnew_1 : decode b_Tank_startAnew 1 = .ok (.aload_n 0, 1) := by decide +kernel
theorem d_Tank_startAnew_2 : decode b_Tank_startAnew 2 = .ok (.getfield 39, 3) := by decide +kernel
theorem d_Tank_startAnew_5 : decode b_Tank_startAnew 5 = .ok (.putfield 52, 3) := by decide +kernel
theorem d_Tank_startAnew_8 : decode b_Tank_startAnew 8 = .ok (.aload_n 0, 1) := by decide +kernel
theorem d_Tank_startAnew_9 : decode b_Tank_startAnew 9 = .ok (.aload_n 0, 1) := by decide +kernel
theorem d_Tank_startAnew_10 : decode b_Tank_startAnew 10 = .ok (.getfield 43, 3) := by decide +kernel
theorem d_Tank_startAnew_13 : decode b_Tank_startAnew 13 = .ok (.putfield 55, 3) := by decide +kernel
theorem d_Tank_startAnew_16 : decode b_Tank_startAnew 16 = .ok (.aload_n 0, 1) := by decide +kernel
theorem d_Tank_startAnew_17 : decode b_Tank_startAnew 17 = .ok (.aload_n 0, 1) := by decide +kernel
theorem d_Tank_startAnew_18 : decode b_Tank_startAnew 18 = .ok (.getfield 46, 3) := by decide +kernel
theorem d_Tank_startAnew_21 : decode b_Tank_startAnew 21 = .ok (.putfield 58, 3) := by decide +kernel
theorem d_Tank_startAnew_24 : decode b_Tank_startAnew 24 = .ok (.aload_n 0, 1) := by decide +kernel
theorem d_Tank_startAnew_25 : decode b_Tank_startAnew 25 = .ok (.aload_n 0, 1) := by decide +kernel
theorem d_Tank_startAnew_26 : decode b_Tank_startAnew 26 = .ok (.getfield 46, 3) := by decide +kernel
theorem d_Tank_startAnew_29 : decode b_Tank_startAnew 29 = .ok (.putfield 61, 3) := by decide +kernel
theorem d_Tank_startAnew_32 : decode b_Tank_startAnew 32 = .ok (.aload_n 0, 1) := by decide +kernel
theorem d_Tank_startAnew_33 : decode b_Tank_startAnew 33 = .ok (.aload_n 0, 1) := by decide +kernel
theorem d_Tank_startAnew_34 : decode b_Tank_startAnew 34 = .ok (.getfield 46, 3) := by decide +kernel
theorem d_Tank_startAnew_37 : decode b_Tank_startAnew 37 = .ok (.putfield 64, 3) := by decide +kernel
theorem d_Tank_startAnew_40 : decode b_Tank_startAnew 40 = .ok (.aload_n 0, 1) := by decide +kernel
theorem d_Tank_startAnew_41 : decode b_Tank_startAnew 41 = .ok (.iconst 0, 1) := by decide +kernel
theorem d_Tank_startAnew_42 : decode b_Tank_startAnew 42 = .ok (.putfield 67, 3) := by decide +kernel
theorem d_Tank_startAnew_45 : decode b_Tank_startAnew 45 = .ok (.aload_n 0, 1) := by decide +kernel
theorem d_Tank_startAnew_46 : decode b_Tank_startAnew 46 = .ok (.iconst 0, 1) := by decide +kernel
theorem d_Tank_startAnew_47 : decode b_Tank_startAnew 47 = .ok (.putfield 70, 3) := by decide +kernel
theorem d_Tank_startAnew_50 : decode b_Tank_startAnew 50 = .ok (.aload_n 0, 1) := by decide +kernel
theorem d_Tank_startAnew_51 : decode b_Tank_startAnew 51 = .ok (.sipush 800, 3) := by decide +kernel
theorem d_Tank_startAnew_54 : decode b_Tank_startAnew 54 = .ok (.putfield 73, 3) := by decide +kernel
theorem d_Tank_startAnew_57 : decode b_Tank_startAnew 57 = .ok (.aload_n 0, 1) := by decide +kernel
theorem d_Tank_startAnew_58 : decode b_Tank_startAnew 58 = .ok (.bipush 24, 2) := by decide +kernel
theorem d_Tank_startAnew_60 : decode b_Tank_startAnew 60 = .ok (.putfield 76, 3) := by decide +kernel
theorem d_Tank_startAnew_63 : decode b_Tank_startAnew 63 = .ok (.aload_n 0, 1) := by decide +kernel
theorem d_Tank_startAnew_64 : decode b_Tank_startAnew 64 = .ok (.iconst 0, 1) := by decide +kernel
theorem d_Tank_startAnew_65 : decode b_Tank_startAnew 65 = .ok (.putfield 79, 3) := by decide +kernel
theorem d_Tank_startAnew_68 : decode b_Tank_startAnew 68 = .ok (.aload_n 0, 1) := by decide +kernel
theorem d_Tank_startAnew_69 : decode b_Tank_startAnew 69 = .ok (.iconst 1, 1) := by decide +kernel
theorem d_Tank_startAnew_70 : decode b_Tank_startAnew 70 = .ok (.putfield 82, 3) := by decide +kernel
theorem d_Tank_startAnew_73 : decode b_Tank_startAnew 73 = .ok (.aload_n 0, 1) := by decide +kernel
theorem d_Tank_startAnew_74 : decode b_Tank_startAnew 74 = .ok (.getfield 21, 3) := by decide +kernel
theorem d_Tank_startAnew_77 : decode b_Tank_startAnew 77 = .ok (.invokevirtual 86, 3) := by decide +kernel
theorem d_Tank_startAnew_80 : decode b_Tank_startAnew 80 = .ok (.aload_n 0, 1) := by decide +kernel
theorem d_Tank_startAnew_81 : decode b_Tank_startAnew 81 = .ok (.getfield 28, 3) := by decide +kernel
theorem d_Tank_startAnew_84 : decode b_Tank_startAnew 84 = .ok (.invokevirtual 89, 3) := by decide +kernel
theorem d_Tank_startAnew_87 : decode b_Tank_startAnew 87 = .ok (.aload_n 0, 1) := by decide +kernel
theorem d_Tank_startAnew_88 : decode b_Tank_startAnew 88 = .ok (.getfield 35, 3) := by decide +kernel
theorem d_Tank_startAnew_91 : decode b_Tank_startAnew 91 = .ok (.invokevirtual 90, 3) := by decide +kernel
theorem d_Tank_startAnew_94 : decode b_Tank_startAnew 94 = .ok (.return_, 1) := by decide +kernel
theorem d_Tank_told_0 : decode b_Tank_told 0 = .ok (.iload_n 1, 1) := by decide +kernel
theorem d_Tank_told_1 : decode b_Tank_told 1 = .ok (.tableswitch 163 0 10 #[59, 64, 69, 74, 87, 95, 103, 113, 123, 131, 147], 59) := by decide +kernel
theorem d_Tank_told_60 : decode b_Tank_told 60 = .ok (.aload_n 0, 1) := by decide +kernel
theorem d_Tank_told_61 : decode b_Tank_told 61 = .ok (.getfield 58, 3) := by decide +kernel
