/-! DECODE ROWS -/
theorem d_TankArenaModel_look_41 : decode b_TankArenaModel_look 41 = .ok (.if_icmp .eq 95, 3) := by decide +kernel
theorem d_TankArenaModel_look_44 : decode b_TankArenaModel_look 44 = .ok (.aload_n 0, 1) := by decide +kernel
theorem d_TankArenaModel_look_45 : decode b_TankArenaModel_look 45 = .ok (.getfield 70, 3) := by decide +kernel
theorem d_TankArenaModel_look_48 : decode b_TankArenaModel_look 48 = .ok (.iload_n 2, 1) := by decide +kernel
theorem d_TankArenaModel_look_49 : decode b_TankArenaModel_look 49 = .ok (.baload, 1) := by decide +kernel
theorem d_TankArenaModel_look_50 : decode b_TankArenaModel_look 50 = .ok (.ifCond .eq 86, 3) := by decide +kernel
theorem d_TankArenaModel_look_53 : decode b_TankArenaModel_look 53 = .ok (.iload_n 3, 1) := by decide +kernel
theorem d_TankArenaModel_look_54 : decode b_TankArenaModel_look 54 = .ok (.iload 4, 2) := by decide +kernel
theorem d_TankArenaModel_look_56 : decode b_TankArenaModel_look 56 = .ok (.invokestatic 136, 3) := by decide +kernel
theorem d_TankArenaModel_look_59 : decode b_TankArenaModel_look 59 = .ok (.aload_n 0, 1) := by decide +kernel
theorem d_TankArenaModel_look_60 : decode b_TankArenaModel_look 60 = .ok (.getfield 43, 3) := by decide +kernel
theorem d_TankArenaModel_look_63 : decode b_TankArenaModel_look 63 = .ok (.iload_n 1, 1) := by decide +kernel
theorem d_TankArenaModel_look_64 : decode b_TankArenaModel_look 64 = .ok (.iaload, 1) := by decide +kernel
theorem d_TankArenaModel_look_65 : decode b_TankArenaModel_look 65 = .ok (.if_icmp .eq 6, 3) := by decide +kernel
theorem d_TankArenaModel_look_68 : decode b_TankArenaModel_look 68 = .ok (.goto 68, 3) := by decide +kernel
theorem d_TankArenaModel_look_71 : decode b_TankArenaModel_look 71 = .ok (.iload_n 3, 1) := by decide +kernel
theorem d_TankArenaModel_look_72 : decode b_TankArenaModel_look 72 = .ok (.invokestatic 110, 3) := by decide +kernel
theorem d_TankArenaModel_look_75 : decode b_TankArenaModel_look 75 = .ok (.iload 4, 2) := by decide +kernel
theorem d_TankArenaModel_look_77 : decode b_TankArenaModel_look 77 = .ok (.invokestatic 110, 3) := by decide +kernel
theorem d_TankArenaModel_look_80 : decode b_TankArenaModel_look 80 = .ok (.if_icmp .le 10, 3) := by decide +kernel
theorem d_TankArenaModel_look_83 : decode b_TankArenaModel_look 83 = .ok (.iload_n 3, 1) := by decide +kernel
theorem d_TankArenaModel_look_84 : decode b_TankArenaModel_look 84 = .ok (.invokestatic 110, 3) := by decide +kernel
theorem d_TankArenaModel_look_87 : decode b_TankArenaModel_look 87 = .ok (.goto 8, 3) := by decide +kernel
theorem d_TankArenaModel_look_90 : decode b_TankArenaModel_look 90 = .ok (.iload 4, 2) := by decide +kernel
theorem d_TankArenaModel_look_92 : decode b_TankArenaModel_look 92 = .ok (.invokestatic 110, 3) := by decide +kernel
theorem d_TankArenaModel_look_95 : decode b_TankArenaModel_look 95 = .ok (.istore 5, 2) := by decide +kernel
theorem d_TankArenaModel_look_97 : decode b_TankArenaModel_look 97 = .ok (.aload_n 0, 1) := by decide +kernel
theorem d_TankArenaModel_look_98 : decode b_TankArenaModel_look 98 = .ok (.getfield 80, 3) := by decide +kernel
theorem d_TankArenaModel_look_101 : decode b_TankArenaModel_look 101 = .ok (.iload_n 1, 1) := by decide +kernel
theorem d_TankArenaModel_look_102 : decode b_TankArenaModel_look 102 = .ok (.iaload, 1) := by decide +kernel
theorem d_TankArenaModel_look_103 : decode b_TankArenaModel_look 103 = .ok (.iconst 4, 1) := by decide +kernel
theorem d_TankArenaModel_look_104 : decode b_TankArenaModel_look 104 = .ok (.if_icmp .ge 17, 3) := by decide +kernel
theorem d_TankArenaModel_look_107 : decode b_TankArenaModel_look 107 = .ok (.aload_n 0, 1) := by decide +kernel
theorem d_TankArenaModel_look_108 : decode b_TankArenaModel_look 108 = .ok (.getfield 83, 3) := by decide +kernel
theorem d_TankArenaModel_look_111 : decode b_TankArenaModel_look 111 = .ok (.iload_n 1, 1) := by decide +kernel
theorem d_TankArenaModel_look_112 : decode b_TankArenaModel_look 112 = .ok (.iaload, 1) := by decide +kernel
theorem d_TankArenaModel_look_113 : decode b_TankArenaModel_look 113 = .ok (.iload 5, 2) := by decide +kernel
theorem d_TankArenaModel_look_115 : decode b_TankArenaModel_look 115 = .ok (.if_icmp .gt 6, 3) := by decide +kernel
theorem d_TankArenaModel_look_118 : decode b_TankArenaModel_look 118 = .ok (.goto 18, 3) := by decide +kernel
theorem d_TankArenaModel_look_121 : decode b_TankArenaModel_look 121 = .ok (.aload_n 0, 1) := by decide +kernel
theorem d_TankArenaModel_look_122 : decode b_TankArenaModel_look 122 = .ok (.getfield 80, 3) := by decide +kernel
theorem d_TankArenaModel_look_125 : decode b_TankArenaModel_look 125 = .ok (.iload_n 1, 1) := by decide +kernel
theorem d_TankArenaModel_look_126 : decode b_TankArenaModel_look 126 = .ok (.iload_n 2, 1) := by decide +kernel
theorem d_TankArenaModel_look_127 : decode b_TankArenaModel_look 127 = .ok (.iastore, 1) := by decide +kernel
theorem d_TankArenaModel_look_128 : decode b_TankArenaModel_look 128 = .ok (.aload_n 0, 1) := by decide +kernel
theorem d_TankArenaModel_look_129 : decode b_TankArenaModel_look 129 = .ok (.getfield 83, 3) := by decide +kernel
theorem d_TankArenaModel_look_132 : decode b_TankArenaModel_look 132 = .ok (.iload_n 1, 1) := by decide +kernel
theorem d_TankArenaModel_look_133 : decode b_TankArenaModel_look 133 = .ok (.iload 5, 2) := by decide +kernel
theorem d_TankArenaModel_look_135 : decode b_TankArenaModel_look 135 = .ok (.iastore, 1) := by decide +kernel
theorem d_TankArenaModel_look_136 : decode b_TankArenaModel_look 136 = .ok (.iinc 2 1, 3) := by decide +kernel
theorem d_TankArenaModel_look_139 : decode b_TankArenaModel_look 139 = .ok (.goto (-137), 3) := by decide +kernel
theorem d_TankArenaModel_look_142 : decode b_TankArenaModel_look 142 = .ok (.return_, 1) := by decide +kernel
theorem d_TankArenaModel_measure_0 : decode b_TankArenaModel_measure 0 = .ok (.iload_n 1, 1) := by decide +kernel
theorem d_TankArenaModel_measure_1 : decode b_TankArenaModel_measure 1 = .ok (.ifCond .lt 11, 3) := by decide +kernel
theorem d_TankArenaModel_measure_4 : decode b_TankArenaModel_measure 4 = .ok (.iload_n 1, 1) := by decide +kernel
theorem d_TankArenaModel_measure_5 : decode b_TankArenaModel_measure 5 = .ok (.aload_n 0, 1) := by decide +kernel
theorem d_TankArenaModel_measure_6 : decode b_TankArenaModel_measure 6 = .ok (.getfield 122, 3) := by decide +kernel
theorem d_TankArenaModel_measure_9 : decode b_TankArenaModel_measure 9 = .ok (.if_icmp .lt 7, 3) := by decide +kernel
theorem d_TankArenaModel_measure_12 : decode b_TankArenaModel_measure 12 = .ok (.ldc2_w 204, 3) := by decide +kernel
theorem d_TankArenaModel_measure_15 : decode b_TankArenaModel_measure 15 = .ok (.lreturn, 1) := by decide +kernel
theorem d_TankArenaModel_measure_16 : decode b_TankArenaModel_measure 16 = .ok (.iload_n 2, 1) := by decide +kernel
theorem d_TankArenaModel_measure_17 : decode b_TankArenaModel_measure 17 = .ok (.tableswitch 111 0 7 #[47, 55, 63, 71, 79, 87, 95, 103], 47) := by decide +kernel
theorem d_TankArenaModel_measure_64 : decode b_TankArenaModel_measure 64 = .ok (.aload_n 0, 1) := by decide +kernel
theorem d_TankArenaModel_measure_65 : decode b_TankArenaModel_measure 65 = .ok (.getfield 31, 3) := by decide +kernel
theorem d_TankArenaModel_measure_68 : decode b_TankArenaModel_measure 68 = .ok (.iload_n 1, 1) := by decide +kernel
theorem d_TankArenaModel_measure_69 : decode b_TankArenaModel_measure 69 = .ok (.iaload, 1) := by decide +kernel
theorem d_TankArenaModel_measure_70 : decode b_TankArenaModel_measure 70 = .ok (.i2l, 1) := by decide +kernel
theorem d_TankArenaModel_measure_71 : decode b_TankArenaModel_measure 71 = .ok (.lreturn, 1) := by decide +kernel
theorem d_TankArenaModel_measure_72 : decode b_TankArenaModel_measure 72 = .ok (.aload_n 0, 1) := by decide +kernel
theorem d_TankArenaModel_measure_73 : decode b_TankArenaModel_measure 73 = .ok (.getfield 34, 3) := by decide +kernel
theorem d_TankArenaModel_measure_76 : decode b_TankArenaModel_measure 76 = .ok (.iload_n 1, 1) := by decide +kernel
theorem d_TankArenaModel_measure_77 : decode b_TankArenaModel_measure 77 = .ok (.iaload, 1) := by decide +kernel
theorem d_TankArenaModel_measure_78 : decode b_TankArenaModel_measure 78 = .ok (.i2l, 1) := by decide +kernel
theorem d_TankArenaModel_measure_79 : decode b_TankArenaModel_measure 79 = .ok (.lreturn, 1) := by decide +kernel
theorem d_TankArenaModel_measure_80 : decode b_TankArenaModel_measure 80 = .ok (.aload_n 0, 1) := by decide +kernel
theorem d_TankArenaModel_measure_81 : decode b_TankArenaModel_measure 81 = .ok (.getfield 46, 3) := by decide +kernel
theorem d_TankArenaModel_measure_84 : decode b_TankArenaModel_measure 84 = .ok (.iload_n 1, 1) := by decide +kernel
theorem d_TankArenaModel_measure_85 : decode b_TankArenaModel_measure 85 = .ok (.iaload, 1) := by decide +kernel
theorem d_TankArenaModel_measure_86 : decode b_TankArenaModel_measure 86 = .ok (.i2l, 1) := by decide +kernel
theorem d_TankArenaModel_measure_87 : decode b_TankArenaModel_measure 87 = .ok (.lreturn, 1) := by decide +kernel
theorem d_TankArenaModel_measure_88 : decode b_TankArenaModel_measure 88 = .ok (.aload_n 0, 1) := by decide +kernel
theorem d_TankArenaModel_measure_89 : decode b_TankArenaModel_measure 89 = .ok (.getfield 52, 3) := by decide +kernel
theorem d_TankArenaModel_measure_92 : decode b_TankArenaModel_measure 92 = .ok (.iload_n 1, 1) := by decide +kernel
theorem d_TankArenaModel_measure_93 : decode b_TankArenaModel_measure 93 = .ok (.iaload, 1) := by decide +kernel
theorem d_TankArenaModel_measure_94 : decode b_TankArenaModel_measure 94 = .ok (.i2l, 1) := by decide +kernel
theorem d_TankArenaModel_measure_95 : decode b_TankArenaModel_measure 95 = .ok (.lreturn, 1) := by decide +kernel
theorem d_TankArenaModel_measure_96 : decode b_TankArenaModel_measure 96 = .ok (.aload_n 0, 1) := by decide +kernel
theorem d_TankArenaModel_measure_97 : decode b_TankArenaModel_measure 97 = .ok (.getfield 55, 3) := by decide +kernel
theorem d_TankArenaModel_measure_100 : decode b_TankArenaModel_measure 100 = .ok (.iload_n 1, 1) := by decide +kernel
theorem d_TankArenaModel_measure_101 : decode b_TankArenaModel_measure 101 = .ok (.iaload, 1) := by decide +kernel
theorem d_TankArenaModel_measure_102 : decode b_TankArenaModel_measure 102 = .ok (.i2l, 1) := by decide +kernel
theorem d_TankArenaModel_measure_103 : decode b_TankArenaModel_measure 103 = .ok (.lreturn, 1) := by decide +kernel
theorem d_TankArenaModel_measure_104 : decode b_TankArenaModel_measure 104 = .ok (.aload_n 0, 1) := by decide +kernel
theorem d_TankArenaModel_measure_105 : decode b_TankArenaModel_measure 105 = .ok (.getfield 49, 3) := by decide +kernel
theorem d_TankArenaModel_measure_108 : decode b_TankArenaModel_measure 108 = .ok (.iload_n 1, 1) := by decide +kernel
theorem d_TankArenaModel_measure_109 : decode b_TankArenaModel_measure 109 = .ok (.iaload, 1) := by decide +kernel
theorem d_TankArenaModel_measure_110 : decode b_TankArenaModel_measure 110 = .ok (.i2l, 1) := by decide +kernel
theorem d_TankArenaModel_measure_111 : decode b_TankArenaModel_measure 111 = .ok (.lreturn, 1) := by decide +kernel
theorem d_TankArenaModel_measure_112 : decode b_TankArenaModel_measure 112 = .ok (.aload_n 0, 1) := by decide +kernel
theorem d_TankArenaModel_measure_113 : decode b_TankArenaModel_measure 113 = .ok (.getfield 67, 3) := by decide +kernel
theorem d_TankArenaModel_measure_116 : decode b_TankArenaModel_measure 116 = .ok (.iload_n 1, 1) := by decide +kernel
theorem d_TankArenaModel_measure_117 : decode b_TankArenaModel_measure 117 = .ok (.iaload, 1) := by decide +kernel
theorem d_TankArenaModel_measure_118 : decode b_TankArenaModel_measure 118 = .ok (.i2l, 1) := by decide +kernel
theorem d_TankArenaModel_measure_119 : decode b_TankArenaModel_measure 119 = .ok (.lreturn, 1) := by decide +kernel
theorem d_TankArenaModel_measure_120 : decode b_TankArenaModel_measure 120 = .ok (.aload_n 0, 1) := by decide +kernel
theorem d_TankArenaModel_measure_121 : decode b_TankArenaModel_measure 121 = .ok (.getfield 83, 3) := by decide +kernel
theorem d_TankArenaModel_measure_124 : decode b_TankArenaModel_measure 124 = .ok (.iload_n 1, 1) := by decide +kernel
theorem d_TankArenaModel_measure_125 : decode b_TankArenaModel_measure 125 = .ok (.iaload, 1) := by decide +kernel
theorem d_TankArenaModel_measure_126 : decode b_TankArenaModel_measure 126 = .ok (.i2l, 1) := by decide +kernel
theorem d_TankArenaModel_measure_127 : decode b_TankArenaModel_measure 127 = .ok (.lreturn, 1) := by decide +kernel
theorem d_TankArenaModel_measure_128 : decode b_TankArenaModel_measure 128 = .ok (.ldc2_w 204, 3) := by decide +kernel
theorem d_TankArenaModel_measure_131 : decode b_TankArenaModel_measure 131 = .ok (.lreturn, 1) := by decide +kernel
theorem d_TankArenaModel_noAsking_0 : decode b_TankArenaModel_noAsking 0 = .ok (.iconst 0, 1) := by decide +kernel
theorem d_TankArenaModel_noAsking_1 : decode b_TankArenaModel_noAsking 1 = .ok (.istore_n 2, 1) := by decide +kernel
theorem d_TankArenaModel_noAsking_2 : decode b_TankArenaModel_noAsking 2 = .ok (.iload_n 2, 1) := by decide +kernel
theorem d_TankArenaModel_noAsking_3 : decode b_TankArenaModel_noAsking 3 = .ok (.iconst 3, 1) := by decide +kernel
theorem d_TankArenaModel_noAsking_4 : decode b_TankArenaModel_noAsking 4 = .ok (.if_icmp .ge 20, 3) := by decide +kernel
theorem d_TankArenaModel_noAsking_7 : decode b_TankArenaModel_noAsking 7 = .ok (.aload_n 0, 1) := by decide +kernel
theorem d_TankArenaModel_noAsking_8 : decode b_TankArenaModel_noAsking 8 = .ok (.getfield 86, 3) := by decide +kernel
theorem d_TankArenaModel_noAsking_11 : decode b_TankArenaModel_noAsking 11 = .ok (.iconst 4, 1) := by decide +kernel
theorem d_TankArenaModel_noAsking_12 : decode b_TankArenaModel_noAsking 12 = .ok (.iload_n 2, 1) := by decide +kernel
theorem d_TankArenaModel_noAsking_13 : decode b_TankArenaModel_noAsking 13 = .ok (.imul, 1) := by decide +kernel
theorem d_TankArenaModel_noAsking_14 : decode b_TankArenaModel_noAsking 14 = .ok (.iload_n 1, 1) := by decide +kernel
theorem d_TankArenaModel_noAsking_15 : decode b_TankArenaModel_noAsking 15 = .ok (.iadd, 1) := by decide +kernel
theorem d_TankArenaModel_noAsking_16 : decode b_TankArenaModel_noAsking 16 = .ok (.iconst 0, 1) := by decide +kernel
theorem d_TankArenaModel_noAsking_17 : decode b_TankArenaModel_noAsking 17 = .ok (.iastore, 1) := by decide +kernel
theorem d_TankArenaModel_noAsking_18 : decode b_TankArenaModel_noAsking 18 = .ok (.iinc 2 1, 3) := by decide +kernel
theorem d_TankArenaModel_noAsking_21 : decode b_TankArenaModel_noAsking 21 = .ok (.goto (-19), 3) := by decide +kernel
theorem d_TankArenaModel_noAsking_24 : decode b_TankArenaModel_noAsking 24 = .ok (.aload_n 0, 1) := by decide +kernel
theorem d_TankArenaModel_noAsking_25 : decode b_TankArenaModel_noAsking 25 = .ok (.getfield 89, 3) := by decide +kernel
theorem d_TankArenaModel_noAsking_28 : decode b_TankArenaModel_noAsking 28 = .ok (.iload_n 1, 1) := by decide +kernel
theorem d_TankArenaModel_noAsking_29 : decode b_TankArenaModel_noAsking 29 = .ok (.iconst 0, 1) := by decide +kernel
theorem d_TankArenaModel_noAsking_30 : decode b_TankArenaModel_noAsking 30 = .ok (.iastore, 1) := by decide +kernel
theorem d_TankArenaModel_noAsking_31 : decode b_TankArenaModel_noAsking 31 = .ok (.return_, 1) := by decide +kernel
theorem d_TankArenaModel_perform_0 : decode b_TankArenaModel_perform 0 = .ok (.iload_n 2, 1) := by decide +kernel
theorem d_TankArenaModel_perform_1 : decode b_TankArenaModel_perform 1 = .ok (.iconst 1, 1) := by decide +kernel
theorem d_TankArenaModel_perform_2 : decode b_TankArenaModel_perform 2 = .ok (.if_icmp .ne 12, 3) := by decide +kernel
theorem d_TankArenaModel_perform_5 : decode b_TankArenaModel_perform 5 = .ok (.aload_n 0, 1) := by decide +kernel
theorem d_TankArenaModel_perform_6 : decode b_TankArenaModel_perform 6 = .ok (.getfield 49, 3) := by decide +kernel
theorem d_TankArenaModel_perform_9 : decode b_TankArenaModel_perform 9 = .ok (.iload_n 1, 1) := by decide +kernel
theorem d_TankArenaModel_perform_10 : decode b_TankArenaModel_perform 10 = .ok (.iconst 4, 1) := by decide +kernel
theorem d_TankArenaModel_perform_11 : decode b_TankArenaModel_perform 11 = .ok (.iload_n 3, 1) := by decide +kernel
theorem d_TankArenaModel_perform_12 : decode b_TankArenaModel_perform 12 = .ok (.imul, 1) := by decide +kernel
theorem d_TankArenaModel_perform_13 : decode b_TankArenaModel_perform 13 = .ok (.iastore, 1) := by decide +kernel
theorem d_TankArenaModel_perform_14 : decode b_TankArenaModel_perform 14 = .ok (.iload_n 2, 1) := by decide +kernel
theorem d_TankArenaModel_perform_15 : decode b_TankArenaModel_perform 15 = .ok (.iconst 1, 1) := by decide +kernel
theorem d_TankArenaModel_perform_16 : decode b_TankArenaModel_perform 16 = .ok (.if_icmp .le 21, 3) := by decide +kernel
theorem d_TankArenaModel_perform_19 : decode b_TankArenaModel_perform 19 = .ok (.iload_n 2, 1) := by decide +kernel
theorem d_TankArenaModel_perform_20 : decode b_TankArenaModel_perform 20 = .ok (.iconst 5, 1) := by decide +kernel
theorem d_TankArenaModel_perform_21 : decode b_TankArenaModel_perform 21 = .ok (.if_icmp .ge 16, 3) := by decide +kernel
theorem d_TankArenaModel_perform_24 : decode b_TankArenaModel_perform 24 = .ok (.aload_n 0, 1) := by decide +kernel
theorem d_TankArenaModel_perform_25 : decode b_TankArenaModel_perform 25 = .ok (.getfield 86, 3) := by decide +kernel
theorem d_TankArenaModel_perform_28 : decode b_TankArenaModel_perform 28 = .ok (.iconst 4, 1) := by decide +kernel
theorem d_TankArenaModel_perform_29 : decode b_TankArenaModel_perform 29 = .ok (.iload_n 2, 1) := by decide +kernel
theorem d_TankArenaModel_perform_30 : decode b_TankArenaModel_perform 30 = .ok (.iconst 2, 1) := by decide +kernel
theorem d_TankArenaModel_perform_31 : decode b_TankArenaModel_perform 31 = .ok (.isub, 1) := by decide +kernel
theorem d_TankArenaModel_perform_32 : decode b_TankArenaModel_perform 32 = .ok (.imul, 1) := by decide +kernel
theorem d_TankArenaModel_perform_33 : decode b_TankArenaModel_perform 33 = .ok (.iload_n 1, 1) := by decide +kernel
theorem d_TankArenaModel_perform_34 : decode b_TankArenaModel_perform 34 = .ok (.iadd, 1) := by decide +kernel
theorem d_TankArenaModel_perform_35 : decode b_TankArenaModel_perform 35 = .ok (.iload_n 3, 1) := by decide +kernel
theorem d_TankArenaModel_perform_36 : decode b_TankArenaModel_perform 36 = .ok (.iastore, 1) := by decide +kernel
theorem d_TankArenaModel_perform_37 : decode b_TankArenaModel_perform 37 = .ok (.iload_n 2, 1) := by decide +kernel
theorem d_TankArenaModel_perform_38 : decode b_TankArenaModel_perform 38 = .ok (.iconst 5, 1) := by decide +kernel
theorem d_TankArenaModel_perform_39 : decode b_TankArenaModel_perform 39 = .ok (.if_icmp .ne 10, 3) := by decide +kernel
theorem d_TankArenaModel_perform_42 : decode b_TankArenaModel_perform 42 = .ok (.aload_n 0, 1) := by decide +kernel
theorem d_TankArenaModel_perform_43 : decode b_TankArenaModel_perform 43 = .ok (.getfield 89, 3) := by decide +kernel
theorem d_TankArenaModel_perform_46 : decode b_TankArenaModel_perform 46 = .ok (.iload_n 1, 1) := by decide +kernel
theorem d_TankArenaModel_perform_47 : decode b_TankArenaModel_perform 47 = .ok (.iload_n 3, 1) := by decide +kernel
theorem d_TankArenaModel_perform_48 : decode b_TankArenaModel_perform 48 = .ok (.iastore, 1) := by decide +kernel
theorem d_TankArenaModel_perform_49 : decode b_TankArenaModel_perform 49 = .ok (.iload_n 2, 1) := by decide +kernel
theorem d_TankArenaModel_perform_50 : decode b_TankArenaModel_perform 50 = .ok (.bipush 11, 2) := by decide +kernel
theorem d_TankArenaModel_perform_52 : decode b_TankArenaModel_perform 52 = .ok (.if_icmp .ne 15, 3) := by decide +kernel
theorem d_TankArenaModel_perform_55 : decode b_TankArenaModel_perform 55 = .ok (.aload_n 0, 1) := by decide +kernel
theorem d_TankArenaModel_perform_56 : decode b_TankArenaModel_perform 56 = .ok (.getfield 61, 3) := by decide +kernel
theorem d_TankArenaModel_perform_59 : decode b_TankArenaModel_perform 59 = .ok (.iconst 2, 1) := by decide +kernel
theorem d_TankArenaModel_perform_60 : decode b_TankArenaModel_perform 60 = .ok (.iload_n 1, 1) := by decide +kernel
theorem d_TankArenaModel_perform_61 : decode b_TankArenaModel_perform 61 = .ok (.imul, 1) := by decide +kernel
theorem d_TankArenaModel_perform_62 : decode b_TankArenaModel_perform 62 = .ok (.iload_n 3, 1) := by decide +kernel
theorem d_TankArenaModel_perform_63 : decode b_TankArenaModel_perform 63 = .ok (.iadd, 1) := by decide +kernel
theorem d_TankArenaModel_perform_64 : decode b_TankArenaModel_perform 64 = .ok (.iload 4, 2) := by decide +kernel
theorem d_TankArenaModel_perform_66 : decode b_TankArenaModel_perform 66 = .ok (.iastore, 1) := by decide +kernel
theorem d_TankArenaModel_perform_67 : decode b_TankArenaModel_perform 67 = .ok (.aload_n 0, 1) := by decide +kernel
theorem d_TankArenaModel_perform_68 : decode b_TankArenaModel_perform 68 = .ok (.getfield 58, 3) := by decide +kernel
theorem d_TankArenaModel_perform_71 : decode b_TankArenaModel_perform 71 = .ok (.iload_n 1, 1) := by decide +kernel
theorem d_TankArenaModel_perform_72 : decode b_TankArenaModel_perform 72 = .ok (.aload_n 0, 1) := by decide +kernel
theorem d_TankArenaModel_perform_73 : decode b_TankArenaModel_perform 73 = .ok (.iload_n 1, 1) := by decide +kernel
theorem d_TankArenaModel_perform_74 : decode b_TankArenaModel_perform 74 = .ok (.iload_n 2, 1) := by decide +kernel
theorem d_TankArenaModel_perform_75 : decode b_TankArenaModel_perform 75 = .ok (.iload 4, 2) := by decide +kernel
theorem d_TankArenaModel_perform_77 : decode b_TankArenaModel_perform 77 = .ok (.invokevirtual 140, 3) := by decide +kernel
theorem d_TankArenaModel_perform_80 : decode b_TankArenaModel_perform 80 = .ok (.ifCond .eq 7, 3) := by decide +kernel
theorem d_TankArenaModel_perform_83 : decode b_TankArenaModel_perform 83 = .ok (.iload_n 3, 1) := by decide +kernel
theorem d_TankArenaModel_perform_84 : decode b_TankArenaModel_perform 84 = .ok (.goto 11, 3) := by decide +kernel
theorem d_TankArenaModel_perform_87 : decode b_TankArenaModel_perform 87 = .ok (.aload_n 0, 1) := by decide +kernel
theorem d_TankArenaModel_perform_88 : decode b_TankArenaModel_perform 88 = .ok (.getfield 58, 3) := by decide +kernel
theorem d_TankArenaModel_perform_91 : decode b_TankArenaModel_perform 91 = .ok (.iload_n 1, 1) := by decide +kernel
theorem d_TankArenaModel_perform_92 : decode b_TankArenaModel_perform 92 = .ok (.iaload, 1) := by decide +kernel
theorem d_TankArenaModel_perform_93 : decode b_TankArenaModel_perform 93 = .ok (.iconst 1, 1) := by decide +kernel
theorem d_TankArenaModel_perform_94 : decode b_TankArenaModel_perform 94 = .ok (.iadd, 1) := by decide +kernel
theorem d_TankArenaModel_perform_95 : decode b_TankArenaModel_perform 95 = .ok (.iastore, 1) := by decide +kernel
theorem d_TankArenaModel_perform_96 : decode b_TankArenaModel_perform 96 = .ok (.return_, 1) := by decide +kernel
theorem d_TankArenaModel_program_0 : decode b_TankArenaModel_program 0 = .ok (.aload_n 0, 1) := by decide +kernel
theorem d_TankArenaModel_program_1 : decode b_TankArenaModel_program 1 = .ok (.getfield 49, 3) := by decide +kernel
theorem d_TankArenaModel_program_4 : decode b_TankArenaModel_program 4 = .ok (.iload_n 1, 1) := by decide +kernel
theorem d_TankArenaModel_program_5 : decode b_TankArenaModel_program 5 = .ok (.iaload, 1) := by decide +kernel
theorem d_TankArenaModel_program_6 : decode b_TankArenaModel_program 6 = .ok (.istore_n 2, 1) := by decide +kernel
theorem d_TankArenaModel_program_7 : decode b_TankArenaModel_program 7 = .ok (.iconst 0, 1) := by decide +kernel
theorem d_TankArenaModel_program_8 : decode b_TankArenaModel_program 8 = .ok (.istore_n 3, 1) := by decide +kernel
theorem d_TankArenaModel_program_9 : decode b_TankArenaModel_program 9 = .ok (.iload_n 3, 1) := by decide +kernel
theorem d_TankArenaModel_program_10 : decode b_TankArenaModel_program 10 = .ok (.bipush 10, 2) := by decide +kernel
theorem d_TankArenaModel_program_12 : decode b_TankArenaModel_program 12 = .ok (.if_icmp .ge 82, 3) := by decide +kernel
theorem d_TankArenaModel_program_15 : decode b_TankArenaModel_program 15 = .ok (.aload_n 0, 1) := by decide +kernel
theorem d_TankArenaModel_program_16 : decode b_TankArenaModel_program 16 = .ok (.getfield 58, 3) := by decide +kernel
theorem d_TankArenaModel_program_19 : decode b_TankArenaModel_program 19 = .ok (.iload_n 1, 1) := by decide +kernel
theorem d_TankArenaModel_program_20 : decode b_TankArenaModel_program 20 = .ok (.iaload, 1) := by decide +kernel
theorem d_TankArenaModel_program_21 : decode b_TankArenaModel_program 21 = .ok (.aload_n 0, 1) := by decide +kernel
theorem d_TankArenaModel_program_22 : decode b_TankArenaModel_program 22 = .ok (.getfield 19, 3) := by decide +kernel
theorem d_TankArenaModel_program_25 : decode b_TankArenaModel_program 25 = .ok (.iload_n 1, 1) := by decide +kernel
theorem d_TankArenaModel_program_26 : decode b_TankArenaModel_program 26 = .ok (.iaload, 1) := by decide +kernel
theorem d_TankArenaModel_program_27 : decode b_TankArenaModel_program 27 = .ok (.if_icmp .lt 11, 3) := by decide +kernel
theorem d_TankArenaModel_program_30 : decode b_TankArenaModel_program 30 = .ok (.aload_n 0, 1) := by decide +kernel
theorem d_TankArenaModel_program_31 : decode b_TankArenaModel_program 31 = .ok (.getfield 58, 3) := by decide +kernel
theorem d_TankArenaModel_program_34 : decode b_TankArenaModel_program 34 = .ok (.iload_n 1, 1) := by decide +kernel
theorem d_TankArenaModel_program_35 : decode b_TankArenaModel_program 35 = .ok (.iconst 0, 1) := by decide +kernel
theorem d_TankArenaModel_program_36 : decode b_TankArenaModel_program 36 = .ok (.iastore, 1) := by decide +kernel
theorem d_TankArenaModel_program_37 : decode b_TankArenaModel_program 37 = .ok (.return_, 1) := by decide +kernel
theorem d_TankArenaModel_program_38 : decode b_TankArenaModel_program 38 = .ok (.bipush 16, 2) := by decide +kernel
theorem d_TankArenaModel_program_40 : decode b_TankArenaModel_program 40 = .ok (.iload_n 1, 1) := by decide +kernel
theorem d_TankArenaModel_program_41 : decode b_TankArenaModel_program 41 = .ok (.imul, 1) := by decide +kernel
theorem d_TankArenaModel_program_42 : decode b_TankArenaModel_program 42 = .ok (.aload_n 0, 1) := by decide +kernel
theorem d_TankArenaModel_program_43 : decode b_TankArenaModel_program 43 = .ok (.getfield 58, 3) := by decide +kernel
theorem d_TankArenaModel_program_46 : decode b_TankArenaModel_program 46 = .ok (.iload_n 1, 1) := by decide +kernel
theorem d_TankArenaModel_program_47 : decode b_TankArenaModel_program 47 = .ok (.iaload, 1) := by decide +kernel
theorem d_TankArenaModel_program_48 : decode b_TankArenaModel_program 48 = .ok (.iadd, 1) := by decide +kernel
theorem d_TankArenaModel_program_49 : decode b_TankArenaModel_program 49 = .ok (.istore 4, 2) := by decide +kernel
theorem d_TankArenaModel_program_51 : decode b_TankArenaModel_program 51 = .ok (.aload_n 0, 1) := by decide +kernel
theorem d_TankArenaModel_program_52 : decode b_TankArenaModel_program 52 = .ok (.iload_n 1, 1) := by decide +kernel
theorem d_TankArenaModel_program_53 : decode b_TankArenaModel_program 53 = .ok (.aload_n 0, 1) := by decide +kernel
theorem d_TankArenaModel_program_54 : decode b_TankArenaModel_program 54 = .ok (.getfield 22, 3) := by decide +kernel
theorem d_TankArenaModel_program_57 : decode b_TankArenaModel_program 57 = .ok (.iload 4, 2) := by decide +kernel
theorem d_TankArenaModel_program_59 : decode b_TankArenaModel_program 59 = .ok (.iaload, 1) := by decide +kernel
theorem d_TankArenaModel_program_60 : decode b_TankArenaModel_program 60 = .ok (.aload_n 0, 1) := by decide +kernel
theorem d_TankArenaModel_program_61 : decode b_TankArenaModel_program 61 = .ok (.getfield 25, 3) := by decide +kernel
theorem d_TankArenaModel_program_64 : decode b_TankArenaModel_program 64 = .ok (.iload 4, 2) := by decide +kernel
theorem d_TankArenaModel_program_66 : decode b_TankArenaModel_program 66 = .ok (.iaload, 1) := by decide +kernel
theorem d_TankArenaModel_program_67 : decode b_TankArenaModel_program 67 = .ok (.aload_n 0, 1) := by decide +kernel
theorem d_TankArenaModel_program_68 : decode b_TankArenaModel_program 68 = .ok (.getfield 28, 3) := by decide +kernel
theorem d_TankArenaModel_program_71 : decode b_TankArenaModel_program 71 = .ok (.iload 4, 2) := by decide +kernel
theorem d_TankArenaModel_program_73 : decode b_TankArenaModel_program 73 = .ok (.iaload, 1) := by decide +kernel
theorem d_TankArenaModel_program_74 : decode b_TankArenaModel_program 74 = .ok (.invokevirtual 143, 3) := by decide +kernel
theorem d_TankArenaModel_program_77 : decode b_TankArenaModel_program 77 = .ok (.iinc 3 1, 3) := by decide +kernel
theorem d_TankArenaModel_program_80 : decode b_TankArenaModel_program 80 = .ok (.aload_n 0, 1) := by decide +kernel
theorem d_TankArenaModel_program_81 : decode b_TankArenaModel_program 81 = .ok (.getfield 22, 3) := by decide +kernel
theorem d_TankArenaModel_program_84 : decode b_TankArenaModel_program 84 = .ok (.iload 4, 2) := by decide +kernel
theorem d_TankArenaModel_program_86 : decode b_TankArenaModel_program 86 = .ok (.iaload, 1) := by decide +kernel
theorem d_TankArenaModel_program_87 : decode b_TankArenaModel_program 87 = .ok (.ifCond .ne 4, 3) := by decide +kernel
theorem d_TankArenaModel_program_90 : decode b_TankArenaModel_program 90 = .ok (.return_, 1) := by decide +kernel
theorem d_TankArenaModel_program_91 : decode b_TankArenaModel_program 91 = .ok (.goto (-82), 3) := by decide +kernel
theorem d_TankArenaModel_program_94 : decode b_TankArenaModel_program 94 = .ok (.aload_n 0, 1) := by decide +kernel
theorem d_TankArenaModel_program_95 : decode b_TankArenaModel_program 95 = .ok (.getfield 64, 3) := by decide +kernel
theorem d_TankArenaModel_program_98 : decode b_TankArenaModel_program 98 = .ok (.iload_n 1, 1) := by decide +kernel
theorem d_TankArenaModel_program_99 : decode b_TankArenaModel_program 99 = .ok (.dup2, 1) := by decide +kernel
theorem d_TankArenaModel_program_100 : decode b_TankArenaModel_program 100 = .ok (.iaload, 1) := by decide +kernel
theorem d_TankArenaModel_program_101 : decode b_TankArenaModel_program 101 = .ok (.iconst 1, 1) := by decide +kernel
theorem d_TankArenaModel_program_102 : decode b_TankArenaModel_program 102 = .ok (.iadd, 1) := by decide +kernel
theorem d_TankArenaModel_program_103 : decode b_TankArenaModel_program 103 = .ok (.iastore, 1) := by decide +kernel
theorem d_TankArenaModel_program_104 : decode b_TankArenaModel_program 104 = .ok (.aload_n 0, 1) := by decide +kernel
theorem d_TankArenaModel_program_105 : decode b_TankArenaModel_program 105 = .ok (.iload_n 1, 1) := by decide +kernel
theorem d_TankArenaModel_program_106 : decode b_TankArenaModel_program 106 = .ok (.invokevirtual 147, 3) := by decide +kernel
theorem d_TankArenaModel_program_109 : decode b_TankArenaModel_program 109 = .ok (.aload_n 0, 1) := by decide +kernel
theorem d_TankArenaModel_program_110 : decode b_TankArenaModel_program 110 = .ok (.getfield 49, 3) := by decide +kernel
theorem d_TankArenaModel_program_113 : decode b_TankArenaModel_program 113 = .ok (.iload_n 1, 1) := by decide +kernel
theorem d_TankArenaModel_program_114 : decode b_TankArenaModel_program 114 = .ok (.iload_n 2, 1) := by decide +kernel
theorem d_TankArenaModel_program_115 : decode b_TankArenaModel_program 115 = .ok (.iastore, 1) := by decide +kernel
theorem d_TankArenaModel_program_116 : decode b_TankArenaModel_program 116 = .ok (.return_, 1) := by decide +kernel
theorem d_TankArenaModel_reset_0 : decode b_TankArenaModel_reset 0 = .ok (.aload_n 0, 1) := by decide +kernel
theorem d_TankArenaModel_reset_1 : decode b_TankArenaModel_reset 1 = .ok (.getfield 31, 3) := by decide +kernel
theorem d_TankArenaModel_reset_4 : decode b_TankArenaModel_reset 4 = .ok (.iload_n 1, 1) := by decide +kernel
theorem d_TankArenaModel_reset_5 : decode b_TankArenaModel_reset 5 = .ok (.aload_n 0, 1) := by decide +kernel
theorem d_TankArenaModel_reset_6 : decode b_TankArenaModel_reset 6 = .ok (.getfield 7, 3) := by decide +kernel
theorem d_TankArenaModel_reset_9 : decode b_TankArenaModel_reset 9 = .ok (.iload_n 1, 1) := by decide +kernel
theorem d_TankArenaModel_reset_10 : decode b_TankArenaModel_reset 10 = .ok (.iaload, 1) := by decide +kernel
theorem d_TankArenaModel_reset_11 : decode b_TankArenaModel_reset 11 = .ok (.iastore, 1) := by decide +kernel
theorem d_TankArenaModel_reset_12 : decode b_TankArenaModel_reset 12 = .ok (.aload_n 0, 1) := by decide +kernel
theorem d_TankArenaModel_reset_13 : decode b_TankArenaModel_reset 13 = .ok (.getfield 34, 3) := by decide +kernel
theorem d_TankArenaModel_reset_16 : decode b_TankArenaModel_reset 16 = .ok (.iload_n 1, 1) := by decide +kernel
theorem d_TankArenaModel_reset_17 : decode b_TankArenaModel_reset 17 = .ok (.aload_n 0, 1) := by decide +kernel
theorem d_TankArenaModel_reset_18 : decode b_TankArenaModel_reset 18 = .ok (.getfield 13, 3) := by decide +kernel
theorem d_TankArenaModel_reset_21 : decode b_TankArenaModel_reset 21 = .ok (.iload_n 1, 1) := by decide +kernel
theorem d_TankArenaModel_reset_22 : decode b_TankArenaModel_reset 22 = .ok (.iaload, 1) := by decide +kernel
theorem d_TankArenaModel_reset_23 : decode b_TankArenaModel_reset 23 = .ok (.iastore, 1) := by decide +kernel
theorem d_TankArenaModel_reset_24 : decode b_TankArenaModel_reset 24 = .ok (.aload_n 0, 1) := by decide +kernel
theorem d_TankArenaModel_reset_25 : decode b_TankArenaModel_reset 25 = .ok (.getfield 37, 3) := by decide +kernel
theorem d_TankArenaModel_reset_28 : decode b_TankArenaModel_reset 28 = .ok (.iload_n 1, 1) := by decide +kernel
theorem d_TankArenaModel_reset_29 : decode b_TankArenaModel_reset 29 = .ok (.aload_n 0, 1) := by decide +kernel
theorem d_TankArenaModel_reset_30 : decode b_TankArenaModel_reset 30 = .ok (.getfield 16, 3) := by decide +kernel
theorem d_TankArenaModel_reset_33 : decode b_TankArenaModel_reset 33 = .ok (.iload_n 1, 1) := by decide +kernel
theorem d_TankArenaModel_reset_34 : decode b_TankArenaModel_reset 34 = .ok (.iaload, 1) := by decide +kernel
theorem d_TankArenaModel_reset_35 : decode b_TankArenaModel_reset 35 = .ok (.iastore, 1) := by decide +kernel
theorem d_TankArenaModel_reset_36 : decode b_TankArenaModel_reset 36 = .ok (.aload_n 0, 1) := by decide +kernel
theorem d_TankArenaModel_reset_37 : decode b_TankArenaModel_reset 37 = .ok (.getfield 40, 3) := by decide +kernel
theorem d_TankArenaModel_reset_40 : decode b_TankArenaModel_reset 40 = .ok (.iload_n 1, 1) := by decide +kernel
theorem d_TankArenaModel_reset_41 : decode b_TankArenaModel_reset 41 = .ok (.aload_n 0, 1) := by decide +kernel
theorem d_TankArenaModel_reset_42 : decode b_TankArenaModel_reset 42 = .ok (.getfield 16, 3) := by decide +kernel
theorem d_TankArenaModel_reset_45 : decode b_TankArenaModel_reset 45 = .ok (.iload_n 1, 1) := by decide +kernel
theorem d_TankArenaModel_reset_46 : decode b_TankArenaModel_reset 46 = .ok (.iaload, 1) := by decide +kernel
theorem d_TankArenaModel_reset_47 : decode b_TankArenaModel_reset 47 = .ok (.iastore, 1) := by decide +kernel
theorem d_TankArenaModel_reset_48 : decode b_TankArenaModel_reset 48 = .ok (.aload_n 0, 1) := by decide +kernel
theorem d_TankArenaModel_reset_49 : decode b_TankArenaModel_reset 49 = .ok (.getfield 43, 3) := by decide +kernel
theorem d_TankArenaModel_reset_52 : decode b_TankArenaModel_reset 52 = .ok (.iload_n 1, 1) := by decide +kernel
theorem d_TankArenaModel_reset_53 : decode b_TankArenaModel_reset 53 = .ok (.aload_n 0, 1) := by decide +kernel
theorem d_TankArenaModel_reset_54 : decode b_TankArenaModel_reset 54 = .ok (.getfield 16, 3) := by decide +kernel
theorem d_TankArenaModel_reset_57 : decode b_TankArenaModel_reset 57 = .ok (.iload_n 1, 1) := by decide +kernel
theorem d_TankArenaModel_reset_58 : decode b_TankArenaModel_reset 58 = .ok (.iaload, 1) := by decide +kernel
theorem d_TankArenaModel_reset_59 : decode b_TankArenaModel_reset 59 = .ok (.iastore, 1) := by decide +kernel
theorem d_TankArenaModel_reset_60 : decode b_TankArenaModel_reset 60 = .ok (.aload_n 0, 1) := by decide +kernel
theorem d_TankArenaModel_reset_61 : decode b_TankArenaModel_reset 61 = .ok (.getfield 46, 3) := by decide +kernel
theorem d_TankArenaModel_reset_64 : decode b_TankArenaModel_reset 64 = .ok (.iload_n 1, 1) := by decide +kernel
theorem d_TankArenaModel_reset_65 : decode b_TankArenaModel_reset 65 = .ok (.iconst 0, 1) := by decide +kernel
theorem d_TankArenaModel_reset_66 : decode b_TankArenaModel_reset 66 = .ok (.iastore, 1) := by decide +kernel
theorem d_TankArenaModel_reset_67 : decode b_TankArenaModel_reset 67 = .ok (.aload_n 0, 1) := by decide +kernel
theorem d_TankArenaModel_reset_68 : decode b_TankArenaModel_reset 68 = .ok (.getfield 49, 3) := by decide +kernel
theorem d_TankArenaModel_reset_71 : decode b_TankArenaModel_reset 71 = .ok (.iload_n 1, 1) := by decide +kernel
theorem d_TankArenaModel_reset_72 : decode b_TankArenaModel_reset 72 = .ok (.iconst 0, 1) := by decide +kernel
theorem d_TankArenaModel_reset_73 : decode b_TankArenaModel_reset 73 = .ok (.iastore, 1) := by decide +kernel
theorem d_TankArenaModel_reset_74 : decode b_TankArenaModel_reset 74 = .ok (.aload_n 0, 1) := by decide +kernel
theorem d_TankArenaModel_reset_75 : decode b_TankArenaModel_reset 75 = .ok (.getfield 52, 3) := by decide +kernel
theorem d_TankArenaModel_reset_78 : decode b_TankArenaModel_reset 78 = .ok (.iload_n 1, 1) := by decide +kernel
theorem d_TankArenaModel_reset_79 : decode b_TankArenaModel_reset 79 = .ok (.sipush 800, 3) := by decide +kernel
theorem d_TankArenaModel_reset_82 : decode b_TankArenaModel_reset 82 = .ok (.iastore, 1) := by decide +kernel
theorem d_TankArenaModel_reset_83 : decode b_TankArenaModel_reset 83 = .ok (.aload_n 0, 1) := by decide +kernel
theorem d_TankArenaModel_reset_84 : decode b_TankArenaModel_reset 84 = .ok (.getfield 55, 3) := by decide +kernel
theorem d_TankArenaModel_reset_87 : decode b_TankArenaModel_reset 87 = .ok (.iload_n 1, 1) := by decide +kernel
theorem d_TankArenaModel_reset_88 : decode b_TankArenaModel_reset 88 = .ok (.bipush 24, 2) := by decide +kernel
theorem d_TankArenaModel_reset_90 : decode b_TankArenaModel_reset 90 = .ok (.iastore, 1) := by decide +kernel
theorem d_TankArenaModel_reset_91 : decode b_TankArenaModel_reset 91 = .ok (.aload_n 0, 1) := by decide +kernel
theorem d_TankArenaModel_reset_92 : decode b_TankArenaModel_reset 92 = .ok (.getfield 58, 3) := by decide +kernel
theorem d_TankArenaModel_reset_95 : decode b_TankArenaModel_reset 95 = .ok (.iload_n 1, 1) := by decide +kernel
theorem d_TankArenaModel_reset_96 : decode b_TankArenaModel_reset 96 = .ok (.iconst 0, 1) := by decide +kernel
theorem d_TankArenaModel_reset_97 : decode b_TankArenaModel_reset 97 = .ok (.iastore, 1) := by decide +kernel
theorem d_TankArenaModel_reset_98 : decode b_TankArenaModel_reset 98 = .ok (.aload_n 0, 1) := by decide +kernel
theorem d_TankArenaModel_reset_99 : decode b_TankArenaModel_reset 99 = .ok (.getfield 61, 3) := by decide +kernel
theorem d_TankArenaModel_reset_102 : decode b_TankArenaModel_reset 102 = .ok (.iconst 2, 1) := by decide +kernel
theorem d_TankArenaModel_reset_103 : decode b_TankArenaModel_reset 103 = .ok (.iload_n 1, 1) := by decide +kernel
theorem d_TankArenaModel_reset_104 : decode b_TankArenaModel_reset 104 = .ok (.imul, 1) := by decide +kernel
theorem d_TankArenaModel_reset_105 : decode b_TankArenaModel_reset 105 = .ok (.iconst 0, 1) := by decide +kernel
theorem d_TankArenaModel_reset_106 : decode b_TankArenaModel_reset 106 = .ok (.iastore, 1) := by decide +kernel
theorem d_TankArenaModel_reset_107 : decode b_TankArenaModel_reset 107 = .ok (.aload_n 0, 1) := by decide +kernel
theorem d_TankArenaModel_reset_108 : decode b_TankArenaModel_reset 108 = .ok (.getfield 61, 3) := by decide +kernel
theorem d_TankArenaModel_reset_111 : decode b_TankArenaModel_reset 111 = .ok (.iconst 2, 1) := by decide +kernel
theorem d_TankArenaModel_reset_112 : decode b_TankArenaModel_reset 112 = .ok (.iload_n 1, 1) := by decide +kernel
theorem d_TankArenaModel_reset_113 : decode b_TankArenaModel_reset 113 = .ok (.imul, 1) := by decide +kernel
theorem d_TankArenaModel_reset_114 : decode b_TankArenaModel_reset 114 = .ok (.iconst 1, 1) := by decide +kernel
theorem d_TankArenaModel_reset_115 : decode b_TankArenaModel_reset 115 = .ok (.iadd, 1) := by decide +kernel
theorem d_TankArenaModel_reset_116 : decode b_TankArenaModel_reset 116 = .ok (.iconst 0, 1) := by decide +kernel
theorem d_TankArenaModel_reset_117 : decode b_TankArenaModel_reset 117 = .ok (.iastore, 1) := by decide +kernel
theorem d_TankArenaModel_reset_118 : decode b_TankArenaModel_reset 118 = .ok (.aload_n 0, 1) := by decide +kernel
theorem d_TankArenaModel_reset_119 : decode b_TankArenaModel_reset 119 = .ok (.getfield 64, 3) := by decide +kernel
theorem d_TankArenaModel_reset_122 : decode b_TankArenaModel_reset 122 = .ok (.iload_n 1, 1) := by decide +kernel
theorem d_TankArenaModel_reset_123 : decode b_TankArenaModel_reset 123 = .ok (.iconst 0, 1) := by decide +kernel
theorem d_TankArenaModel_reset_124 : decode b_TankArenaModel_reset 124 = .ok (.iastore, 1) := by decide +kernel
theorem d_TankArenaModel_reset_125 : decode b_TankArenaModel_reset 125 = .ok (.aload_n 0, 1) := by decide +kernel
theorem d_TankArenaModel_reset_126 : decode b_TankArenaModel_reset 126 = .ok (.getfield 67, 3) := by decide +kernel
theorem d_TankArenaModel_reset_129 : decode b_TankArenaModel_reset 129 = .ok (.iload_n 1, 1) := by decide +kernel
theorem d_TankArenaModel_reset_130 : decode b_TankArenaModel_reset 130 = .ok (.iconst 0, 1) := by decide +kernel
theorem d_TankArenaModel_reset_131 : decode b_TankArenaModel_reset 131 = .ok (.iastore, 1) := by decide +kernel
theorem d_TankArenaModel_reset_132 : decode b_TankArenaModel_reset 132 = .ok (.aload_n 0, 1) := by decide +kernel
theorem d_TankArenaModel_reset_133 : decode b_TankArenaModel_reset 133 = .ok (.getfield 70, 3) := by decide +kernel
theorem d_TankArenaModel_reset_136 : decode b_TankArenaModel_reset 136 = .ok (.iload_n 1, 1) := by decide +kernel
theorem d_TankArenaModel_reset_137 : decode b_TankArenaModel_reset 137 = .ok (.iconst 1, 1) := by decide +kernel
theorem d_TankArenaModel_reset_138 : decode b_TankArenaModel_reset 138 = .ok (.bastore, 1) := by decide +kernel
theorem d_TankArenaModel_reset_139 : decode b_TankArenaModel_reset 139 = .ok (.aload_n 0, 1) := by decide +kernel
theorem d_TankArenaModel_reset_140 : decode b_TankArenaModel_reset 140 = .ok (.iload_n 1, 1) := by decide +kernel
theorem d_TankArenaModel_reset_141 : decode b_TankArenaModel_reset 141 = .ok (.invokevirtual 114, 3) := by decide +kernel
theorem d_TankArenaModel_reset_144 : decode b_TankArenaModel_reset 144 = .ok (.return_, 1) := by decide +kernel
theorem d_TankArenaModel_restart_0 : decode b_TankArenaModel_restart 0 = .ok (.aload_n 0, 1) := by decide +kernel
theorem d_TankArenaModel_restart_1 : decode b_TankArenaModel_restart 1 = .ok (.getfield 118, 3) := by decide +kernel
theorem d_TankArenaModel_restart_4 : decode b_TankArenaModel_restart 4 = .ok (.istore_n 1, 1) := by decide +kernel
theorem d_TankArenaModel_restart_5 : decode b_TankArenaModel_restart 5 = .ok (.aload_n 0, 1) := by decide +kernel
theorem d_TankArenaModel_restart_6 : decode b_TankArenaModel_restart 6 = .ok (.iconst 0, 1) := by decide +kernel
theorem d_TankArenaModel_restart_7 : decode b_TankArenaModel_restart 7 = .ok (.putfield 118, 3) := by decide +kernel
theorem d_TankArenaModel_restart_10 : decode b_TankArenaModel_restart 10 = .ok (.aload_n 0, 1) := by decide +kernel
theorem d_TankArenaModel_restart_11 : decode b_TankArenaModel_restart 11 = .ok (.iconst 0, 1) := by decide +kernel
theorem d_TankArenaModel_restart_12 : decode b_TankArenaModel_restart 12 = .ok (.putfield 153, 3) := by decide +kernel
theorem d_TankArenaModel_restart_15 : decode b_TankArenaModel_restart 15 = .ok (.aload_n 0, 1) := by decide +kernel
theorem d_TankArenaModel_restart_16 : decode b_TankArenaModel_restart 16 = .ok (.iconst 0, 1) := by decide +kernel
theorem d_TankArenaModel_restart_17 : decode b_TankArenaModel_restart 17 = .ok (.putfield 156, 3) := by decide +kernel
theorem d_TankArenaModel_restart_20 : decode b_TankArenaModel_restart 20 = .ok (.aload_n 0, 1) := by decide +kernel
theorem d_TankArenaModel_restart_21 : decode b_TankArenaModel_restart 21 = .ok (.iconst 0, 1) := by decide +kernel
theorem d_TankArenaModel_restart_22 : decode b_TankArenaModel_restart 22 = .ok (.putfield 150, 3) := by decide +kernel
theorem d_TankArenaModel_restart_25 : decode b_TankArenaModel_restart 25 = .ok (.iconst 0, 1) := by decide +kernel
theorem d_TankArenaModel_restart_26 : decode b_TankArenaModel_restart 26 = .ok (.istore_n 2, 1) := by decide +kernel
theorem d_TankArenaModel_restart_27 : decode b_TankArenaModel_restart 27 = .ok (.iload_n 2, 1) := by decide +kernel
theorem d_TankArenaModel_restart_28 : decode b_TankArenaModel_restart 28 = .ok (.aload_n 0, 1) := by decide +kernel
theorem d_TankArenaModel_restart_29 : decode b_TankArenaModel_restart 29 = .ok (.getfield 122, 3) := by decide +kernel
theorem d_TankArenaModel_restart_32 : decode b_TankArenaModel_restart 32 = .ok (.if_icmp .ge 14, 3) := by decide +kernel
theorem d_TankArenaModel_restart_35 : decode b_TankArenaModel_restart 35 = .ok (.aload_n 0, 1) := by decide +kernel
theorem d_TankArenaModel_restart_36 : decode b_TankArenaModel_restart 36 = .ok (.iload_n 2, 1) := by decide +kernel
theorem d_TankArenaModel_restart_37 : decode b_TankArenaModel_restart 37 = .ok (.invokevirtual 126, 3) := by decide +kernel
theorem d_TankArenaModel_restart_40 : decode b_TankArenaModel_restart 40 = .ok (.iinc 2 1, 3) := by decide +kernel
theorem d_TankArenaModel_restart_43 : decode b_TankArenaModel_restart 43 = .ok (.goto (-16), 3) := by decide +kernel
theorem d_TankArenaModel_restart_46 : decode b_TankArenaModel_restart 46 = .ok (.iload_n 1, 1) := by decide +kernel
theorem d_TankArenaModel_restart_47 : decode b_TankArenaModel_restart 47 = .ok (.ireturn, 1) := by decide +kernel
theorem d_TankArenaModel_sector_0 : decode b_TankArenaModel_sector 0 = .ok (.iconst 2, 1) := by decide +kernel
theorem d_TankArenaModel_sector_1 : decode b_TankArenaModel_sector 1 = .ok (.iload_n 1, 1) := by decide +kernel
theorem d_TankArenaModel_sector_2 : decode b_TankArenaModel_sector 2 = .ok (.invokestatic 110, 3) := by decide +kernel
theorem d_TankArenaModel_sector_5 : decode b_TankArenaModel_sector 5 = .ok (.imul, 1) := by decide +kernel
theorem d_TankArenaModel_sector_6 : decode b_TankArenaModel_sector 6 = .ok (.iload_n 0, 1) := by decide +kernel
theorem d_TankArenaModel_sector_7 : decode b_TankArenaModel_sector 7 = .ok (.invokestatic 110, 3) := by decide +kernel
theorem d_TankArenaModel_sector_10 : decode b_TankArenaModel_sector 10 = .ok (.if_icmp .gt 13, 3) := by decide +kernel
theorem d_TankArenaModel_sector_13 : decode b_TankArenaModel_sector 13 = .ok (.iload_n 0, 1) := by decide +kernel
theorem d_TankArenaModel_sector_14 : decode b_TankArenaModel_sector 14 = .ok (.ifCond .ge 7, 3) := by decide +kernel
theorem d_TankArenaModel_sector_17 : decode b_TankArenaModel_sector 17 = .ok (.iconst 4, 1) := by decide +kernel
theorem d_TankArenaModel_sector_18 : decode b_TankArenaModel_sector 18 = .ok (.goto 4, 3) := by decide +kernel
theorem d_TankArenaModel_sector_21 : decode b_TankArenaModel_sector 21 = .ok (.iconst 0, 1) := by decide +kernel
theorem d_TankArenaModel_sector_22 : decode b_TankArenaModel_sector 22 = .ok (.ireturn, 1) := by decide +kernel
theorem d_TankArenaModel_sector_23 : decode b_TankArenaModel_sector 23 = .ok (.iconst 2, 1) := by decide +kernel
theorem d_TankArenaModel_sector_24 : decode b_TankArenaModel_sector 24 = .ok (.iload_n 0, 1) := by decide +kernel
theorem d_TankArenaModel_sector_25 : decode b_TankArenaModel_sector 25 = .ok (.invokestatic 110, 3) := by decide +kernel
theorem d_TankArenaModel_sector_28 : decode b_TankArenaModel_sector 28 = .ok (.imul, 1) := by decide +kernel
theorem d_TankArenaModel_sector_29 : decode b_TankArenaModel_sector 29 = .ok (.iload_n 1, 1) := by decide +kernel
theorem d_TankArenaModel_sector_30 : decode b_TankArenaModel_sector 30 = .ok (.invokestatic 110, 3) := by decide +kernel
theorem d_TankArenaModel_sector_33 : decode b_TankArenaModel_sector 33 = .ok (.if_icmp .gt 14, 3) := by decide +kernel
theorem d_TankArenaModel_sector_36 : decode b_TankArenaModel_sector 36 = .ok (.iload_n 1, 1) := by decide +kernel
theorem d_TankArenaModel_sector_37 : decode b_TankArenaModel_sector 37 = .ok (.ifCond .ge 8, 3) := by decide +kernel
theorem d_TankArenaModel_sector_40 : decode b_TankArenaModel_sector 40 = .ok (.bipush 6, 2) := by decide +kernel
theorem d_TankArenaModel_sector_42 : decode b_TankArenaModel_sector 42 = .ok (.goto 4, 3) := by decide +kernel
theorem d_TankArenaModel_sector_45 : decode b_TankArenaModel_sector 45 = .ok (.iconst 2, 1) := by decide +kernel
theorem d_TankArenaModel_sector_46 : decode b_TankArenaModel_sector 46 = .ok (.ireturn, 1) := by decide +kernel
theorem d_TankArenaModel_sector_47 : decode b_TankArenaModel_sector 47 = .ok (.iload_n 1, 1) := by decide +kernel
theorem d_TankArenaModel_sector_48 : decode b_TankArenaModel_sector 48 = .ok (.ifCond .le 13, 3) := by decide +kernel
theorem d_TankArenaModel_sector_51 : decode b_TankArenaModel_sector 51 = .ok (.iload_n 0, 1) := by decide +kernel
theorem d_TankArenaModel_sector_52 : decode b_TankArenaModel_sector 52 = .ok (.ifCond .le 7, 3) := by decide +kernel
theorem d_TankArenaModel_sector_55 : decode b_TankArenaModel_sector 55 = .ok (.iconst 1, 1) := by decide +kernel
theorem d_TankArenaModel_sector_56 : decode b_TankArenaModel_sector 56 = .ok (.goto 4, 3) := by decide +kernel
theorem d_TankArenaModel_sector_59 : decode b_TankArenaModel_sector 59 = .ok (.iconst 3, 1) := by decide +kernel
theorem d_TankArenaModel_sector_60 : decode b_TankArenaModel_sector 60 = .ok (.ireturn, 1) := by decide +kernel
theorem d_TankArenaModel_sector_61 : decode b_TankArenaModel_sector 61 = .ok (.iload_n 0, 1) := by decide +kernel
theorem d_TankArenaModel_sector_62 : decode b_TankArenaModel_sector 62 = .ok (.ifCond .le 8, 3) := by decide +kernel
theorem d_TankArenaModel_sector_65 : decode b_TankArenaModel_sector 65 = .ok (.bipush 7, 2) := by decide +kernel
theorem d_TankArenaModel_sector_67 : decode b_TankArenaModel_sector 67 = .ok (.goto 4, 3) := by decide +kernel
theorem d_TankArenaModel_sector_70 : decode b_TankArenaModel_sector 70 = .ok (.iconst 5, 1) := by decide +kernel
theorem d_TankArenaModel_sector_71 : decode b_TankArenaModel_sector 71 = .ok (.ireturn, 1) := by decide +kernel
theorem d_TankArenaModel_state_0 : decode b_TankArenaModel_state 0 = .ok (.iload_n 1, 1) := by decide +kernel
theorem d_TankArenaModel_state_1 : decode b_TankArenaModel_state 1 = .ok (.ifCond .lt 11, 3) := by decide +kernel
theorem d_TankArenaModel_state_4 : decode b_TankArenaModel_state 4 = .ok (.iload_n 1, 1) := by decide +kernel
theorem d_TankArenaModel_state_5 : decode b_TankArenaModel_state 5 = .ok (.aload_n 0, 1) := by decide +kernel
theorem d_TankArenaModel_state_6 : decode b_TankArenaModel_state 6 = .ok (.getfield 122, 3) := by decide +kernel
theorem d_TankArenaModel_state_9 : decode b_TankArenaModel_state 9 = .ok (.if_icmp .lt 6, 3) := by decide +kernel
theorem d_TankArenaModel_state_12 : decode b_TankArenaModel_state 12 = .ok (.ldc 125, 2) := by decide +kernel
theorem d_TankArenaModel_state_14 : decode b_TankArenaModel_state 14 = .ok (.ireturn, 1) := by decide +kernel
theorem d_TankArenaModel_state_15 : decode b_TankArenaModel_state 15 = .ok (.iload_n 2, 1) := by decide +kernel
theorem d_TankArenaModel_state_16 : decode b_TankArenaModel_state 16 = .ok (.tableswitch 161 0 10 #[60, 67, 74, 81, 96, 103, 110, 110, 124, 131, 146], 60) := by decide +kernel
theorem d_TankArenaModel_state_76 : decode b_TankArenaModel_state 76 = .ok (.aload_n 0, 1) := by decide +kernel
theorem d_TankArenaModel_state_77 : decode b_TankArenaModel_state 77 = .ok (.getfield 37, 3) := by decide +kernel
theorem d_TankArenaModel_state_80 : decode b_TankArenaModel_state 80 = .ok (.iload_n 1, 1) := by decide +kernel
theorem d_TankArenaModel_state_81 : decode b_TankArenaModel_state 81 = .ok (.iaload, 1) := by decide +kernel
theorem d_TankArenaModel_state_82 : decode b_TankArenaModel_state 82 = .ok (.ireturn, 1) := by decide +kernel
theorem d_TankArenaModel_state_83 : decode b_TankArenaModel_state 83 = .ok (.aload_n 0, 1) := by decide +kernel
theorem d_TankArenaModel_state_84 : decode b_TankArenaModel_state 84 = .ok (.getfield 40, 3) := by decide +kernel
theorem d_TankArenaModel_state_87 : decode b_TankArenaModel_state 87 = .ok (.iload_n 1, 1) := by decide +kernel
theorem d_TankArenaModel_state_88 : decode b_TankArenaModel_state 88 = .ok (.iaload, 1) := by decide +kernel
theorem d_TankArenaModel_state_89 : decode b_TankArenaModel_state 89 = .ok (.ireturn, 1) := by decide +kernel
theorem d_TankArenaModel_state_90 : decode b_TankArenaModel_state 90 = .ok (.aload_n 0, 1) := by decide +kernel
theorem d_TankArenaModel_state_91 : decode b_TankArenaModel_state 91 = .ok (.getfield 43, 3) := by decide +kernel
theorem d_TankArenaModel_state_94 : decode b_TankArenaModel_state 94 = .ok (.iload_n 1, 1) := by decide +kernel
theorem d_TankArenaModel_state_95 : decode b_TankArenaModel_state 95 = .ok (.iaload, 1) := by decide +kernel
theorem d_TankArenaModel_state_96 : decode b_TankArenaModel_state 96 = .ok (.ireturn, 1) := by decide +kernel
theorem d_TankArenaModel_state_97 : decode b_TankArenaModel_state 97 = .ok (.aload_n 0, 1) := by decide +kernel
theorem d_TankArenaModel_state_98 : decode b_TankArenaModel_state 98 = .ok (.getfield 70, 3) := by decide +kernel
theorem d_TankArenaModel_state_101 : decode b_TankArenaModel_state 101 = .ok (.iload_n 1, 1) := by decide +kernel
theorem d_TankArenaModel_state_102 : decode b_TankArenaModel_state 102 = .ok (.baload, 1) := by decide +kernel
theorem d_TankArenaModel_state_103 : decode b_TankArenaModel_state 103 = .ok (.ifCond .eq 7, 3) := by decide +kernel
theorem d_TankArenaModel_state_106 : decode b_TankArenaModel_state 106 = .ok (.iconst 1, 1) := by decide +kernel
theorem d_TankArenaModel_state_107 : decode b_TankArenaModel_state 107 = .ok (.goto 4, 3) := by decide +kernel
theorem d_TankArenaModel_state_110 : decode b_TankArenaModel_state 110 = .ok (.iconst 0, 1) := by decide +kernel
theorem d_TankArenaModel_state_111 : decode b_TankArenaModel_state 111 = .ok (.ireturn, 1) := by decide +kernel
theorem d_TankArenaModel_state_112 : decode b_TankArenaModel_state 112 = .ok (.aload_n 0, 1) := by decide +kernel
theorem d_TankArenaModel_state_113 : decode b_TankArenaModel_state 113 = .ok (.getfield 64, 3) := by decide +kernel
theorem d_TankArenaModel_state_116 : decode b_TankArenaModel_state 116 = .ok (.iload_n 1, 1) := by decide +kernel
theorem d_TankArenaModel_state_117 : decode b_TankArenaModel_state 117 = .ok (.iaload, 1) := by decide +kernel
theorem d_TankArenaModel_state_118 : decode b_TankArenaModel_state 118 = .ok (.ireturn, 1) := by decide +kernel
theorem d_TankArenaModel_state_119 : decode b_TankArenaModel_state 119 = .ok (.aload_n 0, 1) := by decide +kernel
theorem d_TankArenaModel_state_120 : decode b_TankArenaModel_state 120 = .ok (.getfield 58, 3) := by decide +kernel
theorem d_TankArenaModel_state_123 : decode b_TankArenaModel_state 123 = .ok (.iload_n 1, 1) := by decide +kernel
theorem d_TankArenaModel_state_124 : decode b_TankArenaModel_state 124 = .ok (.iaload, 1) := by decide +kernel
theorem d_TankArenaModel_state_125 : decode b_TankArenaModel_state 125 = .ok (.ireturn, 1) := by decide +kernel
theorem d_TankArenaModel_state_126 : decode b_TankArenaModel_state 126 = .ok (.aload_n 0, 1) := by decide +kernel
theorem d_TankArenaModel_state_127 : decode b_TankArenaModel_state 127 = .ok (.getfield 61, 3) := by decide +kernel
theorem d_TankArenaModel_state_130 : decode b_TankArenaModel_state 130 = .ok (.iconst 2, 1) := by decide +kernel
theorem d_TankArenaModel_state_131 : decode b_TankArenaModel_state 131 = .ok (.iload_n 1, 1) := by decide +kernel
theorem d_TankArenaModel_state_132 : decode b_TankArenaModel_state 132 = .ok (.imul, 1) := by decide +kernel
theorem d_TankArenaModel_state_133 : decode b_TankArenaModel_state 133 = .ok (.iload_n 2, 1) := by decide +kernel
theorem d_TankArenaModel_state_134 : decode b_TankArenaModel_state 134 = .ok (.iadd, 1) := by decide +kernel
theorem d_TankArenaModel_state_135 : decode b_TankArenaModel_state 135 = .ok (.bipush 6, 2) := by decide +kernel
theorem d_TankArenaModel_state_137 : decode b_TankArenaModel_state 137 = .ok (.isub, 1) := by decide +kernel
theorem d_TankArenaModel_state_138 : decode b_TankArenaModel_state 138 = .ok (.iaload, 1) := by decide +kernel
theorem d_TankArenaModel_state_139 : decode b_TankArenaModel_state 139 = .ok (.ireturn, 1) := by decide +kernel
theorem d_TankArenaModel_state_140 : decode b_TankArenaModel_state 140 = .ok (.aload_n 0, 1) := by decide +kernel
theorem d_TankArenaModel_state_141 : decode b_TankArenaModel_state 141 = .ok (.getfield 80, 3) := by decide +kernel
theorem d_TankArenaModel_state_144 : decode b_TankArenaModel_state 144 = .ok (.iload_n 1, 1) := by decide +kernel
