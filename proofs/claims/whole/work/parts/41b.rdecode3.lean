/-! DECODE ROWS -/
theorem d_TankArenaModel_state_145 : decode b_TankArenaModel_state 145 = .ok (.iaload, 1) := by decide +kernel
theorem d_TankArenaModel_state_146 : decode b_TankArenaModel_state 146 = .ok (.ireturn, 1) := by decide +kernel
theorem d_TankArenaModel_state_147 : decode b_TankArenaModel_state 147 = .ok (.aload_n 0, 1) := by decide +kernel
theorem d_TankArenaModel_state_148 : decode b_TankArenaModel_state 148 = .ok (.getfield 74, 3) := by decide +kernel
theorem d_TankArenaModel_state_151 : decode b_TankArenaModel_state 151 = .ok (.iload_n 1, 1) := by decide +kernel
theorem d_TankArenaModel_state_152 : decode b_TankArenaModel_state 152 = .ok (.baload, 1) := by decide +kernel
theorem d_TankArenaModel_state_153 : decode b_TankArenaModel_state 153 = .ok (.ifCond .eq 7, 3) := by decide +kernel
theorem d_TankArenaModel_state_156 : decode b_TankArenaModel_state 156 = .ok (.iconst 1, 1) := by decide +kernel
theorem d_TankArenaModel_state_157 : decode b_TankArenaModel_state 157 = .ok (.goto 4, 3) := by decide +kernel
theorem d_TankArenaModel_state_160 : decode b_TankArenaModel_state 160 = .ok (.iconst 0, 1) := by decide +kernel
theorem d_TankArenaModel_state_161 : decode b_TankArenaModel_state 161 = .ok (.ireturn, 1) := by decide +kernel
theorem d_TankArenaModel_state_162 : decode b_TankArenaModel_state 162 = .ok (.aload_n 0, 1) := by decide +kernel
theorem d_TankArenaModel_state_163 : decode b_TankArenaModel_state 163 = .ok (.getfield 77, 3) := by decide +kernel
theorem d_TankArenaModel_state_166 : decode b_TankArenaModel_state 166 = .ok (.iload_n 1, 1) := by decide +kernel
theorem d_TankArenaModel_state_167 : decode b_TankArenaModel_state 167 = .ok (.baload, 1) := by decide +kernel
theorem d_TankArenaModel_state_168 : decode b_TankArenaModel_state 168 = .ok (.ifCond .eq 7, 3) := by decide +kernel
theorem d_TankArenaModel_state_171 : decode b_TankArenaModel_state 171 = .ok (.iconst 1, 1) := by decide +kernel
theorem d_TankArenaModel_state_172 : decode b_TankArenaModel_state 172 = .ok (.goto 4, 3) := by decide +kernel
theorem d_TankArenaModel_state_175 : decode b_TankArenaModel_state 175 = .ok (.iconst 0, 1) := by decide +kernel
theorem d_TankArenaModel_state_176 : decode b_TankArenaModel_state 176 = .ok (.ireturn, 1) := by decide +kernel
theorem d_TankArenaModel_state_177 : decode b_TankArenaModel_state 177 = .ok (.ldc 125, 2) := by decide +kernel
theorem d_TankArenaModel_state_179 : decode b_TankArenaModel_state 179 = .ok (.ireturn, 1) := by decide +kernel
theorem d_TankArenaModel_strike_0 : decode b_TankArenaModel_strike 0 = .ok (.aload_n 0, 1) := by decide +kernel
theorem d_TankArenaModel_strike_1 : decode b_TankArenaModel_strike 1 = .ok (.getfield 98, 3) := by decide +kernel
theorem d_TankArenaModel_strike_4 : decode b_TankArenaModel_strike 4 = .ok (.iload_n 1, 1) := by decide +kernel
theorem d_TankArenaModel_strike_5 : decode b_TankArenaModel_strike 5 = .ok (.iaload, 1) := by decide +kernel
theorem d_TankArenaModel_strike_6 : decode b_TankArenaModel_strike 6 = .ok (.istore_n 3, 1) := by decide +kernel
theorem d_TankArenaModel_strike_7 : decode b_TankArenaModel_strike 7 = .ok (.aload_n 0, 1) := by decide +kernel
theorem d_TankArenaModel_strike_8 : decode b_TankArenaModel_strike 8 = .ok (.getfield 104, 3) := by decide +kernel
theorem d_TankArenaModel_strike_11 : decode b_TankArenaModel_strike 11 = .ok (.iload_n 1, 1) := by decide +kernel
theorem d_TankArenaModel_strike_12 : decode b_TankArenaModel_strike 12 = .ok (.iaload, 1) := by decide +kernel
theorem d_TankArenaModel_strike_13 : decode b_TankArenaModel_strike 13 = .ok (.istore 4, 2) := by decide +kernel
theorem d_TankArenaModel_strike_15 : decode b_TankArenaModel_strike 15 = .ok (.bipush 32, 2) := by decide +kernel
theorem d_TankArenaModel_strike_17 : decode b_TankArenaModel_strike 17 = .ok (.iload_n 3, 1) := by decide +kernel
theorem d_TankArenaModel_strike_18 : decode b_TankArenaModel_strike 18 = .ok (.imul, 1) := by decide +kernel
theorem d_TankArenaModel_strike_19 : decode b_TankArenaModel_strike 19 = .ok (.bipush 16, 2) := by decide +kernel
theorem d_TankArenaModel_strike_21 : decode b_TankArenaModel_strike 21 = .ok (.iload_n 3, 1) := by decide +kernel
theorem d_TankArenaModel_strike_22 : decode b_TankArenaModel_strike 22 = .ok (.iconst 1, 1) := by decide +kernel
theorem d_TankArenaModel_strike_23 : decode b_TankArenaModel_strike 23 = .ok (.isub, 1) := by decide +kernel
theorem d_TankArenaModel_strike_24 : decode b_TankArenaModel_strike 24 = .ok (.imul, 1) := by decide +kernel
theorem d_TankArenaModel_strike_25 : decode b_TankArenaModel_strike 25 = .ok (.iadd, 1) := by decide +kernel
theorem d_TankArenaModel_strike_26 : decode b_TankArenaModel_strike 26 = .ok (.istore 5, 2) := by decide +kernel
theorem d_TankArenaModel_strike_28 : decode b_TankArenaModel_strike 28 = .ok (.aload_n 0, 1) := by decide +kernel
theorem d_TankArenaModel_strike_29 : decode b_TankArenaModel_strike 29 = .ok (.dup, 1) := by decide +kernel
theorem d_TankArenaModel_strike_30 : decode b_TankArenaModel_strike 30 = .ok (.getfield 156, 3) := by decide +kernel
theorem d_TankArenaModel_strike_33 : decode b_TankArenaModel_strike 33 = .ok (.iconst 1, 1) := by decide +kernel
theorem d_TankArenaModel_strike_34 : decode b_TankArenaModel_strike 34 = .ok (.iadd, 1) := by decide +kernel
theorem d_TankArenaModel_strike_35 : decode b_TankArenaModel_strike 35 = .ok (.putfield 156, 3) := by decide +kernel
theorem d_TankArenaModel_strike_38 : decode b_TankArenaModel_strike 38 = .ok (.aload_n 0, 1) := by decide +kernel
theorem d_TankArenaModel_strike_39 : decode b_TankArenaModel_strike 39 = .ok (.getfield 77, 3) := by decide +kernel
theorem d_TankArenaModel_strike_42 : decode b_TankArenaModel_strike 42 = .ok (.iload_n 2, 1) := by decide +kernel
theorem d_TankArenaModel_strike_43 : decode b_TankArenaModel_strike 43 = .ok (.iconst 1, 1) := by decide +kernel
theorem d_TankArenaModel_strike_44 : decode b_TankArenaModel_strike 44 = .ok (.bastore, 1) := by decide +kernel
theorem d_TankArenaModel_strike_45 : decode b_TankArenaModel_strike 45 = .ok (.aload_n 0, 1) := by decide +kernel
theorem d_TankArenaModel_strike_46 : decode b_TankArenaModel_strike 46 = .ok (.getfield 52, 3) := by decide +kernel
theorem d_TankArenaModel_strike_49 : decode b_TankArenaModel_strike 49 = .ok (.iload_n 2, 1) := by decide +kernel
theorem d_TankArenaModel_strike_50 : decode b_TankArenaModel_strike 50 = .ok (.dup2, 1) := by decide +kernel
theorem d_TankArenaModel_strike_51 : decode b_TankArenaModel_strike 51 = .ok (.iaload, 1) := by decide +kernel
theorem d_TankArenaModel_strike_52 : decode b_TankArenaModel_strike 52 = .ok (.iload 5, 2) := by decide +kernel
theorem d_TankArenaModel_strike_54 : decode b_TankArenaModel_strike 54 = .ok (.isub, 1) := by decide +kernel
theorem d_TankArenaModel_strike_55 : decode b_TankArenaModel_strike 55 = .ok (.iastore, 1) := by decide +kernel
theorem d_TankArenaModel_strike_56 : decode b_TankArenaModel_strike 56 = .ok (.aload_n 0, 1) := by decide +kernel
theorem d_TankArenaModel_strike_57 : decode b_TankArenaModel_strike 57 = .ok (.getfield 67, 3) := by decide +kernel
theorem d_TankArenaModel_strike_60 : decode b_TankArenaModel_strike 60 = .ok (.iload 4, 2) := by decide +kernel
theorem d_TankArenaModel_strike_62 : decode b_TankArenaModel_strike 62 = .ok (.dup2, 1) := by decide +kernel
theorem d_TankArenaModel_strike_63 : decode b_TankArenaModel_strike 63 = .ok (.iaload, 1) := by decide +kernel
theorem d_TankArenaModel_strike_64 : decode b_TankArenaModel_strike 64 = .ok (.iload 5, 2) := by decide +kernel
theorem d_TankArenaModel_strike_66 : decode b_TankArenaModel_strike 66 = .ok (.iadd, 1) := by decide +kernel
theorem d_TankArenaModel_strike_67 : decode b_TankArenaModel_strike 67 = .ok (.iastore, 1) := by decide +kernel
theorem d_TankArenaModel_strike_68 : decode b_TankArenaModel_strike 68 = .ok (.aload_n 0, 1) := by decide +kernel
theorem d_TankArenaModel_strike_69 : decode b_TankArenaModel_strike 69 = .ok (.getfield 70, 3) := by decide +kernel
theorem d_TankArenaModel_strike_72 : decode b_TankArenaModel_strike 72 = .ok (.iload 4, 2) := by decide +kernel
theorem d_TankArenaModel_strike_74 : decode b_TankArenaModel_strike 74 = .ok (.baload, 1) := by decide +kernel
theorem d_TankArenaModel_strike_75 : decode b_TankArenaModel_strike 75 = .ok (.ifCond .eq 17, 3) := by decide +kernel
theorem d_TankArenaModel_strike_78 : decode b_TankArenaModel_strike 78 = .ok (.aload_n 0, 1) := by decide +kernel
theorem d_TankArenaModel_strike_79 : decode b_TankArenaModel_strike 79 = .ok (.getfield 52, 3) := by decide +kernel
theorem d_TankArenaModel_strike_82 : decode b_TankArenaModel_strike 82 = .ok (.iload 4, 2) := by decide +kernel
theorem d_TankArenaModel_strike_84 : decode b_TankArenaModel_strike 84 = .ok (.dup2, 1) := by decide +kernel
theorem d_TankArenaModel_strike_85 : decode b_TankArenaModel_strike 85 = .ok (.iaload, 1) := by decide +kernel
theorem d_TankArenaModel_strike_86 : decode b_TankArenaModel_strike 86 = .ok (.bipush 24, 2) := by decide +kernel
theorem d_TankArenaModel_strike_88 : decode b_TankArenaModel_strike 88 = .ok (.iload_n 3, 1) := by decide +kernel
theorem d_TankArenaModel_strike_89 : decode b_TankArenaModel_strike 89 = .ok (.imul, 1) := by decide +kernel
theorem d_TankArenaModel_strike_90 : decode b_TankArenaModel_strike 90 = .ok (.iadd, 1) := by decide +kernel
theorem d_TankArenaModel_strike_91 : decode b_TankArenaModel_strike 91 = .ok (.iastore, 1) := by decide +kernel
theorem d_TankArenaModel_strike_92 : decode b_TankArenaModel_strike 92 = .ok (.aload_n 0, 1) := by decide +kernel
theorem d_TankArenaModel_strike_93 : decode b_TankArenaModel_strike 93 = .ok (.getfield 107, 3) := by decide +kernel
theorem d_TankArenaModel_strike_96 : decode b_TankArenaModel_strike 96 = .ok (.iload_n 1, 1) := by decide +kernel
theorem d_TankArenaModel_strike_97 : decode b_TankArenaModel_strike 97 = .ok (.iconst 1, 1) := by decide +kernel
theorem d_TankArenaModel_strike_98 : decode b_TankArenaModel_strike 98 = .ok (.bastore, 1) := by decide +kernel
theorem d_TankArenaModel_strike_99 : decode b_TankArenaModel_strike 99 = .ok (.aload_n 0, 1) := by decide +kernel
theorem d_TankArenaModel_strike_100 : decode b_TankArenaModel_strike 100 = .ok (.iload_n 2, 1) := by decide +kernel
theorem d_TankArenaModel_strike_101 : decode b_TankArenaModel_strike 101 = .ok (.invokevirtual 159, 3) := by decide +kernel
theorem d_TankArenaModel_strike_104 : decode b_TankArenaModel_strike 104 = .ok (.return_, 1) := by decide +kernel
theorem d_TankArenaModel_struck_0 : decode b_TankArenaModel_struck 0 = .ok (.iconst 0, 1) := by decide +kernel
theorem d_TankArenaModel_struck_1 : decode b_TankArenaModel_struck 1 = .ok (.istore_n 2, 1) := by decide +kernel
theorem d_TankArenaModel_struck_2 : decode b_TankArenaModel_struck 2 = .ok (.iload_n 2, 1) := by decide +kernel
theorem d_TankArenaModel_struck_3 : decode b_TankArenaModel_struck 3 = .ok (.aload_n 0, 1) := by decide +kernel
theorem d_TankArenaModel_struck_4 : decode b_TankArenaModel_struck 4 = .ok (.getfield 122, 3) := by decide +kernel
theorem d_TankArenaModel_struck_7 : decode b_TankArenaModel_struck 7 = .ok (.if_icmp .ge 72, 3) := by decide +kernel
theorem d_TankArenaModel_struck_10 : decode b_TankArenaModel_struck 10 = .ok (.aload_n 0, 1) := by decide +kernel
theorem d_TankArenaModel_struck_11 : decode b_TankArenaModel_struck 11 = .ok (.getfield 70, 3) := by decide +kernel
theorem d_TankArenaModel_struck_14 : decode b_TankArenaModel_struck 14 = .ok (.iload_n 2, 1) := by decide +kernel
theorem d_TankArenaModel_struck_15 : decode b_TankArenaModel_struck 15 = .ok (.baload, 1) := by decide +kernel
theorem d_TankArenaModel_struck_16 : decode b_TankArenaModel_struck 16 = .ok (.ifCond .eq 57, 3) := by decide +kernel
theorem d_TankArenaModel_struck_19 : decode b_TankArenaModel_struck 19 = .ok (.iload_n 2, 1) := by decide +kernel
theorem d_TankArenaModel_struck_20 : decode b_TankArenaModel_struck 20 = .ok (.aload_n 0, 1) := by decide +kernel
theorem d_TankArenaModel_struck_21 : decode b_TankArenaModel_struck 21 = .ok (.getfield 104, 3) := by decide +kernel
theorem d_TankArenaModel_struck_24 : decode b_TankArenaModel_struck 24 = .ok (.iload_n 1, 1) := by decide +kernel
theorem d_TankArenaModel_struck_25 : decode b_TankArenaModel_struck 25 = .ok (.iaload, 1) := by decide +kernel
theorem d_TankArenaModel_struck_26 : decode b_TankArenaModel_struck 26 = .ok (.if_icmp .eq 47, 3) := by decide +kernel
theorem d_TankArenaModel_struck_29 : decode b_TankArenaModel_struck 29 = .ok (.aload_n 0, 1) := by decide +kernel
theorem d_TankArenaModel_struck_30 : decode b_TankArenaModel_struck 30 = .ok (.getfield 31, 3) := by decide +kernel
theorem d_TankArenaModel_struck_33 : decode b_TankArenaModel_struck 33 = .ok (.iload_n 2, 1) := by decide +kernel
theorem d_TankArenaModel_struck_34 : decode b_TankArenaModel_struck 34 = .ok (.iaload, 1) := by decide +kernel
theorem d_TankArenaModel_struck_35 : decode b_TankArenaModel_struck 35 = .ok (.aload_n 0, 1) := by decide +kernel
theorem d_TankArenaModel_struck_36 : decode b_TankArenaModel_struck 36 = .ok (.getfield 92, 3) := by decide +kernel
theorem d_TankArenaModel_struck_39 : decode b_TankArenaModel_struck 39 = .ok (.iload_n 1, 1) := by decide +kernel
theorem d_TankArenaModel_struck_40 : decode b_TankArenaModel_struck 40 = .ok (.iaload, 1) := by decide +kernel
theorem d_TankArenaModel_struck_41 : decode b_TankArenaModel_struck 41 = .ok (.isub, 1) := by decide +kernel
theorem d_TankArenaModel_struck_42 : decode b_TankArenaModel_struck 42 = .ok (.invokestatic 110, 3) := by decide +kernel
theorem d_TankArenaModel_struck_45 : decode b_TankArenaModel_struck 45 = .ok (.bipush 16, 2) := by decide +kernel
theorem d_TankArenaModel_struck_47 : decode b_TankArenaModel_struck 47 = .ok (.if_icmp .gt 26, 3) := by decide +kernel
theorem d_TankArenaModel_struck_50 : decode b_TankArenaModel_struck 50 = .ok (.aload_n 0, 1) := by decide +kernel
theorem d_TankArenaModel_struck_51 : decode b_TankArenaModel_struck 51 = .ok (.getfield 34, 3) := by decide +kernel
theorem d_TankArenaModel_struck_54 : decode b_TankArenaModel_struck 54 = .ok (.iload_n 2, 1) := by decide +kernel
theorem d_TankArenaModel_struck_55 : decode b_TankArenaModel_struck 55 = .ok (.iaload, 1) := by decide +kernel
theorem d_TankArenaModel_struck_56 : decode b_TankArenaModel_struck 56 = .ok (.aload_n 0, 1) := by decide +kernel
theorem d_TankArenaModel_struck_57 : decode b_TankArenaModel_struck 57 = .ok (.getfield 95, 3) := by decide +kernel
theorem d_TankArenaModel_struck_60 : decode b_TankArenaModel_struck 60 = .ok (.iload_n 1, 1) := by decide +kernel
theorem d_TankArenaModel_struck_61 : decode b_TankArenaModel_struck 61 = .ok (.iaload, 1) := by decide +kernel
theorem d_TankArenaModel_struck_62 : decode b_TankArenaModel_struck 62 = .ok (.isub, 1) := by decide +kernel
theorem d_TankArenaModel_struck_63 : decode b_TankArenaModel_struck 63 = .ok (.invokestatic 110, 3) := by decide +kernel
theorem d_TankArenaModel_struck_66 : decode b_TankArenaModel_struck 66 = .ok (.bipush 16, 2) := by decide +kernel
theorem d_TankArenaModel_struck_68 : decode b_TankArenaModel_struck 68 = .ok (.if_icmp .gt 5, 3) := by decide +kernel
theorem d_TankArenaModel_struck_71 : decode b_TankArenaModel_struck 71 = .ok (.iload_n 2, 1) := by decide +kernel
theorem d_TankArenaModel_struck_72 : decode b_TankArenaModel_struck 72 = .ok (.ireturn, 1) := by decide +kernel
theorem d_TankArenaModel_struck_73 : decode b_TankArenaModel_struck 73 = .ok (.iinc 2 1, 3) := by decide +kernel
theorem d_TankArenaModel_struck_76 : decode b_TankArenaModel_struck 76 = .ok (.goto (-74), 3) := by decide +kernel
theorem d_TankArenaModel_struck_79 : decode b_TankArenaModel_struck 79 = .ok (.iconst 4, 1) := by decide +kernel
theorem d_TankArenaModel_struck_80 : decode b_TankArenaModel_struck 80 = .ok (.ireturn, 1) := by decide +kernel
theorem d_TankArenaModel_there_0 : decode b_TankArenaModel_there 0 = .ok (.iconst 0, 1) := by decide +kernel
theorem d_TankArenaModel_there_1 : decode b_TankArenaModel_there 1 = .ok (.istore_n 1, 1) := by decide +kernel
theorem d_TankArenaModel_there_2 : decode b_TankArenaModel_there 2 = .ok (.iconst 0, 1) := by decide +kernel
theorem d_TankArenaModel_there_3 : decode b_TankArenaModel_there 3 = .ok (.istore_n 2, 1) := by decide +kernel
theorem d_TankArenaModel_there_4 : decode b_TankArenaModel_there 4 = .ok (.iload_n 2, 1) := by decide +kernel
theorem d_TankArenaModel_there_5 : decode b_TankArenaModel_there 5 = .ok (.aload_n 0, 1) := by decide +kernel
theorem d_TankArenaModel_there_6 : decode b_TankArenaModel_there 6 = .ok (.getfield 150, 3) := by decide +kernel
theorem d_TankArenaModel_there_9 : decode b_TankArenaModel_there 9 = .ok (.if_icmp .ge 21, 3) := by decide +kernel
theorem d_TankArenaModel_there_12 : decode b_TankArenaModel_there 12 = .ok (.aload_n 0, 1) := by decide +kernel
theorem d_TankArenaModel_there_13 : decode b_TankArenaModel_there 13 = .ok (.getfield 107, 3) := by decide +kernel
theorem d_TankArenaModel_there_16 : decode b_TankArenaModel_there 16 = .ok (.iload_n 2, 1) := by decide +kernel
theorem d_TankArenaModel_there_17 : decode b_TankArenaModel_there 17 = .ok (.baload, 1) := by decide +kernel
theorem d_TankArenaModel_there_18 : decode b_TankArenaModel_there 18 = .ok (.ifCond .ne 6, 3) := by decide +kernel
theorem d_TankArenaModel_there_21 : decode b_TankArenaModel_there 21 = .ok (.iinc 1 1, 3) := by decide +kernel
theorem d_TankArenaModel_there_24 : decode b_TankArenaModel_there 24 = .ok (.iinc 2 1, 3) := by decide +kernel
theorem d_TankArenaModel_there_27 : decode b_TankArenaModel_there 27 = .ok (.goto (-23), 3) := by decide +kernel
theorem d_TankArenaModel_there_30 : decode b_TankArenaModel_there 30 = .ok (.iload_n 1, 1) := by decide +kernel
theorem d_TankArenaModel_there_31 : decode b_TankArenaModel_there 31 = .ok (.ireturn, 1) := by decide +kernel
theorem d_TankArenaModel_touch_0 : decode b_TankArenaModel_touch 0 = .ok (.aload_n 0, 1) := by decide +kernel
theorem d_TankArenaModel_touch_1 : decode b_TankArenaModel_touch 1 = .ok (.getfield 31, 3) := by decide +kernel
theorem d_TankArenaModel_touch_4 : decode b_TankArenaModel_touch 4 = .ok (.iload_n 1, 1) := by decide +kernel
theorem d_TankArenaModel_touch_5 : decode b_TankArenaModel_touch 5 = .ok (.iaload, 1) := by decide +kernel
theorem d_TankArenaModel_touch_6 : decode b_TankArenaModel_touch 6 = .ok (.aload_n 0, 1) := by decide +kernel
theorem d_TankArenaModel_touch_7 : decode b_TankArenaModel_touch 7 = .ok (.getfield 31, 3) := by decide +kernel
theorem d_TankArenaModel_touch_10 : decode b_TankArenaModel_touch 10 = .ok (.iload_n 2, 1) := by decide +kernel
theorem d_TankArenaModel_touch_11 : decode b_TankArenaModel_touch 11 = .ok (.iaload, 1) := by decide +kernel
theorem d_TankArenaModel_touch_12 : decode b_TankArenaModel_touch 12 = .ok (.isub, 1) := by decide +kernel
theorem d_TankArenaModel_touch_13 : decode b_TankArenaModel_touch 13 = .ok (.invokestatic 110, 3) := by decide +kernel
theorem d_TankArenaModel_touch_16 : decode b_TankArenaModel_touch 16 = .ok (.bipush 32, 2) := by decide +kernel
theorem d_TankArenaModel_touch_18 : decode b_TankArenaModel_touch 18 = .ok (.if_icmp .ge 28, 3) := by decide +kernel
theorem d_TankArenaModel_touch_21 : decode b_TankArenaModel_touch 21 = .ok (.aload_n 0, 1) := by decide +kernel
theorem d_TankArenaModel_touch_22 : decode b_TankArenaModel_touch 22 = .ok (.getfield 34, 3) := by decide +kernel
theorem d_TankArenaModel_touch_25 : decode b_TankArenaModel_touch 25 = .ok (.iload_n 1, 1) := by decide +kernel
theorem d_TankArenaModel_touch_26 : decode b_TankArenaModel_touch 26 = .ok (.iaload, 1) := by decide +kernel
theorem d_TankArenaModel_touch_27 : decode b_TankArenaModel_touch 27 = .ok (.aload_n 0, 1) := by decide +kernel
theorem d_TankArenaModel_touch_28 : decode b_TankArenaModel_touch 28 = .ok (.getfield 34, 3) := by decide +kernel
theorem d_TankArenaModel_touch_31 : decode b_TankArenaModel_touch 31 = .ok (.iload_n 2, 1) := by decide +kernel
theorem d_TankArenaModel_touch_32 : decode b_TankArenaModel_touch 32 = .ok (.iaload, 1) := by decide +kernel
theorem d_TankArenaModel_touch_33 : decode b_TankArenaModel_touch 33 = .ok (.isub, 1) := by decide +kernel
theorem d_TankArenaModel_touch_34 : decode b_TankArenaModel_touch 34 = .ok (.invokestatic 110, 3) := by decide +kernel
theorem d_TankArenaModel_touch_37 : decode b_TankArenaModel_touch 37 = .ok (.bipush 32, 2) := by decide +kernel
theorem d_TankArenaModel_touch_39 : decode b_TankArenaModel_touch 39 = .ok (.if_icmp .ge 7, 3) := by decide +kernel
theorem d_TankArenaModel_touch_42 : decode b_TankArenaModel_touch 42 = .ok (.iconst 1, 1) := by decide +kernel
theorem d_TankArenaModel_touch_43 : decode b_TankArenaModel_touch 43 = .ok (.goto 4, 3) := by decide +kernel
theorem d_TankArenaModel_touch_46 : decode b_TankArenaModel_touch 46 = .ok (.iconst 0, 1) := by decide +kernel
theorem d_TankArenaModel_touch_47 : decode b_TankArenaModel_touch 47 = .ok (.ireturn, 1) := by decide +kernel
theorem d_TankArenaModel_touched_0 : decode b_TankArenaModel_touched 0 = .ok (.iconst 0, 1) := by decide +kernel
theorem d_TankArenaModel_touched_1 : decode b_TankArenaModel_touched 1 = .ok (.istore_n 2, 1) := by decide +kernel
theorem d_TankArenaModel_touched_2 : decode b_TankArenaModel_touched 2 = .ok (.iload_n 2, 1) := by decide +kernel
theorem d_TankArenaModel_touched_3 : decode b_TankArenaModel_touched 3 = .ok (.aload_n 0, 1) := by decide +kernel
theorem d_TankArenaModel_touched_4 : decode b_TankArenaModel_touched 4 = .ok (.getfield 122, 3) := by decide +kernel
theorem d_TankArenaModel_touched_7 : decode b_TankArenaModel_touched 7 = .ok (.if_icmp .ge 34, 3) := by decide +kernel
theorem d_TankArenaModel_touched_10 : decode b_TankArenaModel_touched 10 = .ok (.iload_n 2, 1) := by decide +kernel
theorem d_TankArenaModel_touched_11 : decode b_TankArenaModel_touched 11 = .ok (.iload_n 1, 1) := by decide +kernel
theorem d_TankArenaModel_touched_12 : decode b_TankArenaModel_touched 12 = .ok (.if_icmp .eq 23, 3) := by decide +kernel
theorem d_TankArenaModel_touched_15 : decode b_TankArenaModel_touched 15 = .ok (.aload_n 0, 1) := by decide +kernel
theorem d_TankArenaModel_touched_16 : decode b_TankArenaModel_touched 16 = .ok (.getfield 70, 3) := by decide +kernel
theorem d_TankArenaModel_touched_19 : decode b_TankArenaModel_touched 19 = .ok (.iload_n 2, 1) := by decide +kernel
theorem d_TankArenaModel_touched_20 : decode b_TankArenaModel_touched 20 = .ok (.baload, 1) := by decide +kernel
theorem d_TankArenaModel_touched_21 : decode b_TankArenaModel_touched 21 = .ok (.ifCond .eq 14, 3) := by decide +kernel
theorem d_TankArenaModel_touched_24 : decode b_TankArenaModel_touched 24 = .ok (.aload_n 0, 1) := by decide +kernel
theorem d_TankArenaModel_touched_25 : decode b_TankArenaModel_touched 25 = .ok (.iload_n 2, 1) := by decide +kernel
theorem d_TankArenaModel_touched_26 : decode b_TankArenaModel_touched 26 = .ok (.iload_n 1, 1) := by decide +kernel
theorem d_TankArenaModel_touched_27 : decode b_TankArenaModel_touched 27 = .ok (.invokevirtual 175, 3) := by decide +kernel
theorem d_TankArenaModel_touched_30 : decode b_TankArenaModel_touched 30 = .ok (.ifCond .eq 5, 3) := by decide +kernel
theorem d_TankArenaModel_touched_33 : decode b_TankArenaModel_touched 33 = .ok (.iload_n 2, 1) := by decide +kernel
theorem d_TankArenaModel_touched_34 : decode b_TankArenaModel_touched 34 = .ok (.ireturn, 1) := by decide +kernel
theorem d_TankArenaModel_touched_35 : decode b_TankArenaModel_touched 35 = .ok (.iinc 2 1, 3) := by decide +kernel
theorem d_TankArenaModel_touched_38 : decode b_TankArenaModel_touched 38 = .ok (.goto (-36), 3) := by decide +kernel
theorem d_TankArenaModel_touched_41 : decode b_TankArenaModel_touched 41 = .ok (.iconst 4, 1) := by decide +kernel
theorem d_TankArenaModel_touched_42 : decode b_TankArenaModel_touched 42 = .ok (.ireturn, 1) := by decide +kernel
theorem d_TankArenaModel_turn_0 : decode b_TankArenaModel_turn 0 = .ok (.aload_n 0, 1) := by decide +kernel
theorem d_TankArenaModel_turn_1 : decode b_TankArenaModel_turn 1 = .ok (.invokevirtual 185, 3) := by decide +kernel
theorem d_TankArenaModel_turn_4 : decode b_TankArenaModel_turn 4 = .ok (.iconst 2, 1) := by decide +kernel
theorem d_TankArenaModel_turn_5 : decode b_TankArenaModel_turn 5 = .ok (.if_icmp .ge 6, 3) := by decide +kernel
theorem d_TankArenaModel_turn_8 : decode b_TankArenaModel_turn 8 = .ok (.ldc 125, 2) := by decide +kernel
theorem d_TankArenaModel_turn_10 : decode b_TankArenaModel_turn 10 = .ok (.ireturn, 1) := by decide +kernel
theorem d_TankArenaModel_turn_11 : decode b_TankArenaModel_turn 11 = .ok (.aload_n 0, 1) := by decide +kernel
theorem d_TankArenaModel_turn_12 : decode b_TankArenaModel_turn 12 = .ok (.dup, 1) := by decide +kernel
theorem d_TankArenaModel_turn_13 : decode b_TankArenaModel_turn 13 = .ok (.getfield 118, 3) := by decide +kernel
theorem d_TankArenaModel_turn_16 : decode b_TankArenaModel_turn 16 = .ok (.iconst 1, 1) := by decide +kernel
theorem d_TankArenaModel_turn_17 : decode b_TankArenaModel_turn 17 = .ok (.iadd, 1) := by decide +kernel
theorem d_TankArenaModel_turn_18 : decode b_TankArenaModel_turn 18 = .ok (.putfield 118, 3) := by decide +kernel
theorem d_TankArenaModel_turn_21 : decode b_TankArenaModel_turn 21 = .ok (.iconst 0, 1) := by decide +kernel
theorem d_TankArenaModel_turn_22 : decode b_TankArenaModel_turn 22 = .ok (.istore_n 1, 1) := by decide +kernel
theorem d_TankArenaModel_turn_23 : decode b_TankArenaModel_turn 23 = .ok (.iload_n 1, 1) := by decide +kernel
theorem d_TankArenaModel_turn_24 : decode b_TankArenaModel_turn 24 = .ok (.aload_n 0, 1) := by decide +kernel
theorem d_TankArenaModel_turn_25 : decode b_TankArenaModel_turn 25 = .ok (.getfield 122, 3) := by decide +kernel
theorem d_TankArenaModel_turn_28 : decode b_TankArenaModel_turn 28 = .ok (.if_icmp .ge 38, 3) := by decide +kernel
theorem d_TankArenaModel_turn_31 : decode b_TankArenaModel_turn 31 = .ok (.aload_n 0, 1) := by decide +kernel
theorem d_TankArenaModel_turn_32 : decode b_TankArenaModel_turn 32 = .ok (.iload_n 1, 1) := by decide +kernel
theorem d_TankArenaModel_turn_33 : decode b_TankArenaModel_turn 33 = .ok (.invokevirtual 147, 3) := by decide +kernel
theorem d_TankArenaModel_turn_36 : decode b_TankArenaModel_turn 36 = .ok (.aload_n 0, 1) := by decide +kernel
theorem d_TankArenaModel_turn_37 : decode b_TankArenaModel_turn 37 = .ok (.getfield 70, 3) := by decide +kernel
theorem d_TankArenaModel_turn_40 : decode b_TankArenaModel_turn 40 = .ok (.iload_n 1, 1) := by decide +kernel
theorem d_TankArenaModel_turn_41 : decode b_TankArenaModel_turn 41 = .ok (.baload, 1) := by decide +kernel
theorem d_TankArenaModel_turn_42 : decode b_TankArenaModel_turn 42 = .ok (.ifCond .eq 18, 3) := by decide +kernel
theorem d_TankArenaModel_turn_45 : decode b_TankArenaModel_turn 45 = .ok (.aload_n 0, 1) := by decide +kernel
theorem d_TankArenaModel_turn_46 : decode b_TankArenaModel_turn 46 = .ok (.getfield 64, 3) := by decide +kernel
theorem d_TankArenaModel_turn_49 : decode b_TankArenaModel_turn 49 = .ok (.iload_n 1, 1) := by decide +kernel
theorem d_TankArenaModel_turn_50 : decode b_TankArenaModel_turn 50 = .ok (.iaload, 1) := by decide +kernel
theorem d_TankArenaModel_turn_51 : decode b_TankArenaModel_turn 51 = .ok (.iconst 3, 1) := by decide +kernel
theorem d_TankArenaModel_turn_52 : decode b_TankArenaModel_turn 52 = .ok (.if_icmp .ge 8, 3) := by decide +kernel
theorem d_TankArenaModel_turn_55 : decode b_TankArenaModel_turn 55 = .ok (.aload_n 0, 1) := by decide +kernel
theorem d_TankArenaModel_turn_56 : decode b_TankArenaModel_turn 56 = .ok (.iload_n 1, 1) := by decide +kernel
theorem d_TankArenaModel_turn_57 : decode b_TankArenaModel_turn 57 = .ok (.invokevirtual 189, 3) := by decide +kernel
theorem d_TankArenaModel_turn_60 : decode b_TankArenaModel_turn 60 = .ok (.iinc 1 1, 3) := by decide +kernel
theorem d_TankArenaModel_turn_63 : decode b_TankArenaModel_turn 63 = .ok (.goto (-40), 3) := by decide +kernel
theorem d_TankArenaModel_turn_66 : decode b_TankArenaModel_turn 66 = .ok (.iconst 0, 1) := by decide +kernel
theorem d_TankArenaModel_turn_67 : decode b_TankArenaModel_turn 67 = .ok (.istore_n 1, 1) := by decide +kernel
theorem d_TankArenaModel_turn_68 : decode b_TankArenaModel_turn 68 = .ok (.iload_n 1, 1) := by decide +kernel
theorem d_TankArenaModel_turn_69 : decode b_TankArenaModel_turn 69 = .ok (.aload_n 0, 1) := by decide +kernel
theorem d_TankArenaModel_turn_70 : decode b_TankArenaModel_turn 70 = .ok (.getfield 122, 3) := by decide +kernel
theorem d_TankArenaModel_turn_73 : decode b_TankArenaModel_turn 73 = .ok (.if_icmp .ge 14, 3) := by decide +kernel
theorem d_TankArenaModel_turn_76 : decode b_TankArenaModel_turn 76 = .ok (.aload_n 0, 1) := by decide +kernel
theorem d_TankArenaModel_turn_77 : decode b_TankArenaModel_turn 77 = .ok (.iload_n 1, 1) := by decide +kernel
theorem d_TankArenaModel_turn_78 : decode b_TankArenaModel_turn 78 = .ok (.invokevirtual 114, 3) := by decide +kernel
theorem d_TankArenaModel_turn_81 : decode b_TankArenaModel_turn 81 = .ok (.iinc 1 1, 3) := by decide +kernel
theorem d_TankArenaModel_turn_84 : decode b_TankArenaModel_turn 84 = .ok (.goto (-16), 3) := by decide +kernel
theorem d_TankArenaModel_turn_87 : decode b_TankArenaModel_turn 87 = .ok (.iconst 0, 1) := by decide +kernel
theorem d_TankArenaModel_turn_88 : decode b_TankArenaModel_turn 88 = .ok (.istore_n 1, 1) := by decide +kernel
theorem d_TankArenaModel_turn_89 : decode b_TankArenaModel_turn 89 = .ok (.iload_n 1, 1) := by decide +kernel
theorem d_TankArenaModel_turn_90 : decode b_TankArenaModel_turn 90 = .ok (.aload_n 0, 1) := by decide +kernel
theorem d_TankArenaModel_turn_91 : decode b_TankArenaModel_turn 91 = .ok (.getfield 122, 3) := by decide +kernel
theorem d_TankArenaModel_turn_94 : decode b_TankArenaModel_turn 94 = .ok (.if_icmp .ge 23, 3) := by decide +kernel
theorem d_TankArenaModel_turn_97 : decode b_TankArenaModel_turn 97 = .ok (.aload_n 0, 1) := by decide +kernel
theorem d_TankArenaModel_turn_98 : decode b_TankArenaModel_turn 98 = .ok (.getfield 70, 3) := by decide +kernel
theorem d_TankArenaModel_turn_101 : decode b_TankArenaModel_turn 101 = .ok (.iload_n 1, 1) := by decide +kernel
theorem d_TankArenaModel_turn_102 : decode b_TankArenaModel_turn 102 = .ok (.baload, 1) := by decide +kernel
theorem d_TankArenaModel_turn_103 : decode b_TankArenaModel_turn 103 = .ok (.ifCond .eq 8, 3) := by decide +kernel
theorem d_TankArenaModel_turn_106 : decode b_TankArenaModel_turn 106 = .ok (.aload_n 0, 1) := by decide +kernel
theorem d_TankArenaModel_turn_107 : decode b_TankArenaModel_turn 107 = .ok (.iload_n 1, 1) := by decide +kernel
theorem d_TankArenaModel_turn_108 : decode b_TankArenaModel_turn 108 = .ok (.invokevirtual 192, 3) := by decide +kernel
theorem d_TankArenaModel_turn_111 : decode b_TankArenaModel_turn 111 = .ok (.iinc 1 1, 3) := by decide +kernel
theorem d_TankArenaModel_turn_114 : decode b_TankArenaModel_turn 114 = .ok (.goto (-25), 3) := by decide +kernel
theorem d_TankArenaModel_turn_117 : decode b_TankArenaModel_turn 117 = .ok (.iconst 0, 1) := by decide +kernel
theorem d_TankArenaModel_turn_118 : decode b_TankArenaModel_turn 118 = .ok (.istore_n 1, 1) := by decide +kernel
theorem d_TankArenaModel_turn_119 : decode b_TankArenaModel_turn 119 = .ok (.iload_n 1, 1) := by decide +kernel
theorem d_TankArenaModel_turn_120 : decode b_TankArenaModel_turn 120 = .ok (.aload_n 0, 1) := by decide +kernel
theorem d_TankArenaModel_turn_121 : decode b_TankArenaModel_turn 121 = .ok (.getfield 150, 3) := by decide +kernel
theorem d_TankArenaModel_turn_124 : decode b_TankArenaModel_turn 124 = .ok (.if_icmp .ge 23, 3) := by decide +kernel
theorem d_TankArenaModel_turn_127 : decode b_TankArenaModel_turn 127 = .ok (.aload_n 0, 1) := by decide +kernel
theorem d_TankArenaModel_turn_128 : decode b_TankArenaModel_turn 128 = .ok (.getfield 107, 3) := by decide +kernel
theorem d_TankArenaModel_turn_131 : decode b_TankArenaModel_turn 131 = .ok (.iload_n 1, 1) := by decide +kernel
theorem d_TankArenaModel_turn_132 : decode b_TankArenaModel_turn 132 = .ok (.baload, 1) := by decide +kernel
theorem d_TankArenaModel_turn_133 : decode b_TankArenaModel_turn 133 = .ok (.ifCond .ne 8, 3) := by decide +kernel
theorem d_TankArenaModel_turn_136 : decode b_TankArenaModel_turn 136 = .ok (.aload_n 0, 1) := by decide +kernel
theorem d_TankArenaModel_turn_137 : decode b_TankArenaModel_turn 137 = .ok (.iload_n 1, 1) := by decide +kernel
theorem d_TankArenaModel_turn_138 : decode b_TankArenaModel_turn 138 = .ok (.invokevirtual 195, 3) := by decide +kernel
theorem d_TankArenaModel_turn_141 : decode b_TankArenaModel_turn 141 = .ok (.iinc 1 1, 3) := by decide +kernel
theorem d_TankArenaModel_turn_144 : decode b_TankArenaModel_turn 144 = .ok (.goto (-25), 3) := by decide +kernel
theorem d_TankArenaModel_turn_147 : decode b_TankArenaModel_turn 147 = .ok (.iconst 0, 1) := by decide +kernel
theorem d_TankArenaModel_turn_148 : decode b_TankArenaModel_turn 148 = .ok (.istore_n 1, 1) := by decide +kernel
theorem d_TankArenaModel_turn_149 : decode b_TankArenaModel_turn 149 = .ok (.iload_n 1, 1) := by decide +kernel
theorem d_TankArenaModel_turn_150 : decode b_TankArenaModel_turn 150 = .ok (.aload_n 0, 1) := by decide +kernel
theorem d_TankArenaModel_turn_151 : decode b_TankArenaModel_turn 151 = .ok (.getfield 122, 3) := by decide +kernel
theorem d_TankArenaModel_turn_154 : decode b_TankArenaModel_turn 154 = .ok (.if_icmp .ge 23, 3) := by decide +kernel
theorem d_TankArenaModel_turn_157 : decode b_TankArenaModel_turn 157 = .ok (.aload_n 0, 1) := by decide +kernel
theorem d_TankArenaModel_turn_158 : decode b_TankArenaModel_turn 158 = .ok (.getfield 70, 3) := by decide +kernel
theorem d_TankArenaModel_turn_161 : decode b_TankArenaModel_turn 161 = .ok (.iload_n 1, 1) := by decide +kernel
theorem d_TankArenaModel_turn_162 : decode b_TankArenaModel_turn 162 = .ok (.baload, 1) := by decide +kernel
theorem d_TankArenaModel_turn_163 : decode b_TankArenaModel_turn 163 = .ok (.ifCond .eq 8, 3) := by decide +kernel
theorem d_TankArenaModel_turn_166 : decode b_TankArenaModel_turn 166 = .ok (.aload_n 0, 1) := by decide +kernel
theorem d_TankArenaModel_turn_167 : decode b_TankArenaModel_turn 167 = .ok (.iload_n 1, 1) := by decide +kernel
theorem d_TankArenaModel_turn_168 : decode b_TankArenaModel_turn 168 = .ok (.invokevirtual 198, 3) := by decide +kernel
theorem d_TankArenaModel_turn_171 : decode b_TankArenaModel_turn 171 = .ok (.iinc 1 1, 3) := by decide +kernel
theorem d_TankArenaModel_turn_174 : decode b_TankArenaModel_turn 174 = .ok (.goto (-25), 3) := by decide +kernel
theorem d_TankArenaModel_turn_177 : decode b_TankArenaModel_turn 177 = .ok (.iconst 0, 1) := by decide +kernel
theorem d_TankArenaModel_turn_178 : decode b_TankArenaModel_turn 178 = .ok (.istore_n 1, 1) := by decide +kernel
theorem d_TankArenaModel_turn_179 : decode b_TankArenaModel_turn 179 = .ok (.iload_n 1, 1) := by decide +kernel
theorem d_TankArenaModel_turn_180 : decode b_TankArenaModel_turn 180 = .ok (.aload_n 0, 1) := by decide +kernel
theorem d_TankArenaModel_turn_181 : decode b_TankArenaModel_turn 181 = .ok (.getfield 122, 3) := by decide +kernel
theorem d_TankArenaModel_turn_184 : decode b_TankArenaModel_turn 184 = .ok (.if_icmp .ge 23, 3) := by decide +kernel
theorem d_TankArenaModel_turn_187 : decode b_TankArenaModel_turn 187 = .ok (.aload_n 0, 1) := by decide +kernel
theorem d_TankArenaModel_turn_188 : decode b_TankArenaModel_turn 188 = .ok (.getfield 70, 3) := by decide +kernel
theorem d_TankArenaModel_turn_191 : decode b_TankArenaModel_turn 191 = .ok (.iload_n 1, 1) := by decide +kernel
theorem d_TankArenaModel_turn_192 : decode b_TankArenaModel_turn 192 = .ok (.baload, 1) := by decide +kernel
theorem d_TankArenaModel_turn_193 : decode b_TankArenaModel_turn 193 = .ok (.ifCond .eq 8, 3) := by decide +kernel
theorem d_TankArenaModel_turn_196 : decode b_TankArenaModel_turn 196 = .ok (.aload_n 0, 1) := by decide +kernel
theorem d_TankArenaModel_turn_197 : decode b_TankArenaModel_turn 197 = .ok (.iload_n 1, 1) := by decide +kernel
theorem d_TankArenaModel_turn_198 : decode b_TankArenaModel_turn 198 = .ok (.invokevirtual 201, 3) := by decide +kernel
theorem d_TankArenaModel_turn_201 : decode b_TankArenaModel_turn 201 = .ok (.iinc 1 1, 3) := by decide +kernel
theorem d_TankArenaModel_turn_204 : decode b_TankArenaModel_turn 204 = .ok (.goto (-25), 3) := by decide +kernel
theorem d_TankArenaModel_turn_207 : decode b_TankArenaModel_turn 207 = .ok (.aload_n 0, 1) := by decide +kernel
theorem d_TankArenaModel_turn_208 : decode b_TankArenaModel_turn 208 = .ok (.invokevirtual 185, 3) := by decide +kernel
theorem d_TankArenaModel_turn_211 : decode b_TankArenaModel_turn 211 = .ok (.ireturn, 1) := by decide +kernel
theorem d_TankArenaModel_up_0 : decode b_TankArenaModel_up 0 = .ok (.iload_n 0, 1) := by decide +kernel
theorem d_TankArenaModel_up_1 : decode b_TankArenaModel_up 1 = .ok (.ifCond .le 12, 3) := by decide +kernel
theorem d_TankArenaModel_up_4 : decode b_TankArenaModel_up 4 = .ok (.iload_n 0, 1) := by decide +kernel
theorem d_TankArenaModel_up_5 : decode b_TankArenaModel_up 5 = .ok (.iconst 4, 1) := by decide +kernel
theorem d_TankArenaModel_up_6 : decode b_TankArenaModel_up 6 = .ok (.if_icmp .ge 7, 3) := by decide +kernel
theorem d_TankArenaModel_up_9 : decode b_TankArenaModel_up 9 = .ok (.iconst 1, 1) := by decide +kernel
theorem d_TankArenaModel_up_10 : decode b_TankArenaModel_up 10 = .ok (.goto 13, 3) := by decide +kernel
theorem d_TankArenaModel_up_13 : decode b_TankArenaModel_up 13 = .ok (.iload_n 0, 1) := by decide +kernel
theorem d_TankArenaModel_up_14 : decode b_TankArenaModel_up 14 = .ok (.iconst 4, 1) := by decide +kernel
theorem d_TankArenaModel_up_15 : decode b_TankArenaModel_up 15 = .ok (.if_icmp .le 7, 3) := by decide +kernel
theorem d_TankArenaModel_up_18 : decode b_TankArenaModel_up 18 = .ok (.iconst (-1), 1) := by decide +kernel
theorem d_TankArenaModel_up_19 : decode b_TankArenaModel_up 19 = .ok (.goto 4, 3) := by decide +kernel
theorem d_TankArenaModel_up_22 : decode b_TankArenaModel_up 22 = .ok (.iconst 0, 1) := by decide +kernel
theorem d_TankArenaModel_up_23 : decode b_TankArenaModel_up 23 = .ok (.ireturn, 1) := by decide +kernel
