/-! DECODE ROWS -/
theorem d_TankArenaModel_enter_162 : decode b_TankArenaModel_enter 162 = .ok (.putfield 122, 3) := by decide +kernel
theorem d_TankArenaModel_enter_165 : decode b_TankArenaModel_enter 165 = .ok (.aload_n 0, 1) := by decide +kernel
theorem d_TankArenaModel_enter_166 : decode b_TankArenaModel_enter 166 = .ok (.getfield 122, 3) := by decide +kernel
theorem d_TankArenaModel_enter_169 : decode b_TankArenaModel_enter 169 = .ok (.iconst 1, 1) := by decide +kernel
theorem d_TankArenaModel_enter_170 : decode b_TankArenaModel_enter 170 = .ok (.isub, 1) := by decide +kernel
theorem d_TankArenaModel_enter_171 : decode b_TankArenaModel_enter 171 = .ok (.ireturn, 1) := by decide +kernel
theorem d_TankArenaModel_fire_0 : decode b_TankArenaModel_fire 0 = .ok (.aload_n 0, 1) := by decide +kernel
theorem d_TankArenaModel_fire_1 : decode b_TankArenaModel_fire 1 = .ok (.getfield 89, 3) := by decide +kernel
theorem d_TankArenaModel_fire_4 : decode b_TankArenaModel_fire 4 = .ok (.iload_n 1, 1) := by decide +kernel
theorem d_TankArenaModel_fire_5 : decode b_TankArenaModel_fire 5 = .ok (.iaload, 1) := by decide +kernel
theorem d_TankArenaModel_fire_6 : decode b_TankArenaModel_fire 6 = .ok (.istore_n 2, 1) := by decide +kernel
theorem d_TankArenaModel_fire_7 : decode b_TankArenaModel_fire 7 = .ok (.iload_n 2, 1) := by decide +kernel
theorem d_TankArenaModel_fire_8 : decode b_TankArenaModel_fire 8 = .ok (.ifCond .eq 25, 3) := by decide +kernel
theorem d_TankArenaModel_fire_11 : decode b_TankArenaModel_fire 11 = .ok (.aload_n 0, 1) := by decide +kernel
theorem d_TankArenaModel_fire_12 : decode b_TankArenaModel_fire 12 = .ok (.getfield 55, 3) := by decide +kernel
theorem d_TankArenaModel_fire_15 : decode b_TankArenaModel_fire 15 = .ok (.iload_n 1, 1) := by decide +kernel
theorem d_TankArenaModel_fire_16 : decode b_TankArenaModel_fire 16 = .ok (.iaload, 1) := by decide +kernel
theorem d_TankArenaModel_fire_17 : decode b_TankArenaModel_fire 17 = .ok (.ifCond .gt 16, 3) := by decide +kernel
theorem d_TankArenaModel_fire_20 : decode b_TankArenaModel_fire 20 = .ok (.aload_n 0, 1) := by decide +kernel
theorem d_TankArenaModel_fire_21 : decode b_TankArenaModel_fire 21 = .ok (.getfield 52, 3) := by decide +kernel
theorem d_TankArenaModel_fire_24 : decode b_TankArenaModel_fire 24 = .ok (.iload_n 1, 1) := by decide +kernel
theorem d_TankArenaModel_fire_25 : decode b_TankArenaModel_fire 25 = .ok (.iaload, 1) := by decide +kernel
theorem d_TankArenaModel_fire_26 : decode b_TankArenaModel_fire 26 = .ok (.bipush 8, 2) := by decide +kernel
theorem d_TankArenaModel_fire_28 : decode b_TankArenaModel_fire 28 = .ok (.iload_n 2, 1) := by decide +kernel
theorem d_TankArenaModel_fire_29 : decode b_TankArenaModel_fire 29 = .ok (.imul, 1) := by decide +kernel
theorem d_TankArenaModel_fire_30 : decode b_TankArenaModel_fire 30 = .ok (.if_icmp .gt 4, 3) := by decide +kernel
theorem d_TankArenaModel_fire_33 : decode b_TankArenaModel_fire 33 = .ok (.return_, 1) := by decide +kernel
theorem d_TankArenaModel_fire_34 : decode b_TankArenaModel_fire 34 = .ok (.aload_n 0, 1) := by decide +kernel
theorem d_TankArenaModel_fire_35 : decode b_TankArenaModel_fire 35 = .ok (.getfield 52, 3) := by decide +kernel
theorem d_TankArenaModel_fire_38 : decode b_TankArenaModel_fire 38 = .ok (.iload_n 1, 1) := by decide +kernel
theorem d_TankArenaModel_fire_39 : decode b_TankArenaModel_fire 39 = .ok (.dup2, 1) := by decide +kernel
theorem d_TankArenaModel_fire_40 : decode b_TankArenaModel_fire 40 = .ok (.iaload, 1) := by decide +kernel
theorem d_TankArenaModel_fire_41 : decode b_TankArenaModel_fire 41 = .ok (.bipush 8, 2) := by decide +kernel
theorem d_TankArenaModel_fire_43 : decode b_TankArenaModel_fire 43 = .ok (.iload_n 2, 1) := by decide +kernel
theorem d_TankArenaModel_fire_44 : decode b_TankArenaModel_fire 44 = .ok (.imul, 1) := by decide +kernel
theorem d_TankArenaModel_fire_45 : decode b_TankArenaModel_fire 45 = .ok (.isub, 1) := by decide +kernel
theorem d_TankArenaModel_fire_46 : decode b_TankArenaModel_fire 46 = .ok (.iastore, 1) := by decide +kernel
theorem d_TankArenaModel_fire_47 : decode b_TankArenaModel_fire 47 = .ok (.aload_n 0, 1) := by decide +kernel
theorem d_TankArenaModel_fire_48 : decode b_TankArenaModel_fire 48 = .ok (.getfield 55, 3) := by decide +kernel
theorem d_TankArenaModel_fire_51 : decode b_TankArenaModel_fire 51 = .ok (.iload_n 1, 1) := by decide +kernel
theorem d_TankArenaModel_fire_52 : decode b_TankArenaModel_fire 52 = .ok (.bipush 8, 2) := by decide +kernel
theorem d_TankArenaModel_fire_54 : decode b_TankArenaModel_fire 54 = .ok (.iconst 2, 1) := by decide +kernel
theorem d_TankArenaModel_fire_55 : decode b_TankArenaModel_fire 55 = .ok (.iload_n 2, 1) := by decide +kernel
theorem d_TankArenaModel_fire_56 : decode b_TankArenaModel_fire 56 = .ok (.imul, 1) := by decide +kernel
theorem d_TankArenaModel_fire_57 : decode b_TankArenaModel_fire 57 = .ok (.iadd, 1) := by decide +kernel
theorem d_TankArenaModel_fire_58 : decode b_TankArenaModel_fire 58 = .ok (.iastore, 1) := by decide +kernel
theorem d_TankArenaModel_fire_59 : decode b_TankArenaModel_fire 59 = .ok (.aload_n 0, 1) := by decide +kernel
theorem d_TankArenaModel_fire_60 : decode b_TankArenaModel_fire 60 = .ok (.getfield 92, 3) := by decide +kernel
theorem d_TankArenaModel_fire_63 : decode b_TankArenaModel_fire 63 = .ok (.aload_n 0, 1) := by decide +kernel
theorem d_TankArenaModel_fire_64 : decode b_TankArenaModel_fire 64 = .ok (.getfield 150, 3) := by decide +kernel
theorem d_TankArenaModel_fire_67 : decode b_TankArenaModel_fire 67 = .ok (.aload_n 0, 1) := by decide +kernel
theorem d_TankArenaModel_fire_68 : decode b_TankArenaModel_fire 68 = .ok (.getfield 31, 3) := by decide +kernel
theorem d_TankArenaModel_fire_71 : decode b_TankArenaModel_fire 71 = .ok (.iload_n 1, 1) := by decide +kernel
theorem d_TankArenaModel_fire_72 : decode b_TankArenaModel_fire 72 = .ok (.iaload, 1) := by decide +kernel
theorem d_TankArenaModel_fire_73 : decode b_TankArenaModel_fire 73 = .ok (.iastore, 1) := by decide +kernel
theorem d_TankArenaModel_fire_74 : decode b_TankArenaModel_fire 74 = .ok (.aload_n 0, 1) := by decide +kernel
theorem d_TankArenaModel_fire_75 : decode b_TankArenaModel_fire 75 = .ok (.getfield 95, 3) := by decide +kernel
theorem d_TankArenaModel_fire_78 : decode b_TankArenaModel_fire 78 = .ok (.aload_n 0, 1) := by decide +kernel
theorem d_TankArenaModel_fire_79 : decode b_TankArenaModel_fire 79 = .ok (.getfield 150, 3) := by decide +kernel
theorem d_TankArenaModel_fire_82 : decode b_TankArenaModel_fire 82 = .ok (.aload_n 0, 1) := by decide +kernel
theorem d_TankArenaModel_fire_83 : decode b_TankArenaModel_fire 83 = .ok (.getfield 34, 3) := by decide +kernel
theorem d_TankArenaModel_fire_86 : decode b_TankArenaModel_fire 86 = .ok (.iload_n 1, 1) := by decide +kernel
theorem d_TankArenaModel_fire_87 : decode b_TankArenaModel_fire 87 = .ok (.iaload, 1) := by decide +kernel
theorem d_TankArenaModel_fire_88 : decode b_TankArenaModel_fire 88 = .ok (.iastore, 1) := by decide +kernel
theorem d_TankArenaModel_fire_89 : decode b_TankArenaModel_fire 89 = .ok (.aload_n 0, 1) := by decide +kernel
theorem d_TankArenaModel_fire_90 : decode b_TankArenaModel_fire 90 = .ok (.getfield 98, 3) := by decide +kernel
theorem d_TankArenaModel_fire_93 : decode b_TankArenaModel_fire 93 = .ok (.aload_n 0, 1) := by decide +kernel
theorem d_TankArenaModel_fire_94 : decode b_TankArenaModel_fire 94 = .ok (.getfield 150, 3) := by decide +kernel
theorem d_TankArenaModel_fire_97 : decode b_TankArenaModel_fire 97 = .ok (.iload_n 2, 1) := by decide +kernel
theorem d_TankArenaModel_fire_98 : decode b_TankArenaModel_fire 98 = .ok (.iastore, 1) := by decide +kernel
theorem d_TankArenaModel_fire_99 : decode b_TankArenaModel_fire 99 = .ok (.aload_n 0, 1) := by decide +kernel
theorem d_TankArenaModel_fire_100 : decode b_TankArenaModel_fire 100 = .ok (.getfield 101, 3) := by decide +kernel
theorem d_TankArenaModel_fire_103 : decode b_TankArenaModel_fire 103 = .ok (.aload_n 0, 1) := by decide +kernel
theorem d_TankArenaModel_fire_104 : decode b_TankArenaModel_fire 104 = .ok (.getfield 150, 3) := by decide +kernel
theorem d_TankArenaModel_fire_107 : decode b_TankArenaModel_fire 107 = .ok (.aload_n 0, 1) := by decide +kernel
theorem d_TankArenaModel_fire_108 : decode b_TankArenaModel_fire 108 = .ok (.getfield 40, 3) := by decide +kernel
theorem d_TankArenaModel_fire_111 : decode b_TankArenaModel_fire 111 = .ok (.iload_n 1, 1) := by decide +kernel
theorem d_TankArenaModel_fire_112 : decode b_TankArenaModel_fire 112 = .ok (.iaload, 1) := by decide +kernel
theorem d_TankArenaModel_fire_113 : decode b_TankArenaModel_fire 113 = .ok (.iastore, 1) := by decide +kernel
theorem d_TankArenaModel_fire_114 : decode b_TankArenaModel_fire 114 = .ok (.aload_n 0, 1) := by decide +kernel
theorem d_TankArenaModel_fire_115 : decode b_TankArenaModel_fire 115 = .ok (.getfield 104, 3) := by decide +kernel
theorem d_TankArenaModel_fire_118 : decode b_TankArenaModel_fire 118 = .ok (.aload_n 0, 1) := by decide +kernel
theorem d_TankArenaModel_fire_119 : decode b_TankArenaModel_fire 119 = .ok (.getfield 150, 3) := by decide +kernel
theorem d_TankArenaModel_fire_122 : decode b_TankArenaModel_fire 122 = .ok (.iload_n 1, 1) := by decide +kernel
theorem d_TankArenaModel_fire_123 : decode b_TankArenaModel_fire 123 = .ok (.iastore, 1) := by decide +kernel
theorem d_TankArenaModel_fire_124 : decode b_TankArenaModel_fire 124 = .ok (.aload_n 0, 1) := by decide +kernel
theorem d_TankArenaModel_fire_125 : decode b_TankArenaModel_fire 125 = .ok (.getfield 107, 3) := by decide +kernel
theorem d_TankArenaModel_fire_128 : decode b_TankArenaModel_fire 128 = .ok (.aload_n 0, 1) := by decide +kernel
theorem d_TankArenaModel_fire_129 : decode b_TankArenaModel_fire 129 = .ok (.getfield 150, 3) := by decide +kernel
theorem d_TankArenaModel_fire_132 : decode b_TankArenaModel_fire 132 = .ok (.iconst 0, 1) := by decide +kernel
theorem d_TankArenaModel_fire_133 : decode b_TankArenaModel_fire 133 = .ok (.bastore, 1) := by decide +kernel
theorem d_TankArenaModel_fire_134 : decode b_TankArenaModel_fire 134 = .ok (.aload_n 0, 1) := by decide +kernel
theorem d_TankArenaModel_fire_135 : decode b_TankArenaModel_fire 135 = .ok (.dup, 1) := by decide +kernel
theorem d_TankArenaModel_fire_136 : decode b_TankArenaModel_fire 136 = .ok (.getfield 150, 3) := by decide +kernel
theorem d_TankArenaModel_fire_139 : decode b_TankArenaModel_fire 139 = .ok (.iconst 1, 1) := by decide +kernel
theorem d_TankArenaModel_fire_140 : decode b_TankArenaModel_fire 140 = .ok (.iadd, 1) := by decide +kernel
theorem d_TankArenaModel_fire_141 : decode b_TankArenaModel_fire 141 = .ok (.putfield 150, 3) := by decide +kernel
theorem d_TankArenaModel_fire_144 : decode b_TankArenaModel_fire 144 = .ok (.aload_n 0, 1) := by decide +kernel
theorem d_TankArenaModel_fire_145 : decode b_TankArenaModel_fire 145 = .ok (.dup, 1) := by decide +kernel
theorem d_TankArenaModel_fire_146 : decode b_TankArenaModel_fire 146 = .ok (.getfield 153, 3) := by decide +kernel
theorem d_TankArenaModel_fire_149 : decode b_TankArenaModel_fire 149 = .ok (.iconst 1, 1) := by decide +kernel
theorem d_TankArenaModel_fire_150 : decode b_TankArenaModel_fire 150 = .ok (.iadd, 1) := by decide +kernel
theorem d_TankArenaModel_fire_151 : decode b_TankArenaModel_fire 151 = .ok (.putfield 153, 3) := by decide +kernel
theorem d_TankArenaModel_fire_154 : decode b_TankArenaModel_fire 154 = .ok (.return_, 1) := by decide +kernel
theorem d_TankArenaModel_fits_0 : decode b_TankArenaModel_fits 0 = .ok (.iload_n 0, 1) := by decide +kernel
theorem d_TankArenaModel_fits_1 : decode b_TankArenaModel_fits 1 = .ok (.ifCond .ne 5, 3) := by decide +kernel
theorem d_TankArenaModel_fits_4 : decode b_TankArenaModel_fits 4 = .ok (.iconst 1, 1) := by decide +kernel
theorem d_TankArenaModel_fits_5 : decode b_TankArenaModel_fits 5 = .ok (.ireturn, 1) := by decide +kernel
theorem d_TankArenaModel_fits_6 : decode b_TankArenaModel_fits 6 = .ok (.iload_n 0, 1) := by decide +kernel
theorem d_TankArenaModel_fits_7 : decode b_TankArenaModel_fits 7 = .ok (.iconst 1, 1) := by decide +kernel
theorem d_TankArenaModel_fits_8 : decode b_TankArenaModel_fits 8 = .ok (.if_icmp .ne 11, 3) := by decide +kernel
theorem d_TankArenaModel_fits_11 : decode b_TankArenaModel_fits 11 = .ok (.iload_n 1, 1) := by decide +kernel
theorem d_TankArenaModel_fits_12 : decode b_TankArenaModel_fits 12 = .ok (.iconst 0, 1) := by decide +kernel
theorem d_TankArenaModel_fits_13 : decode b_TankArenaModel_fits 13 = .ok (.bipush 8, 2) := by decide +kernel
theorem d_TankArenaModel_fits_15 : decode b_TankArenaModel_fits 15 = .ok (.invokestatic 129, 3) := by decide +kernel
theorem d_TankArenaModel_fits_18 : decode b_TankArenaModel_fits 18 = .ok (.ireturn, 1) := by decide +kernel
theorem d_TankArenaModel_fits_19 : decode b_TankArenaModel_fits 19 = .ok (.iload_n 0, 1) := by decide +kernel
theorem d_TankArenaModel_fits_20 : decode b_TankArenaModel_fits 20 = .ok (.iconst 5, 1) := by decide +kernel
theorem d_TankArenaModel_fits_21 : decode b_TankArenaModel_fits 21 = .ok (.if_icmp .ge 10, 3) := by decide +kernel
theorem d_TankArenaModel_fits_24 : decode b_TankArenaModel_fits 24 = .ok (.iload_n 1, 1) := by decide +kernel
theorem d_TankArenaModel_fits_25 : decode b_TankArenaModel_fits 25 = .ok (.iconst (-1), 1) := by decide +kernel
theorem d_TankArenaModel_fits_26 : decode b_TankArenaModel_fits 26 = .ok (.iconst 1, 1) := by decide +kernel
theorem d_TankArenaModel_fits_27 : decode b_TankArenaModel_fits 27 = .ok (.invokestatic 129, 3) := by decide +kernel
theorem d_TankArenaModel_fits_30 : decode b_TankArenaModel_fits 30 = .ok (.ireturn, 1) := by decide +kernel
theorem d_TankArenaModel_fits_31 : decode b_TankArenaModel_fits 31 = .ok (.iload_n 0, 1) := by decide +kernel
theorem d_TankArenaModel_fits_32 : decode b_TankArenaModel_fits 32 = .ok (.iconst 5, 1) := by decide +kernel
theorem d_TankArenaModel_fits_33 : decode b_TankArenaModel_fits 33 = .ok (.if_icmp .ne 10, 3) := by decide +kernel
theorem d_TankArenaModel_fits_36 : decode b_TankArenaModel_fits 36 = .ok (.iload_n 1, 1) := by decide +kernel
theorem d_TankArenaModel_fits_37 : decode b_TankArenaModel_fits 37 = .ok (.iconst 1, 1) := by decide +kernel
theorem d_TankArenaModel_fits_38 : decode b_TankArenaModel_fits 38 = .ok (.iconst 3, 1) := by decide +kernel
theorem d_TankArenaModel_fits_39 : decode b_TankArenaModel_fits 39 = .ok (.invokestatic 129, 3) := by decide +kernel
theorem d_TankArenaModel_fits_42 : decode b_TankArenaModel_fits 42 = .ok (.ireturn, 1) := by decide +kernel
theorem d_TankArenaModel_fits_43 : decode b_TankArenaModel_fits 43 = .ok (.iload_n 0, 1) := by decide +kernel
theorem d_TankArenaModel_fits_44 : decode b_TankArenaModel_fits 44 = .ok (.bipush 11, 2) := by decide +kernel
theorem d_TankArenaModel_fits_46 : decode b_TankArenaModel_fits 46 = .ok (.if_icmp .ge 11, 3) := by decide +kernel
theorem d_TankArenaModel_fits_49 : decode b_TankArenaModel_fits 49 = .ok (.iload_n 1, 1) := by decide +kernel
theorem d_TankArenaModel_fits_50 : decode b_TankArenaModel_fits 50 = .ok (.iconst 0, 1) := by decide +kernel
theorem d_TankArenaModel_fits_51 : decode b_TankArenaModel_fits 51 = .ok (.bipush 15, 2) := by decide +kernel
theorem d_TankArenaModel_fits_53 : decode b_TankArenaModel_fits 53 = .ok (.invokestatic 129, 3) := by decide +kernel
theorem d_TankArenaModel_fits_56 : decode b_TankArenaModel_fits 56 = .ok (.ireturn, 1) := by decide +kernel
theorem d_TankArenaModel_fits_57 : decode b_TankArenaModel_fits 57 = .ok (.iload_n 0, 1) := by decide +kernel
theorem d_TankArenaModel_fits_58 : decode b_TankArenaModel_fits 58 = .ok (.bipush 11, 2) := by decide +kernel
theorem d_TankArenaModel_fits_60 : decode b_TankArenaModel_fits 60 = .ok (.if_icmp .ne 30, 3) := by decide +kernel
theorem d_TankArenaModel_fits_63 : decode b_TankArenaModel_fits 63 = .ok (.iload_n 1, 1) := by decide +kernel
theorem d_TankArenaModel_fits_64 : decode b_TankArenaModel_fits 64 = .ok (.iconst 0, 1) := by decide +kernel
theorem d_TankArenaModel_fits_65 : decode b_TankArenaModel_fits 65 = .ok (.iconst 1, 1) := by decide +kernel
theorem d_TankArenaModel_fits_66 : decode b_TankArenaModel_fits 66 = .ok (.invokestatic 129, 3) := by decide +kernel
theorem d_TankArenaModel_fits_69 : decode b_TankArenaModel_fits 69 = .ok (.ifCond .eq 17, 3) := by decide +kernel
theorem d_TankArenaModel_fits_72 : decode b_TankArenaModel_fits 72 = .ok (.iload_n 2, 1) := by decide +kernel
theorem d_TankArenaModel_fits_73 : decode b_TankArenaModel_fits 73 = .ok (.iconst 0, 1) := by decide +kernel
theorem d_TankArenaModel_fits_74 : decode b_TankArenaModel_fits 74 = .ok (.bipush 100, 2) := by decide +kernel
theorem d_TankArenaModel_fits_76 : decode b_TankArenaModel_fits 76 = .ok (.invokestatic 129, 3) := by decide +kernel
theorem d_TankArenaModel_fits_79 : decode b_TankArenaModel_fits 79 = .ok (.ifCond .eq 7, 3) := by decide +kernel
theorem d_TankArenaModel_fits_82 : decode b_TankArenaModel_fits 82 = .ok (.iconst 1, 1) := by decide +kernel
theorem d_TankArenaModel_fits_83 : decode b_TankArenaModel_fits 83 = .ok (.goto 31, 3) := by decide +kernel
theorem d_TankArenaModel_fits_86 : decode b_TankArenaModel_fits 86 = .ok (.iconst 0, 1) := by decide +kernel
theorem d_TankArenaModel_fits_87 : decode b_TankArenaModel_fits 87 = .ok (.goto 27, 3) := by decide +kernel
theorem d_TankArenaModel_fits_90 : decode b_TankArenaModel_fits 90 = .ok (.iload_n 1, 1) := by decide +kernel
theorem d_TankArenaModel_fits_91 : decode b_TankArenaModel_fits 91 = .ok (.iconst 0, 1) := by decide +kernel
theorem d_TankArenaModel_fits_92 : decode b_TankArenaModel_fits 92 = .ok (.bipush 15, 2) := by decide +kernel
theorem d_TankArenaModel_fits_94 : decode b_TankArenaModel_fits 94 = .ok (.invokestatic 129, 3) := by decide +kernel
theorem d_TankArenaModel_fits_97 : decode b_TankArenaModel_fits 97 = .ok (.ifCond .eq 16, 3) := by decide +kernel
theorem d_TankArenaModel_fits_100 : decode b_TankArenaModel_fits 100 = .ok (.iload_n 2, 1) := by decide +kernel
theorem d_TankArenaModel_fits_101 : decode b_TankArenaModel_fits 101 = .ok (.iconst 0, 1) := by decide +kernel
theorem d_TankArenaModel_fits_102 : decode b_TankArenaModel_fits 102 = .ok (.iconst 1, 1) := by decide +kernel
theorem d_TankArenaModel_fits_103 : decode b_TankArenaModel_fits 103 = .ok (.invokestatic 129, 3) := by decide +kernel
theorem d_TankArenaModel_fits_106 : decode b_TankArenaModel_fits 106 = .ok (.ifCond .eq 7, 3) := by decide +kernel
theorem d_TankArenaModel_fits_109 : decode b_TankArenaModel_fits 109 = .ok (.iconst 1, 1) := by decide +kernel
theorem d_TankArenaModel_fits_110 : decode b_TankArenaModel_fits 110 = .ok (.goto 4, 3) := by decide +kernel
theorem d_TankArenaModel_fits_113 : decode b_TankArenaModel_fits 113 = .ok (.iconst 0, 1) := by decide +kernel
theorem d_TankArenaModel_fits_114 : decode b_TankArenaModel_fits 114 = .ok (.ireturn, 1) := by decide +kernel
theorem d_TankArenaModel_fly_0 : decode b_TankArenaModel_fly 0 = .ok (.iconst 0, 1) := by decide +kernel
theorem d_TankArenaModel_fly_1 : decode b_TankArenaModel_fly 1 = .ok (.istore_n 2, 1) := by decide +kernel
theorem d_TankArenaModel_fly_2 : decode b_TankArenaModel_fly 2 = .ok (.iload_n 2, 1) := by decide +kernel
theorem d_TankArenaModel_fly_3 : decode b_TankArenaModel_fly 3 = .ok (.bipush 8, 2) := by decide +kernel
theorem d_TankArenaModel_fly_5 : decode b_TankArenaModel_fly 5 = .ok (.aload_n 0, 1) := by decide +kernel
theorem d_TankArenaModel_fly_6 : decode b_TankArenaModel_fly 6 = .ok (.getfield 98, 3) := by decide +kernel
theorem d_TankArenaModel_fly_9 : decode b_TankArenaModel_fly 9 = .ok (.iload_n 1, 1) := by decide +kernel
theorem d_TankArenaModel_fly_10 : decode b_TankArenaModel_fly 10 = .ok (.iaload, 1) := by decide +kernel
theorem d_TankArenaModel_fly_11 : decode b_TankArenaModel_fly 11 = .ok (.isub, 1) := by decide +kernel
theorem d_TankArenaModel_fly_12 : decode b_TankArenaModel_fly 12 = .ok (.if_icmp .ge 127, 3) := by decide +kernel
theorem d_TankArenaModel_fly_15 : decode b_TankArenaModel_fly 15 = .ok (.aload_n 0, 1) := by decide +kernel
theorem d_TankArenaModel_fly_16 : decode b_TankArenaModel_fly 16 = .ok (.getfield 107, 3) := by decide +kernel
theorem d_TankArenaModel_fly_19 : decode b_TankArenaModel_fly 19 = .ok (.iload_n 1, 1) := by decide +kernel
theorem d_TankArenaModel_fly_20 : decode b_TankArenaModel_fly 20 = .ok (.baload, 1) := by decide +kernel
theorem d_TankArenaModel_fly_21 : decode b_TankArenaModel_fly 21 = .ok (.ifCond .ne 118, 3) := by decide +kernel
theorem d_TankArenaModel_fly_24 : decode b_TankArenaModel_fly 24 = .ok (.aload_n 0, 1) := by decide +kernel
theorem d_TankArenaModel_fly_25 : decode b_TankArenaModel_fly 25 = .ok (.getfield 92, 3) := by decide +kernel
theorem d_TankArenaModel_fly_28 : decode b_TankArenaModel_fly 28 = .ok (.iload_n 1, 1) := by decide +kernel
theorem d_TankArenaModel_fly_29 : decode b_TankArenaModel_fly 29 = .ok (.dup2, 1) := by decide +kernel
theorem d_TankArenaModel_fly_30 : decode b_TankArenaModel_fly 30 = .ok (.iaload, 1) := by decide +kernel
theorem d_TankArenaModel_fly_31 : decode b_TankArenaModel_fly 31 = .ok (.bipush 8, 2) := by decide +kernel
theorem d_TankArenaModel_fly_33 : decode b_TankArenaModel_fly 33 = .ok (.aload_n 0, 1) := by decide +kernel
theorem d_TankArenaModel_fly_34 : decode b_TankArenaModel_fly 34 = .ok (.getfield 101, 3) := by decide +kernel
theorem d_TankArenaModel_fly_37 : decode b_TankArenaModel_fly 37 = .ok (.iload_n 1, 1) := by decide +kernel
theorem d_TankArenaModel_fly_38 : decode b_TankArenaModel_fly 38 = .ok (.iaload, 1) := by decide +kernel
theorem d_TankArenaModel_fly_39 : decode b_TankArenaModel_fly 39 = .ok (.invokestatic 162, 3) := by decide +kernel
theorem d_TankArenaModel_fly_42 : decode b_TankArenaModel_fly 42 = .ok (.imul, 1) := by decide +kernel
theorem d_TankArenaModel_fly_43 : decode b_TankArenaModel_fly 43 = .ok (.iadd, 1) := by decide +kernel
theorem d_TankArenaModel_fly_44 : decode b_TankArenaModel_fly 44 = .ok (.iastore, 1) := by decide +kernel
theorem d_TankArenaModel_fly_45 : decode b_TankArenaModel_fly 45 = .ok (.aload_n 0, 1) := by decide +kernel
theorem d_TankArenaModel_fly_46 : decode b_TankArenaModel_fly 46 = .ok (.getfield 95, 3) := by decide +kernel
theorem d_TankArenaModel_fly_49 : decode b_TankArenaModel_fly 49 = .ok (.iload_n 1, 1) := by decide +kernel
theorem d_TankArenaModel_fly_50 : decode b_TankArenaModel_fly 50 = .ok (.dup2, 1) := by decide +kernel
theorem d_TankArenaModel_fly_51 : decode b_TankArenaModel_fly 51 = .ok (.iaload, 1) := by decide +kernel
theorem d_TankArenaModel_fly_52 : decode b_TankArenaModel_fly 52 = .ok (.bipush 8, 2) := by decide +kernel
theorem d_TankArenaModel_fly_54 : decode b_TankArenaModel_fly 54 = .ok (.aload_n 0, 1) := by decide +kernel
theorem d_TankArenaModel_fly_55 : decode b_TankArenaModel_fly 55 = .ok (.getfield 101, 3) := by decide +kernel
theorem d_TankArenaModel_fly_58 : decode b_TankArenaModel_fly 58 = .ok (.iload_n 1, 1) := by decide +kernel
theorem d_TankArenaModel_fly_59 : decode b_TankArenaModel_fly 59 = .ok (.iaload, 1) := by decide +kernel
theorem d_TankArenaModel_fly_60 : decode b_TankArenaModel_fly 60 = .ok (.invokestatic 165, 3) := by decide +kernel
theorem d_TankArenaModel_fly_63 : decode b_TankArenaModel_fly 63 = .ok (.imul, 1) := by decide +kernel
theorem d_TankArenaModel_fly_64 : decode b_TankArenaModel_fly 64 = .ok (.iadd, 1) := by decide +kernel
theorem d_TankArenaModel_fly_65 : decode b_TankArenaModel_fly 65 = .ok (.iastore, 1) := by decide +kernel
theorem d_TankArenaModel_fly_66 : decode b_TankArenaModel_fly 66 = .ok (.aload_n 0, 1) := by decide +kernel
theorem d_TankArenaModel_fly_67 : decode b_TankArenaModel_fly 67 = .ok (.getfield 92, 3) := by decide +kernel
theorem d_TankArenaModel_fly_70 : decode b_TankArenaModel_fly 70 = .ok (.iload_n 1, 1) := by decide +kernel
theorem d_TankArenaModel_fly_71 : decode b_TankArenaModel_fly 71 = .ok (.iaload, 1) := by decide +kernel
theorem d_TankArenaModel_fly_72 : decode b_TankArenaModel_fly 72 = .ok (.ifCond .lt 36, 3) := by decide +kernel
theorem d_TankArenaModel_fly_75 : decode b_TankArenaModel_fly 75 = .ok (.aload_n 0, 1) := by decide +kernel
theorem d_TankArenaModel_fly_76 : decode b_TankArenaModel_fly 76 = .ok (.getfield 95, 3) := by decide +kernel
theorem d_TankArenaModel_fly_79 : decode b_TankArenaModel_fly 79 = .ok (.iload_n 1, 1) := by decide +kernel
theorem d_TankArenaModel_fly_80 : decode b_TankArenaModel_fly 80 = .ok (.iaload, 1) := by decide +kernel
theorem d_TankArenaModel_fly_81 : decode b_TankArenaModel_fly 81 = .ok (.ifCond .lt 27, 3) := by decide +kernel
theorem d_TankArenaModel_fly_84 : decode b_TankArenaModel_fly 84 = .ok (.aload_n 0, 1) := by decide +kernel
theorem d_TankArenaModel_fly_85 : decode b_TankArenaModel_fly 85 = .ok (.getfield 92, 3) := by decide +kernel
theorem d_TankArenaModel_fly_88 : decode b_TankArenaModel_fly 88 = .ok (.iload_n 1, 1) := by decide +kernel
theorem d_TankArenaModel_fly_89 : decode b_TankArenaModel_fly 89 = .ok (.iaload, 1) := by decide +kernel
theorem d_TankArenaModel_fly_90 : decode b_TankArenaModel_fly 90 = .ok (.sipush 512, 3) := by decide +kernel
theorem d_TankArenaModel_fly_93 : decode b_TankArenaModel_fly 93 = .ok (.if_icmp .gt 15, 3) := by decide +kernel
theorem d_TankArenaModel_fly_96 : decode b_TankArenaModel_fly 96 = .ok (.aload_n 0, 1) := by decide +kernel
theorem d_TankArenaModel_fly_97 : decode b_TankArenaModel_fly 97 = .ok (.getfield 95, 3) := by decide +kernel
theorem d_TankArenaModel_fly_100 : decode b_TankArenaModel_fly 100 = .ok (.iload_n 1, 1) := by decide +kernel
theorem d_TankArenaModel_fly_101 : decode b_TankArenaModel_fly 101 = .ok (.iaload, 1) := by decide +kernel
theorem d_TankArenaModel_fly_102 : decode b_TankArenaModel_fly 102 = .ok (.sipush 512, 3) := by decide +kernel
theorem d_TankArenaModel_fly_105 : decode b_TankArenaModel_fly 105 = .ok (.if_icmp .le 11, 3) := by decide +kernel
theorem d_TankArenaModel_fly_108 : decode b_TankArenaModel_fly 108 = .ok (.aload_n 0, 1) := by decide +kernel
theorem d_TankArenaModel_fly_109 : decode b_TankArenaModel_fly 109 = .ok (.getfield 107, 3) := by decide +kernel
theorem d_TankArenaModel_fly_112 : decode b_TankArenaModel_fly 112 = .ok (.iload_n 1, 1) := by decide +kernel
theorem d_TankArenaModel_fly_113 : decode b_TankArenaModel_fly 113 = .ok (.iconst 1, 1) := by decide +kernel
theorem d_TankArenaModel_fly_114 : decode b_TankArenaModel_fly 114 = .ok (.bastore, 1) := by decide +kernel
theorem d_TankArenaModel_fly_115 : decode b_TankArenaModel_fly 115 = .ok (.return_, 1) := by decide +kernel
theorem d_TankArenaModel_fly_116 : decode b_TankArenaModel_fly 116 = .ok (.aload_n 0, 1) := by decide +kernel
theorem d_TankArenaModel_fly_117 : decode b_TankArenaModel_fly 117 = .ok (.iload_n 1, 1) := by decide +kernel
theorem d_TankArenaModel_fly_118 : decode b_TankArenaModel_fly 118 = .ok (.invokevirtual 168, 3) := by decide +kernel
theorem d_TankArenaModel_fly_121 : decode b_TankArenaModel_fly 121 = .ok (.istore_n 3, 1) := by decide +kernel
theorem d_TankArenaModel_fly_122 : decode b_TankArenaModel_fly 122 = .ok (.iload_n 3, 1) := by decide +kernel
theorem d_TankArenaModel_fly_123 : decode b_TankArenaModel_fly 123 = .ok (.iconst 4, 1) := by decide +kernel
theorem d_TankArenaModel_fly_124 : decode b_TankArenaModel_fly 124 = .ok (.if_icmp .ge 9, 3) := by decide +kernel
theorem d_TankArenaModel_fly_127 : decode b_TankArenaModel_fly 127 = .ok (.aload_n 0, 1) := by decide +kernel
theorem d_TankArenaModel_fly_128 : decode b_TankArenaModel_fly 128 = .ok (.iload_n 1, 1) := by decide +kernel
theorem d_TankArenaModel_fly_129 : decode b_TankArenaModel_fly 129 = .ok (.iload_n 3, 1) := by decide +kernel
theorem d_TankArenaModel_fly_130 : decode b_TankArenaModel_fly 130 = .ok (.invokevirtual 171, 3) := by decide +kernel
theorem d_TankArenaModel_fly_133 : decode b_TankArenaModel_fly 133 = .ok (.iinc 2 1, 3) := by decide +kernel
theorem d_TankArenaModel_fly_136 : decode b_TankArenaModel_fly 136 = .ok (.goto (-134), 3) := by decide +kernel
theorem d_TankArenaModel_fly_139 : decode b_TankArenaModel_fly 139 = .ok (.return_, 1) := by decide +kernel
theorem d_TankArenaModel_forget_0 : decode b_TankArenaModel_forget 0 = .ok (.aload_n 0, 1) := by decide +kernel
theorem d_TankArenaModel_forget_1 : decode b_TankArenaModel_forget 1 = .ok (.getfield 74, 3) := by decide +kernel
theorem d_TankArenaModel_forget_4 : decode b_TankArenaModel_forget 4 = .ok (.iload_n 1, 1) := by decide +kernel
theorem d_TankArenaModel_forget_5 : decode b_TankArenaModel_forget 5 = .ok (.iconst 0, 1) := by decide +kernel
theorem d_TankArenaModel_forget_6 : decode b_TankArenaModel_forget 6 = .ok (.bastore, 1) := by decide +kernel
theorem d_TankArenaModel_forget_7 : decode b_TankArenaModel_forget 7 = .ok (.aload_n 0, 1) := by decide +kernel
theorem d_TankArenaModel_forget_8 : decode b_TankArenaModel_forget 8 = .ok (.getfield 77, 3) := by decide +kernel
theorem d_TankArenaModel_forget_11 : decode b_TankArenaModel_forget 11 = .ok (.iload_n 1, 1) := by decide +kernel
theorem d_TankArenaModel_forget_12 : decode b_TankArenaModel_forget 12 = .ok (.iconst 0, 1) := by decide +kernel
theorem d_TankArenaModel_forget_13 : decode b_TankArenaModel_forget 13 = .ok (.bastore, 1) := by decide +kernel
theorem d_TankArenaModel_forget_14 : decode b_TankArenaModel_forget 14 = .ok (.aload_n 0, 1) := by decide +kernel
theorem d_TankArenaModel_forget_15 : decode b_TankArenaModel_forget 15 = .ok (.getfield 80, 3) := by decide +kernel
theorem d_TankArenaModel_forget_18 : decode b_TankArenaModel_forget 18 = .ok (.iload_n 1, 1) := by decide +kernel
theorem d_TankArenaModel_forget_19 : decode b_TankArenaModel_forget 19 = .ok (.iconst 4, 1) := by decide +kernel
theorem d_TankArenaModel_forget_20 : decode b_TankArenaModel_forget 20 = .ok (.iastore, 1) := by decide +kernel
theorem d_TankArenaModel_forget_21 : decode b_TankArenaModel_forget 21 = .ok (.aload_n 0, 1) := by decide +kernel
theorem d_TankArenaModel_forget_22 : decode b_TankArenaModel_forget 22 = .ok (.getfield 83, 3) := by decide +kernel
theorem d_TankArenaModel_forget_25 : decode b_TankArenaModel_forget 25 = .ok (.iload_n 1, 1) := by decide +kernel
theorem d_TankArenaModel_forget_26 : decode b_TankArenaModel_forget 26 = .ok (.iconst 0, 1) := by decide +kernel
theorem d_TankArenaModel_forget_27 : decode b_TankArenaModel_forget 27 = .ok (.iastore, 1) := by decide +kernel
theorem d_TankArenaModel_forget_28 : decode b_TankArenaModel_forget 28 = .ok (.return_, 1) := by decide +kernel
theorem d_TankArenaModel_in_0 : decode b_TankArenaModel_in 0 = .ok (.iload_n 0, 1) := by decide +kernel
theorem d_TankArenaModel_in_1 : decode b_TankArenaModel_in 1 = .ok (.iload_n 1, 1) := by decide +kernel
theorem d_TankArenaModel_in_2 : decode b_TankArenaModel_in 2 = .ok (.if_icmp .lt 12, 3) := by decide +kernel
theorem d_TankArenaModel_in_5 : decode b_TankArenaModel_in 5 = .ok (.iload_n 0, 1) := by decide +kernel
theorem d_TankArenaModel_in_6 : decode b_TankArenaModel_in 6 = .ok (.iload_n 2, 1) := by decide +kernel
theorem d_TankArenaModel_in_7 : decode b_TankArenaModel_in 7 = .ok (.if_icmp .gt 7, 3) := by decide +kernel
theorem d_TankArenaModel_in_10 : decode b_TankArenaModel_in 10 = .ok (.iconst 1, 1) := by decide +kernel
theorem d_TankArenaModel_in_11 : decode b_TankArenaModel_in 11 = .ok (.goto 4, 3) := by decide +kernel
theorem d_TankArenaModel_in_14 : decode b_TankArenaModel_in 14 = .ok (.iconst 0, 1) := by decide +kernel
theorem d_TankArenaModel_in_15 : decode b_TankArenaModel_in 15 = .ok (.ireturn, 1) := by decide +kernel
theorem d_TankArenaModel_instr_0 : decode b_TankArenaModel_instr 0 = .ok (.iload_n 1, 1) := by decide +kernel
theorem d_TankArenaModel_instr_1 : decode b_TankArenaModel_instr 1 = .ok (.ifCond .lt 49, 3) := by decide +kernel
theorem d_TankArenaModel_instr_4 : decode b_TankArenaModel_instr 4 = .ok (.iload_n 1, 1) := by decide +kernel
theorem d_TankArenaModel_instr_5 : decode b_TankArenaModel_instr 5 = .ok (.aload_n 0, 1) := by decide +kernel
theorem d_TankArenaModel_instr_6 : decode b_TankArenaModel_instr 6 = .ok (.getfield 122, 3) := by decide +kernel
theorem d_TankArenaModel_instr_9 : decode b_TankArenaModel_instr 9 = .ok (.if_icmp .ge 41, 3) := by decide +kernel
theorem d_TankArenaModel_instr_12 : decode b_TankArenaModel_instr 12 = .ok (.aload_n 0, 1) := by decide +kernel
theorem d_TankArenaModel_instr_13 : decode b_TankArenaModel_instr 13 = .ok (.getfield 118, 3) := by decide +kernel
theorem d_TankArenaModel_instr_16 : decode b_TankArenaModel_instr 16 = .ok (.ifCond .gt 34, 3) := by decide +kernel
theorem d_TankArenaModel_instr_19 : decode b_TankArenaModel_instr 19 = .ok (.iload_n 2, 1) := by decide +kernel
theorem d_TankArenaModel_instr_20 : decode b_TankArenaModel_instr 20 = .ok (.iconst 0, 1) := by decide +kernel
theorem d_TankArenaModel_instr_21 : decode b_TankArenaModel_instr 21 = .ok (.bipush 12, 2) := by decide +kernel
theorem d_TankArenaModel_instr_23 : decode b_TankArenaModel_instr 23 = .ok (.invokestatic 129, 3) := by decide +kernel
theorem d_TankArenaModel_instr_26 : decode b_TankArenaModel_instr 26 = .ok (.ifCond .eq 24, 3) := by decide +kernel
theorem d_TankArenaModel_instr_29 : decode b_TankArenaModel_instr 29 = .ok (.iload_n 2, 1) := by decide +kernel
theorem d_TankArenaModel_instr_30 : decode b_TankArenaModel_instr 30 = .ok (.iload_n 3, 1) := by decide +kernel
theorem d_TankArenaModel_instr_31 : decode b_TankArenaModel_instr 31 = .ok (.iload 4, 2) := by decide +kernel
theorem d_TankArenaModel_instr_33 : decode b_TankArenaModel_instr 33 = .ok (.invokestatic 133, 3) := by decide +kernel
theorem d_TankArenaModel_instr_36 : decode b_TankArenaModel_instr 36 = .ok (.ifCond .eq 14, 3) := by decide +kernel
theorem d_TankArenaModel_instr_39 : decode b_TankArenaModel_instr 39 = .ok (.aload_n 0, 1) := by decide +kernel
theorem d_TankArenaModel_instr_40 : decode b_TankArenaModel_instr 40 = .ok (.getfield 19, 3) := by decide +kernel
theorem d_TankArenaModel_instr_43 : decode b_TankArenaModel_instr 43 = .ok (.iload_n 1, 1) := by decide +kernel
theorem d_TankArenaModel_instr_44 : decode b_TankArenaModel_instr 44 = .ok (.iaload, 1) := by decide +kernel
theorem d_TankArenaModel_instr_45 : decode b_TankArenaModel_instr 45 = .ok (.bipush 16, 2) := by decide +kernel
theorem d_TankArenaModel_instr_47 : decode b_TankArenaModel_instr 47 = .ok (.if_icmp .ne 6, 3) := by decide +kernel
theorem d_TankArenaModel_instr_50 : decode b_TankArenaModel_instr 50 = .ok (.ldc 125, 2) := by decide +kernel
theorem d_TankArenaModel_instr_52 : decode b_TankArenaModel_instr 52 = .ok (.ireturn, 1) := by decide +kernel
theorem d_TankArenaModel_instr_53 : decode b_TankArenaModel_instr 53 = .ok (.bipush 16, 2) := by decide +kernel
theorem d_TankArenaModel_instr_55 : decode b_TankArenaModel_instr 55 = .ok (.iload_n 1, 1) := by decide +kernel
theorem d_TankArenaModel_instr_56 : decode b_TankArenaModel_instr 56 = .ok (.imul, 1) := by decide +kernel
theorem d_TankArenaModel_instr_57 : decode b_TankArenaModel_instr 57 = .ok (.aload_n 0, 1) := by decide +kernel
theorem d_TankArenaModel_instr_58 : decode b_TankArenaModel_instr 58 = .ok (.getfield 19, 3) := by decide +kernel
theorem d_TankArenaModel_instr_61 : decode b_TankArenaModel_instr 61 = .ok (.iload_n 1, 1) := by decide +kernel
theorem d_TankArenaModel_instr_62 : decode b_TankArenaModel_instr 62 = .ok (.iaload, 1) := by decide +kernel
theorem d_TankArenaModel_instr_63 : decode b_TankArenaModel_instr 63 = .ok (.iadd, 1) := by decide +kernel
theorem d_TankArenaModel_instr_64 : decode b_TankArenaModel_instr 64 = .ok (.istore 5, 2) := by decide +kernel
theorem d_TankArenaModel_instr_66 : decode b_TankArenaModel_instr 66 = .ok (.aload_n 0, 1) := by decide +kernel
theorem d_TankArenaModel_instr_67 : decode b_TankArenaModel_instr 67 = .ok (.getfield 22, 3) := by decide +kernel
theorem d_TankArenaModel_instr_70 : decode b_TankArenaModel_instr 70 = .ok (.iload 5, 2) := by decide +kernel
theorem d_TankArenaModel_instr_72 : decode b_TankArenaModel_instr 72 = .ok (.iload_n 2, 1) := by decide +kernel
theorem d_TankArenaModel_instr_73 : decode b_TankArenaModel_instr 73 = .ok (.iastore, 1) := by decide +kernel
theorem d_TankArenaModel_instr_74 : decode b_TankArenaModel_instr 74 = .ok (.aload_n 0, 1) := by decide +kernel
theorem d_TankArenaModel_instr_75 : decode b_TankArenaModel_instr 75 = .ok (.getfield 25, 3) := by decide +kernel
theorem d_TankArenaModel_instr_78 : decode b_TankArenaModel_instr 78 = .ok (.iload 5, 2) := by decide +kernel
theorem d_TankArenaModel_instr_80 : decode b_TankArenaModel_instr 80 = .ok (.iload_n 3, 1) := by decide +kernel
theorem d_TankArenaModel_instr_81 : decode b_TankArenaModel_instr 81 = .ok (.iastore, 1) := by decide +kernel
theorem d_TankArenaModel_instr_82 : decode b_TankArenaModel_instr 82 = .ok (.aload_n 0, 1) := by decide +kernel
theorem d_TankArenaModel_instr_83 : decode b_TankArenaModel_instr 83 = .ok (.getfield 28, 3) := by decide +kernel
theorem d_TankArenaModel_instr_86 : decode b_TankArenaModel_instr 86 = .ok (.iload 5, 2) := by decide +kernel
theorem d_TankArenaModel_instr_88 : decode b_TankArenaModel_instr 88 = .ok (.iload 4, 2) := by decide +kernel
theorem d_TankArenaModel_instr_90 : decode b_TankArenaModel_instr 90 = .ok (.iastore, 1) := by decide +kernel
theorem d_TankArenaModel_instr_91 : decode b_TankArenaModel_instr 91 = .ok (.aload_n 0, 1) := by decide +kernel
theorem d_TankArenaModel_instr_92 : decode b_TankArenaModel_instr 92 = .ok (.getfield 19, 3) := by decide +kernel
theorem d_TankArenaModel_instr_95 : decode b_TankArenaModel_instr 95 = .ok (.iload_n 1, 1) := by decide +kernel
theorem d_TankArenaModel_instr_96 : decode b_TankArenaModel_instr 96 = .ok (.dup2, 1) := by decide +kernel
theorem d_TankArenaModel_instr_97 : decode b_TankArenaModel_instr 97 = .ok (.iaload, 1) := by decide +kernel
theorem d_TankArenaModel_instr_98 : decode b_TankArenaModel_instr 98 = .ok (.iconst 1, 1) := by decide +kernel
theorem d_TankArenaModel_instr_99 : decode b_TankArenaModel_instr 99 = .ok (.iadd, 1) := by decide +kernel
theorem d_TankArenaModel_instr_100 : decode b_TankArenaModel_instr 100 = .ok (.iastore, 1) := by decide +kernel
theorem d_TankArenaModel_instr_101 : decode b_TankArenaModel_instr 101 = .ok (.aload_n 0, 1) := by decide +kernel
theorem d_TankArenaModel_instr_102 : decode b_TankArenaModel_instr 102 = .ok (.getfield 19, 3) := by decide +kernel
theorem d_TankArenaModel_instr_105 : decode b_TankArenaModel_instr 105 = .ok (.iload_n 1, 1) := by decide +kernel
theorem d_TankArenaModel_instr_106 : decode b_TankArenaModel_instr 106 = .ok (.iaload, 1) := by decide +kernel
theorem d_TankArenaModel_instr_107 : decode b_TankArenaModel_instr 107 = .ok (.ireturn, 1) := by decide +kernel
theorem d_TankArenaModel_jumps_0 : decode b_TankArenaModel_jumps 0 = .ok (.iload_n 2, 1) := by decide +kernel
theorem d_TankArenaModel_jumps_1 : decode b_TankArenaModel_jumps 1 = .ok (.tableswitch 172 6 12 #[43, 45, 61, 68, 75, 172, 139], 43) := by decide +kernel
theorem d_TankArenaModel_jumps_44 : decode b_TankArenaModel_jumps 44 = .ok (.iconst 1, 1) := by decide +kernel
theorem d_TankArenaModel_jumps_45 : decode b_TankArenaModel_jumps 45 = .ok (.ireturn, 1) := by decide +kernel
theorem d_TankArenaModel_jumps_46 : decode b_TankArenaModel_jumps 46 = .ok (.aload_n 0, 1) := by decide +kernel
theorem d_TankArenaModel_jumps_47 : decode b_TankArenaModel_jumps 47 = .ok (.getfield 80, 3) := by decide +kernel
theorem d_TankArenaModel_jumps_50 : decode b_TankArenaModel_jumps 50 = .ok (.iload_n 1, 1) := by decide +kernel
theorem d_TankArenaModel_jumps_51 : decode b_TankArenaModel_jumps 51 = .ok (.iaload, 1) := by decide +kernel
theorem d_TankArenaModel_jumps_52 : decode b_TankArenaModel_jumps 52 = .ok (.iconst 4, 1) := by decide +kernel
theorem d_TankArenaModel_jumps_53 : decode b_TankArenaModel_jumps 53 = .ok (.if_icmp .ge 7, 3) := by decide +kernel
theorem d_TankArenaModel_jumps_56 : decode b_TankArenaModel_jumps 56 = .ok (.iconst 1, 1) := by decide +kernel
theorem d_TankArenaModel_jumps_57 : decode b_TankArenaModel_jumps 57 = .ok (.goto 4, 3) := by decide +kernel
theorem d_TankArenaModel_jumps_60 : decode b_TankArenaModel_jumps 60 = .ok (.iconst 0, 1) := by decide +kernel
theorem d_TankArenaModel_jumps_61 : decode b_TankArenaModel_jumps 61 = .ok (.ireturn, 1) := by decide +kernel
theorem d_TankArenaModel_jumps_62 : decode b_TankArenaModel_jumps 62 = .ok (.aload_n 0, 1) := by decide +kernel
theorem d_TankArenaModel_jumps_63 : decode b_TankArenaModel_jumps 63 = .ok (.getfield 74, 3) := by decide +kernel
theorem d_TankArenaModel_jumps_66 : decode b_TankArenaModel_jumps 66 = .ok (.iload_n 1, 1) := by decide +kernel
theorem d_TankArenaModel_jumps_67 : decode b_TankArenaModel_jumps 67 = .ok (.baload, 1) := by decide +kernel
theorem d_TankArenaModel_jumps_68 : decode b_TankArenaModel_jumps 68 = .ok (.ireturn, 1) := by decide +kernel
theorem d_TankArenaModel_jumps_69 : decode b_TankArenaModel_jumps 69 = .ok (.aload_n 0, 1) := by decide +kernel
theorem d_TankArenaModel_jumps_70 : decode b_TankArenaModel_jumps 70 = .ok (.getfield 77, 3) := by decide +kernel
theorem d_TankArenaModel_jumps_73 : decode b_TankArenaModel_jumps 73 = .ok (.iload_n 1, 1) := by decide +kernel
theorem d_TankArenaModel_jumps_74 : decode b_TankArenaModel_jumps 74 = .ok (.baload, 1) := by decide +kernel
theorem d_TankArenaModel_jumps_75 : decode b_TankArenaModel_jumps 75 = .ok (.ireturn, 1) := by decide +kernel
theorem d_TankArenaModel_jumps_76 : decode b_TankArenaModel_jumps 76 = .ok (.aload_n 0, 1) := by decide +kernel
theorem d_TankArenaModel_jumps_77 : decode b_TankArenaModel_jumps 77 = .ok (.getfield 80, 3) := by decide +kernel
theorem d_TankArenaModel_jumps_80 : decode b_TankArenaModel_jumps 80 = .ok (.iload_n 1, 1) := by decide +kernel
theorem d_TankArenaModel_jumps_81 : decode b_TankArenaModel_jumps 81 = .ok (.iaload, 1) := by decide +kernel
theorem d_TankArenaModel_jumps_82 : decode b_TankArenaModel_jumps 82 = .ok (.iconst 4, 1) := by decide +kernel
theorem d_TankArenaModel_jumps_83 : decode b_TankArenaModel_jumps 83 = .ok (.if_icmp .ge 55, 3) := by decide +kernel
theorem d_TankArenaModel_jumps_86 : decode b_TankArenaModel_jumps 86 = .ok (.aload_n 0, 1) := by decide +kernel
theorem d_TankArenaModel_jumps_87 : decode b_TankArenaModel_jumps 87 = .ok (.getfield 31, 3) := by decide +kernel
theorem d_TankArenaModel_jumps_90 : decode b_TankArenaModel_jumps 90 = .ok (.aload_n 0, 1) := by decide +kernel
theorem d_TankArenaModel_jumps_91 : decode b_TankArenaModel_jumps 91 = .ok (.getfield 80, 3) := by decide +kernel
theorem d_TankArenaModel_jumps_94 : decode b_TankArenaModel_jumps 94 = .ok (.iload_n 1, 1) := by decide +kernel
theorem d_TankArenaModel_jumps_95 : decode b_TankArenaModel_jumps 95 = .ok (.iaload, 1) := by decide +kernel
theorem d_TankArenaModel_jumps_96 : decode b_TankArenaModel_jumps 96 = .ok (.iaload, 1) := by decide +kernel
theorem d_TankArenaModel_jumps_97 : decode b_TankArenaModel_jumps 97 = .ok (.aload_n 0, 1) := by decide +kernel
theorem d_TankArenaModel_jumps_98 : decode b_TankArenaModel_jumps 98 = .ok (.getfield 31, 3) := by decide +kernel
theorem d_TankArenaModel_jumps_101 : decode b_TankArenaModel_jumps 101 = .ok (.iload_n 1, 1) := by decide +kernel
theorem d_TankArenaModel_jumps_102 : decode b_TankArenaModel_jumps 102 = .ok (.iaload, 1) := by decide +kernel
theorem d_TankArenaModel_jumps_103 : decode b_TankArenaModel_jumps 103 = .ok (.isub, 1) := by decide +kernel
theorem d_TankArenaModel_jumps_104 : decode b_TankArenaModel_jumps 104 = .ok (.aload_n 0, 1) := by decide +kernel
theorem d_TankArenaModel_jumps_105 : decode b_TankArenaModel_jumps 105 = .ok (.getfield 34, 3) := by decide +kernel
theorem d_TankArenaModel_jumps_108 : decode b_TankArenaModel_jumps 108 = .ok (.aload_n 0, 1) := by decide +kernel
theorem d_TankArenaModel_jumps_109 : decode b_TankArenaModel_jumps 109 = .ok (.getfield 80, 3) := by decide +kernel
theorem d_TankArenaModel_jumps_112 : decode b_TankArenaModel_jumps 112 = .ok (.iload_n 1, 1) := by decide +kernel
theorem d_TankArenaModel_jumps_113 : decode b_TankArenaModel_jumps 113 = .ok (.iaload, 1) := by decide +kernel
theorem d_TankArenaModel_jumps_114 : decode b_TankArenaModel_jumps 114 = .ok (.iaload, 1) := by decide +kernel
theorem d_TankArenaModel_jumps_115 : decode b_TankArenaModel_jumps 115 = .ok (.aload_n 0, 1) := by decide +kernel
theorem d_TankArenaModel_jumps_116 : decode b_TankArenaModel_jumps 116 = .ok (.getfield 34, 3) := by decide +kernel
theorem d_TankArenaModel_jumps_119 : decode b_TankArenaModel_jumps 119 = .ok (.iload_n 1, 1) := by decide +kernel
theorem d_TankArenaModel_jumps_120 : decode b_TankArenaModel_jumps 120 = .ok (.iaload, 1) := by decide +kernel
theorem d_TankArenaModel_jumps_121 : decode b_TankArenaModel_jumps 121 = .ok (.isub, 1) := by decide +kernel
theorem d_TankArenaModel_jumps_122 : decode b_TankArenaModel_jumps 122 = .ok (.invokestatic 136, 3) := by decide +kernel
theorem d_TankArenaModel_jumps_125 : decode b_TankArenaModel_jumps 125 = .ok (.aload_n 0, 1) := by decide +kernel
theorem d_TankArenaModel_jumps_126 : decode b_TankArenaModel_jumps 126 = .ok (.getfield 40, 3) := by decide +kernel
theorem d_TankArenaModel_jumps_129 : decode b_TankArenaModel_jumps 129 = .ok (.iload_n 1, 1) := by decide +kernel
theorem d_TankArenaModel_jumps_130 : decode b_TankArenaModel_jumps 130 = .ok (.iaload, 1) := by decide +kernel
theorem d_TankArenaModel_jumps_131 : decode b_TankArenaModel_jumps 131 = .ok (.if_icmp .ne 7, 3) := by decide +kernel
theorem d_TankArenaModel_jumps_134 : decode b_TankArenaModel_jumps 134 = .ok (.iconst 1, 1) := by decide +kernel
theorem d_TankArenaModel_jumps_135 : decode b_TankArenaModel_jumps 135 = .ok (.goto 4, 3) := by decide +kernel
theorem d_TankArenaModel_jumps_138 : decode b_TankArenaModel_jumps 138 = .ok (.iconst 0, 1) := by decide +kernel
theorem d_TankArenaModel_jumps_139 : decode b_TankArenaModel_jumps 139 = .ok (.ireturn, 1) := by decide +kernel
theorem d_TankArenaModel_jumps_140 : decode b_TankArenaModel_jumps 140 = .ok (.aload_n 0, 1) := by decide +kernel
theorem d_TankArenaModel_jumps_141 : decode b_TankArenaModel_jumps 141 = .ok (.getfield 61, 3) := by decide +kernel
theorem d_TankArenaModel_jumps_144 : decode b_TankArenaModel_jumps 144 = .ok (.iconst 2, 1) := by decide +kernel
theorem d_TankArenaModel_jumps_145 : decode b_TankArenaModel_jumps 145 = .ok (.iload_n 1, 1) := by decide +kernel
theorem d_TankArenaModel_jumps_146 : decode b_TankArenaModel_jumps 146 = .ok (.imul, 1) := by decide +kernel
theorem d_TankArenaModel_jumps_147 : decode b_TankArenaModel_jumps 147 = .ok (.iload_n 3, 1) := by decide +kernel
theorem d_TankArenaModel_jumps_148 : decode b_TankArenaModel_jumps 148 = .ok (.iadd, 1) := by decide +kernel
theorem d_TankArenaModel_jumps_149 : decode b_TankArenaModel_jumps 149 = .ok (.dup2, 1) := by decide +kernel
theorem d_TankArenaModel_jumps_150 : decode b_TankArenaModel_jumps 150 = .ok (.iaload, 1) := by decide +kernel
theorem d_TankArenaModel_jumps_151 : decode b_TankArenaModel_jumps 151 = .ok (.iconst 1, 1) := by decide +kernel
theorem d_TankArenaModel_jumps_152 : decode b_TankArenaModel_jumps 152 = .ok (.isub, 1) := by decide +kernel
theorem d_TankArenaModel_jumps_153 : decode b_TankArenaModel_jumps 153 = .ok (.iastore, 1) := by decide +kernel
theorem d_TankArenaModel_jumps_154 : decode b_TankArenaModel_jumps 154 = .ok (.aload_n 0, 1) := by decide +kernel
theorem d_TankArenaModel_jumps_155 : decode b_TankArenaModel_jumps 155 = .ok (.getfield 61, 3) := by decide +kernel
theorem d_TankArenaModel_jumps_158 : decode b_TankArenaModel_jumps 158 = .ok (.iconst 2, 1) := by decide +kernel
theorem d_TankArenaModel_jumps_159 : decode b_TankArenaModel_jumps 159 = .ok (.iload_n 1, 1) := by decide +kernel
theorem d_TankArenaModel_jumps_160 : decode b_TankArenaModel_jumps 160 = .ok (.imul, 1) := by decide +kernel
theorem d_TankArenaModel_jumps_161 : decode b_TankArenaModel_jumps 161 = .ok (.iload_n 3, 1) := by decide +kernel
theorem d_TankArenaModel_jumps_162 : decode b_TankArenaModel_jumps 162 = .ok (.iadd, 1) := by decide +kernel
theorem d_TankArenaModel_jumps_163 : decode b_TankArenaModel_jumps 163 = .ok (.iaload, 1) := by decide +kernel
theorem d_TankArenaModel_jumps_164 : decode b_TankArenaModel_jumps 164 = .ok (.ifCond .le 7, 3) := by decide +kernel
theorem d_TankArenaModel_jumps_167 : decode b_TankArenaModel_jumps 167 = .ok (.iconst 1, 1) := by decide +kernel
theorem d_TankArenaModel_jumps_168 : decode b_TankArenaModel_jumps 168 = .ok (.goto 4, 3) := by decide +kernel
theorem d_TankArenaModel_jumps_171 : decode b_TankArenaModel_jumps 171 = .ok (.iconst 0, 1) := by decide +kernel
theorem d_TankArenaModel_jumps_172 : decode b_TankArenaModel_jumps 172 = .ok (.ireturn, 1) := by decide +kernel
theorem d_TankArenaModel_jumps_173 : decode b_TankArenaModel_jumps 173 = .ok (.iconst 0, 1) := by decide +kernel
theorem d_TankArenaModel_jumps_174 : decode b_TankArenaModel_jumps 174 = .ok (.ireturn, 1) := by decide +kernel
theorem d_TankArenaModel_limited_0 : decode b_TankArenaModel_limited 0 = .ok (.iload_n 0, 1) := by decide +kernel
theorem d_TankArenaModel_limited_1 : decode b_TankArenaModel_limited 1 = .ok (.bipush 16, 2) := by decide +kernel
theorem d_TankArenaModel_limited_3 : decode b_TankArenaModel_limited 3 = .ok (.if_icmp .ge 8, 3) := by decide +kernel
theorem d_TankArenaModel_limited_6 : decode b_TankArenaModel_limited 6 = .ok (.bipush 16, 2) := by decide +kernel
theorem d_TankArenaModel_limited_8 : decode b_TankArenaModel_limited 8 = .ok (.goto 17, 3) := by decide +kernel
theorem d_TankArenaModel_limited_11 : decode b_TankArenaModel_limited 11 = .ok (.iload_n 0, 1) := by decide +kernel
theorem d_TankArenaModel_limited_12 : decode b_TankArenaModel_limited 12 = .ok (.sipush 496, 3) := by decide +kernel
theorem d_TankArenaModel_limited_15 : decode b_TankArenaModel_limited 15 = .ok (.if_icmp .le 9, 3) := by decide +kernel
theorem d_TankArenaModel_limited_18 : decode b_TankArenaModel_limited 18 = .ok (.sipush 496, 3) := by decide +kernel
theorem d_TankArenaModel_limited_21 : decode b_TankArenaModel_limited 21 = .ok (.goto 4, 3) := by decide +kernel
theorem d_TankArenaModel_limited_24 : decode b_TankArenaModel_limited 24 = .ok (.iload_n 0, 1) := by decide +kernel
theorem d_TankArenaModel_limited_25 : decode b_TankArenaModel_limited 25 = .ok (.ireturn, 1) := by decide +kernel
theorem d_TankArenaModel_living_0 : decode b_TankArenaModel_living 0 = .ok (.iconst 0, 1) := by decide +kernel
theorem d_TankArenaModel_living_1 : decode b_TankArenaModel_living 1 = .ok (.istore_n 1, 1) := by decide +kernel
theorem d_TankArenaModel_living_2 : decode b_TankArenaModel_living 2 = .ok (.iconst 0, 1) := by decide +kernel
theorem d_TankArenaModel_living_3 : decode b_TankArenaModel_living 3 = .ok (.istore_n 2, 1) := by decide +kernel
theorem d_TankArenaModel_living_4 : decode b_TankArenaModel_living 4 = .ok (.iload_n 2, 1) := by decide +kernel
theorem d_TankArenaModel_living_5 : decode b_TankArenaModel_living 5 = .ok (.aload_n 0, 1) := by decide +kernel
theorem d_TankArenaModel_living_6 : decode b_TankArenaModel_living 6 = .ok (.getfield 122, 3) := by decide +kernel
theorem d_TankArenaModel_living_9 : decode b_TankArenaModel_living 9 = .ok (.if_icmp .ge 21, 3) := by decide +kernel
theorem d_TankArenaModel_living_12 : decode b_TankArenaModel_living 12 = .ok (.aload_n 0, 1) := by decide +kernel
theorem d_TankArenaModel_living_13 : decode b_TankArenaModel_living 13 = .ok (.getfield 70, 3) := by decide +kernel
theorem d_TankArenaModel_living_16 : decode b_TankArenaModel_living 16 = .ok (.iload_n 2, 1) := by decide +kernel
theorem d_TankArenaModel_living_17 : decode b_TankArenaModel_living 17 = .ok (.baload, 1) := by decide +kernel
theorem d_TankArenaModel_living_18 : decode b_TankArenaModel_living 18 = .ok (.ifCond .eq 6, 3) := by decide +kernel
theorem d_TankArenaModel_living_21 : decode b_TankArenaModel_living 21 = .ok (.iinc 1 1, 3) := by decide +kernel
theorem d_TankArenaModel_living_24 : decode b_TankArenaModel_living 24 = .ok (.iinc 2 1, 3) := by decide +kernel
theorem d_TankArenaModel_living_27 : decode b_TankArenaModel_living 27 = .ok (.goto (-23), 3) := by decide +kernel
theorem d_TankArenaModel_living_30 : decode b_TankArenaModel_living 30 = .ok (.iload_n 1, 1) := by decide +kernel
theorem d_TankArenaModel_living_31 : decode b_TankArenaModel_living 31 = .ok (.ireturn, 1) := by decide +kernel
theorem d_TankArenaModel_look_0 : decode b_TankArenaModel_look 0 = .ok (.iconst 0, 1) := by decide +kernel
theorem d_TankArenaModel_look_1 : decode b_TankArenaModel_look 1 = .ok (.istore_n 2, 1) := by decide +kernel
theorem d_TankArenaModel_look_2 : decode b_TankArenaModel_look 2 = .ok (.iload_n 2, 1) := by decide +kernel
theorem d_TankArenaModel_look_3 : decode b_TankArenaModel_look 3 = .ok (.aload_n 0, 1) := by decide +kernel
theorem d_TankArenaModel_look_4 : decode b_TankArenaModel_look 4 = .ok (.getfield 122, 3) := by decide +kernel
theorem d_TankArenaModel_look_7 : decode b_TankArenaModel_look 7 = .ok (.if_icmp .ge 135, 3) := by decide +kernel
theorem d_TankArenaModel_look_10 : decode b_TankArenaModel_look 10 = .ok (.aload_n 0, 1) := by decide +kernel
theorem d_TankArenaModel_look_11 : decode b_TankArenaModel_look 11 = .ok (.getfield 31, 3) := by decide +kernel
theorem d_TankArenaModel_look_14 : decode b_TankArenaModel_look 14 = .ok (.iload_n 2, 1) := by decide +kernel
theorem d_TankArenaModel_look_15 : decode b_TankArenaModel_look 15 = .ok (.iaload, 1) := by decide +kernel
theorem d_TankArenaModel_look_16 : decode b_TankArenaModel_look 16 = .ok (.aload_n 0, 1) := by decide +kernel
theorem d_TankArenaModel_look_17 : decode b_TankArenaModel_look 17 = .ok (.getfield 31, 3) := by decide +kernel
theorem d_TankArenaModel_look_20 : decode b_TankArenaModel_look 20 = .ok (.iload_n 1, 1) := by decide +kernel
theorem d_TankArenaModel_look_21 : decode b_TankArenaModel_look 21 = .ok (.iaload, 1) := by decide +kernel
theorem d_TankArenaModel_look_22 : decode b_TankArenaModel_look 22 = .ok (.isub, 1) := by decide +kernel
theorem d_TankArenaModel_look_23 : decode b_TankArenaModel_look 23 = .ok (.istore_n 3, 1) := by decide +kernel
theorem d_TankArenaModel_look_24 : decode b_TankArenaModel_look 24 = .ok (.aload_n 0, 1) := by decide +kernel
theorem d_TankArenaModel_look_25 : decode b_TankArenaModel_look 25 = .ok (.getfield 34, 3) := by decide +kernel
theorem d_TankArenaModel_look_28 : decode b_TankArenaModel_look 28 = .ok (.iload_n 2, 1) := by decide +kernel
theorem d_TankArenaModel_look_29 : decode b_TankArenaModel_look 29 = .ok (.iaload, 1) := by decide +kernel
theorem d_TankArenaModel_look_30 : decode b_TankArenaModel_look 30 = .ok (.aload_n 0, 1) := by decide +kernel
theorem d_TankArenaModel_look_31 : decode b_TankArenaModel_look 31 = .ok (.getfield 34, 3) := by decide +kernel
theorem d_TankArenaModel_look_34 : decode b_TankArenaModel_look 34 = .ok (.iload_n 1, 1) := by decide +kernel
theorem d_TankArenaModel_look_35 : decode b_TankArenaModel_look 35 = .ok (.iaload, 1) := by decide +kernel
theorem d_TankArenaModel_look_36 : decode b_TankArenaModel_look 36 = .ok (.isub, 1) := by decide +kernel
theorem d_TankArenaModel_look_37 : decode b_TankArenaModel_look 37 = .ok (.istore 4, 2) := by decide +kernel
theorem d_TankArenaModel_look_39 : decode b_TankArenaModel_look 39 = .ok (.iload_n 2, 1) := by decide +kernel
theorem d_TankArenaModel_look_40 : decode b_TankArenaModel_look 40 = .ok (.iload_n 1, 1) := by decide +kernel
