/-! DECODE ROWS (printed by gen/words.py) -/
theorem d_Tank_told_64 : decode b_Tank_told 64 = .ok (.ireturn, 1) := by decide +kernel
theorem d_Tank_told_65 : decode b_Tank_told 65 = .ok (.aload_n 0, 1) := by decide +kernel
theorem d_Tank_told_66 : decode b_Tank_told 66 = .ok (.getfield 61, 3) := by decide +kernel
theorem d_Tank_told_69 : decode b_Tank_told 69 = .ok (.ireturn, 1) := by decide +kernel
theorem d_Tank_told_70 : decode b_Tank_told 70 = .ok (.aload_n 0, 1) := by decide +kernel
theorem d_Tank_told_71 : decode b_Tank_told 71 = .ok (.getfield 64, 3) := by decide +kernel
theorem d_Tank_told_74 : decode b_Tank_told 74 = .ok (.ireturn, 1) := by decide +kernel
theorem d_Tank_told_75 : decode b_Tank_told 75 = .ok (.aload_n 0, 1) := by decide +kernel
theorem d_Tank_told_76 : decode b_Tank_told 76 = .ok (.getfield 82, 3) := by decide +kernel
theorem d_Tank_told_79 : decode b_Tank_told 79 = .ok (.ifCond .eq 7, 3) := by decide +kernel
theorem d_Tank_told_82 : decode b_Tank_told 82 = .ok (.iconst 1, 1) := by decide +kernel
theorem d_Tank_told_83 : decode b_Tank_told 83 = .ok (.goto 4, 3) := by decide +kernel
theorem d_Tank_told_86 : decode b_Tank_told 86 = .ok (.iconst 0, 1) := by decide +kernel
theorem d_Tank_told_87 : decode b_Tank_told 87 = .ok (.ireturn, 1) := by decide +kernel
theorem d_Tank_told_88 : decode b_Tank_told 88 = .ok (.aload_n 0, 1) := by decide +kernel
theorem d_Tank_told_89 : decode b_Tank_told 89 = .ok (.getfield 21, 3) := by decide +kernel
theorem d_Tank_told_92 : decode b_Tank_told 92 = .ok (.getfield 91, 3) := by decide +kernel
theorem d_Tank_told_95 : decode b_Tank_told 95 = .ok (.ireturn, 1) := by decide +kernel
theorem d_Tank_told_96 : decode b_Tank_told 96 = .ok (.aload_n 0, 1) := by decide +kernel
theorem d_Tank_told_97 : decode b_Tank_told 97 = .ok (.getfield 21, 3) := by decide +kernel
theorem d_Tank_told_100 : decode b_Tank_told 100 = .ok (.getfield 137, 3) := by decide +kernel
theorem d_Tank_told_103 : decode b_Tank_told 103 = .ok (.ireturn, 1) := by decide +kernel
theorem d_Tank_told_104 : decode b_Tank_told 104 = .ok (.aload_n 0, 1) := by decide +kernel
theorem d_Tank_told_105 : decode b_Tank_told 105 = .ok (.getfield 21, 3) := by decide +kernel
theorem d_Tank_told_108 : decode b_Tank_told 108 = .ok (.getfield 140, 3) := by decide +kernel
theorem d_Tank_told_111 : decode b_Tank_told 111 = .ok (.iconst 0, 1) := by decide +kernel
theorem d_Tank_told_112 : decode b_Tank_told 112 = .ok (.iaload, 1) := by decide +kernel
theorem d_Tank_told_113 : decode b_Tank_told 113 = .ok (.ireturn, 1) := by decide +kernel
theorem d_Tank_told_114 : decode b_Tank_told 114 = .ok (.aload_n 0, 1) := by decide +kernel
theorem d_Tank_told_115 : decode b_Tank_told 115 = .ok (.getfield 21, 3) := by decide +kernel
theorem d_Tank_told_118 : decode b_Tank_told 118 = .ok (.getfield 140, 3) := by decide +kernel
theorem d_Tank_told_121 : decode b_Tank_told 121 = .ok (.iconst 1, 1) := by decide +kernel
theorem d_Tank_told_122 : decode b_Tank_told 122 = .ok (.iaload, 1) := by decide +kernel
theorem d_Tank_told_123 : decode b_Tank_told 123 = .ok (.ireturn, 1) := by decide +kernel
theorem d_Tank_told_124 : decode b_Tank_told 124 = .ok (.aload_n 0, 1) := by decide +kernel
theorem d_Tank_told_125 : decode b_Tank_told 125 = .ok (.getfield 35, 3) := by decide +kernel
theorem d_Tank_told_128 : decode b_Tank_told 128 = .ok (.getfield 143, 3) := by decide +kernel
theorem d_Tank_told_131 : decode b_Tank_told 131 = .ok (.ireturn, 1) := by decide +kernel
theorem d_Tank_told_132 : decode b_Tank_told 132 = .ok (.aload_n 0, 1) := by decide +kernel
theorem d_Tank_told_133 : decode b_Tank_told 133 = .ok (.getfield 35, 3) := by decide +kernel
theorem d_Tank_told_136 : decode b_Tank_told 136 = .ok (.getfield 124, 3) := by decide +kernel
theorem d_Tank_told_139 : decode b_Tank_told 139 = .ok (.ifCond .eq 7, 3) := by decide +kernel
theorem d_Tank_told_142 : decode b_Tank_told 142 = .ok (.iconst 1, 1) := by decide +kernel
theorem d_Tank_told_143 : decode b_Tank_told 143 = .ok (.goto 4, 3) := by decide +kernel
theorem d_Tank_told_146 : decode b_Tank_told 146 = .ok (.iconst 0, 1) := by decide +kernel
theorem d_Tank_told_147 : decode b_Tank_told 147 = .ok (.ireturn, 1) := by decide +kernel
theorem d_Tank_told_148 : decode b_Tank_told 148 = .ok (.aload_n 0, 1) := by decide +kernel
theorem d_Tank_told_149 : decode b_Tank_told 149 = .ok (.getfield 35, 3) := by decide +kernel
theorem d_Tank_told_152 : decode b_Tank_told 152 = .ok (.getfield 146, 3) := by decide +kernel
theorem d_Tank_told_155 : decode b_Tank_told 155 = .ok (.ifCond .eq 7, 3) := by decide +kernel
theorem d_Tank_told_158 : decode b_Tank_told 158 = .ok (.iconst 1, 1) := by decide +kernel
theorem d_Tank_told_159 : decode b_Tank_told 159 = .ok (.goto 4, 3) := by decide +kernel
theorem d_Tank_told_162 : decode b_Tank_told 162 = .ok (.iconst 0, 1) := by decide +kernel
theorem d_Tank_told_163 : decode b_Tank_told 163 = .ok (.ireturn, 1) := by decide +kernel
theorem d_Tank_told_164 : decode b_Tank_told 164 = .ok (.ldc 136, 2) := by decide +kernel
theorem d_Tank_told_166 : decode b_Tank_told 166 = .ok (.ireturn, 1) := by decide +kernel
theorem d_Math_floorMod_0 : decode b_Math_floorMod 0 = .ok (.iload_n 0, 1) := by decide +kernel
theorem d_Math_floorMod_1 : decode b_Math_floorMod 1 = .ok (.iload_n 1, 1) := by decide +kernel
theorem d_Math_floorMod_2 : decode b_Math_floorMod 2 = .ok (.irem, 1) := by decide +kernel
theorem d_Math_floorMod_3 : decode b_Math_floorMod 3 = .ok (.istore_n 2, 1) := by decide +kernel
theorem d_Math_floorMod_4 : decode b_Math_floorMod 4 = .ok (.iload_n 0, 1) := by decide +kernel
theorem d_Math_floorMod_5 : decode b_Math_floorMod 5 = .ok (.iload_n 1, 1) := by decide +kernel
theorem d_Math_floorMod_6 : decode b_Math_floorMod 6 = .ok (.ixor, 1) := by decide +kernel
theorem d_Math_floorMod_7 : decode b_Math_floorMod 7 = .ok (.ifCond .ge 11, 3) := by decide +kernel
theorem d_Math_floorMod_10 : decode b_Math_floorMod 10 = .ok (.iload_n 2, 1) := by decide +kernel
theorem d_Math_floorMod_11 : decode b_Math_floorMod 11 = .ok (.ifCond .eq 7, 3) := by decide +kernel
theorem d_Math_floorMod_14 : decode b_Math_floorMod 14 = .ok (.iload_n 2, 1) := by decide +kernel
theorem d_Math_floorMod_15 : decode b_Math_floorMod 15 = .ok (.iload_n 1, 1) := by decide +kernel
theorem d_Math_floorMod_16 : decode b_Math_floorMod 16 = .ok (.iadd, 1) := by decide +kernel
theorem d_Math_floorMod_17 : decode b_Math_floorMod 17 = .ok (.ireturn, 1) := by decide +kernel
theorem d_Math_floorMod_18 : decode b_Math_floorMod 18 = .ok (.iload_n 2, 1) := by decide +kernel
theorem d_Math_floorMod_19 : decode b_Math_floorMod 19 = .ok (.ireturn, 1) := by decide +kernel
