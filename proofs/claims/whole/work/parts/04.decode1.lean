/-! DECODE ROWS (printed by gen/words.py) -/
theorem d_TankArena_forgetLastTurn_2 : decode b_TankArena_forgetLastTurn 2 = .ok (.iload_n 1, 1) := by decide +kernel
theorem d_TankArena_forgetLastTurn_3 : decode b_TankArena_forgetLastTurn 3 = .ok (.aload_n 0, 1) := by decide +kernel
theorem d_TankArena_forgetLastTurn_4 : decode b_TankArena_forgetLastTurn 4 = .ok (.getfield 27, 3) := by decide +kernel
theorem d_TankArena_forgetLastTurn_7 : decode b_TankArena_forgetLastTurn 7 = .ok (.if_icmp .ge 21, 3) := by decide +kernel
theorem d_TankArena_forgetLastTurn_10 : decode b_TankArena_forgetLastTurn 10 = .ok (.aload_n 0, 1) := by decide +kernel
theorem d_TankArena_forgetLastTurn_11 : decode b_TankArena_forgetLastTurn 11 = .ok (.getfield 11, 3) := by decide +kernel
theorem d_TankArena_forgetLastTurn_14 : decode b_TankArena_forgetLastTurn 14 = .ok (.iload_n 1, 1) := by decide +kernel
theorem d_TankArena_forgetLastTurn_15 : decode b_TankArena_forgetLastTurn 15 = .ok (.aaload, 1) := by decide +kernel
theorem d_TankArena_forgetLastTurn_16 : decode b_TankArena_forgetLastTurn 16 = .ok (.getfield 197, 3) := by decide +kernel
theorem d_TankArena_forgetLastTurn_19 : decode b_TankArena_forgetLastTurn 19 = .ok (.invokevirtual 223, 3) := by decide +kernel
theorem d_TankArena_forgetLastTurn_22 : decode b_TankArena_forgetLastTurn 22 = .ok (.iinc 1 1, 3) := by decide +kernel
theorem d_TankArena_forgetLastTurn_25 : decode b_TankArena_forgetLastTurn 25 = .ok (.goto (-23), 3) := by decide +kernel
theorem d_TankArena_forgetLastTurn_28 : decode b_TankArena_forgetLastTurn 28 = .ok (.return_, 1) := by decide +kernel
theorem d_TankArena_instr_0 : decode b_TankArena_instr 0 = .ok (.aload_n 0, 1) := by decide +kernel
theorem d_TankArena_instr_1 : decode b_TankArena_instr 1 = .ok (.iload_n 1, 1) := by decide +kernel
theorem d_TankArena_instr_2 : decode b_TankArena_instr 2 = .ok (.invokevirtual 43, 3) := by decide +kernel
theorem d_TankArena_instr_5 : decode b_TankArena_instr 5 = .ok (.ifCond .eq 20, 3) := by decide +kernel
theorem d_TankArena_instr_8 : decode b_TankArena_instr 8 = .ok (.aload_n 0, 1) := by decide +kernel
theorem d_TankArena_instr_9 : decode b_TankArena_instr 9 = .ok (.getfield 23, 3) := by decide +kernel
theorem d_TankArena_instr_12 : decode b_TankArena_instr 12 = .ok (.ifCond .gt 13, 3) := by decide +kernel
theorem d_TankArena_instr_15 : decode b_TankArena_instr 15 = .ok (.iload_n 2, 1) := by decide +kernel
theorem d_TankArena_instr_16 : decode b_TankArena_instr 16 = .ok (.iload_n 3, 1) := by decide +kernel
theorem d_TankArena_instr_17 : decode b_TankArena_instr 17 = .ok (.iload 4, 2) := by decide +kernel
theorem d_TankArena_instr_19 : decode b_TankArena_instr 19 = .ok (.invokestatic 47, 3) := by decide +kernel
theorem d_TankArena_instr_22 : decode b_TankArena_instr 22 = .ok (.ifCond .ne 6, 3) := by decide +kernel
theorem d_TankArena_instr_25 : decode b_TankArena_instr 25 = .ok (.ldc 34, 2) := by decide +kernel
theorem d_TankArena_instr_27 : decode b_TankArena_instr 27 = .ok (.ireturn, 1) := by decide +kernel
theorem d_TankArena_instr_28 : decode b_TankArena_instr 28 = .ok (.aload_n 0, 1) := by decide +kernel
theorem d_TankArena_instr_29 : decode b_TankArena_instr 29 = .ok (.getfield 11, 3) := by decide +kernel
theorem d_TankArena_instr_32 : decode b_TankArena_instr 32 = .ok (.iload_n 1, 1) := by decide +kernel
theorem d_TankArena_instr_33 : decode b_TankArena_instr 33 = .ok (.aaload, 1) := by decide +kernel
theorem d_TankArena_instr_34 : decode b_TankArena_instr 34 = .ok (.getfield 52, 3) := by decide +kernel
theorem d_TankArena_instr_37 : decode b_TankArena_instr 37 = .ok (.astore 5, 2) := by decide +kernel
theorem d_TankArena_instr_39 : decode b_TankArena_instr 39 = .ok (.aload 5, 2) := by decide +kernel
theorem d_TankArena_instr_41 : decode b_TankArena_instr 41 = .ok (.invokevirtual 56, 3) := by decide +kernel
theorem d_TankArena_instr_44 : decode b_TankArena_instr 44 = .ok (.ifCond .eq 6, 3) := by decide +kernel
theorem d_TankArena_instr_47 : decode b_TankArena_instr 47 = .ok (.ldc 34, 2) := by decide +kernel
theorem d_TankArena_instr_49 : decode b_TankArena_instr 49 = .ok (.ireturn, 1) := by decide +kernel
theorem d_TankArena_instr_50 : decode b_TankArena_instr 50 = .ok (.aload 5, 2) := by decide +kernel
theorem d_TankArena_instr_52 : decode b_TankArena_instr 52 = .ok (.iload_n 2, 1) := by decide +kernel
theorem d_TankArena_instr_53 : decode b_TankArena_instr 53 = .ok (.iload_n 3, 1) := by decide +kernel
theorem d_TankArena_instr_54 : decode b_TankArena_instr 54 = .ok (.iload 4, 2) := by decide +kernel
theorem d_TankArena_instr_56 : decode b_TankArena_instr 56 = .ok (.invokevirtual 60, 3) := by decide +kernel
theorem d_TankArena_instr_59 : decode b_TankArena_instr 59 = .ok (.aload 5, 2) := by decide +kernel
theorem d_TankArena_instr_61 : decode b_TankArena_instr 61 = .ok (.getfield 63, 3) := by decide +kernel
theorem d_TankArena_instr_64 : decode b_TankArena_instr 64 = .ok (.ireturn, 1) := by decide +kernel
theorem d_TankArena_isAimed_0 : decode b_TankArena_isAimed 0 = .ok (.aload_n 1, 1) := by decide +kernel
theorem d_TankArena_isAimed_1 : decode b_TankArena_isAimed 1 = .ok (.getfield 197, 3) := by decide +kernel
theorem d_TankArena_isAimed_4 : decode b_TankArena_isAimed 4 = .ok (.invokevirtual 201, 3) := by decide +kernel
theorem d_TankArena_isAimed_7 : decode b_TankArena_isAimed 7 = .ok (.ifCond .eq 30, 3) := by decide +kernel
theorem d_TankArena_isAimed_10 : decode b_TankArena_isAimed 10 = .ok (.aload_n 1, 1) := by decide +kernel
theorem d_TankArena_isAimed_11 : decode b_TankArena_isAimed 11 = .ok (.aload_n 0, 1) := by decide +kernel
theorem d_TankArena_isAimed_12 : decode b_TankArena_isAimed 12 = .ok (.getfield 11, 3) := by decide +kernel
theorem d_TankArena_isAimed_15 : decode b_TankArena_isAimed 15 = .ok (.aload_n 1, 1) := by decide +kernel
theorem d_TankArena_isAimed_16 : decode b_TankArena_isAimed 16 = .ok (.getfield 197, 3) := by decide +kernel
theorem d_TankArena_isAimed_19 : decode b_TankArena_isAimed 19 = .ok (.getfield 215, 3) := by decide +kernel
theorem d_TankArena_isAimed_22 : decode b_TankArena_isAimed 22 = .ok (.aaload, 1) := by decide +kernel
theorem d_TankArena_isAimed_23 : decode b_TankArena_isAimed 23 = .ok (.invokestatic 218, 3) := by decide +kernel
theorem d_TankArena_isAimed_26 : decode b_TankArena_isAimed 26 = .ok (.aload_n 1, 1) := by decide +kernel
theorem d_TankArena_isAimed_27 : decode b_TankArena_isAimed 27 = .ok (.getfield 222, 3) := by decide +kernel
theorem d_TankArena_isAimed_30 : decode b_TankArena_isAimed 30 = .ok (.if_icmp .ne 7, 3) := by decide +kernel
theorem d_TankArena_isAimed_33 : decode b_TankArena_isAimed 33 = .ok (.iconst 1, 1) := by decide +kernel
theorem d_TankArena_isAimed_34 : decode b_TankArena_isAimed 34 = .ok (.goto 4, 3) := by decide +kernel
theorem d_TankArena_isAimed_37 : decode b_TankArena_isAimed 37 = .ok (.iconst 0, 1) := by decide +kernel
theorem d_TankArena_isAimed_38 : decode b_TankArena_isAimed 38 = .ok (.ireturn, 1) := by decide +kernel
theorem d_TankArena_isTank_0 : decode b_TankArena_isTank 0 = .ok (.iload_n 1, 1) := by decide +kernel
theorem d_TankArena_isTank_1 : decode b_TankArena_isTank 1 = .ok (.iconst 0, 1) := by decide +kernel
theorem d_TankArena_isTank_2 : decode b_TankArena_isTank 2 = .ok (.aload_n 0, 1) := by decide +kernel
theorem d_TankArena_isTank_3 : decode b_TankArena_isTank 3 = .ok (.getfield 27, 3) := by decide +kernel
theorem d_TankArena_isTank_6 : decode b_TankArena_isTank 6 = .ok (.iconst 1, 1) := by decide +kernel
theorem d_TankArena_isTank_7 : decode b_TankArena_isTank 7 = .ok (.isub, 1) := by decide +kernel
theorem d_TankArena_isTank_8 : decode b_TankArena_isTank 8 = .ok (.invokestatic 30, 3) := by decide +kernel
theorem d_TankArena_isTank_11 : decode b_TankArena_isTank 11 = .ok (.ireturn, 1) := by decide +kernel
theorem d_TankArena_jumps_0 : decode b_TankArena_jumps 0 = .ok (.iload_n 2, 1) := by decide +kernel
theorem d_TankArena_jumps_1 : decode b_TankArena_jumps 1 = .ok (.tableswitch 93 6 12 #[43, 45, 53, 61, 69, 93, 75], 43) := by decide +kernel
theorem d_TankArena_jumps_44 : decode b_TankArena_jumps 44 = .ok (.iconst 1, 1) := by decide +kernel
theorem d_TankArena_jumps_45 : decode b_TankArena_jumps 45 = .ok (.ireturn, 1) := by decide +kernel
theorem d_TankArena_jumps_46 : decode b_TankArena_jumps 46 = .ok (.aload_n 1, 1) := by decide +kernel
theorem d_TankArena_jumps_47 : decode b_TankArena_jumps 47 = .ok (.getfield 197, 3) := by decide +kernel
theorem d_TankArena_jumps_50 : decode b_TankArena_jumps 50 = .ok (.invokevirtual 201, 3) := by decide +kernel
theorem d_TankArena_jumps_53 : decode b_TankArena_jumps 53 = .ok (.ireturn, 1) := by decide +kernel
theorem d_TankArena_jumps_54 : decode b_TankArena_jumps 54 = .ok (.aload_n 1, 1) := by decide +kernel
theorem d_TankArena_jumps_55 : decode b_TankArena_jumps 55 = .ok (.getfield 197, 3) := by decide +kernel
theorem d_TankArena_jumps_58 : decode b_TankArena_jumps 58 = .ok (.getfield 206, 3) := by decide +kernel
theorem d_TankArena_jumps_61 : decode b_TankArena_jumps 61 = .ok (.ireturn, 1) := by decide +kernel
theorem d_TankArena_jumps_62 : decode b_TankArena_jumps 62 = .ok (.aload_n 1, 1) := by decide +kernel
theorem d_TankArena_jumps_63 : decode b_TankArena_jumps 63 = .ok (.getfield 197, 3) := by decide +kernel
theorem d_TankArena_jumps_66 : decode b_TankArena_jumps 66 = .ok (.getfield 209, 3) := by decide +kernel
theorem d_TankArena_jumps_69 : decode b_TankArena_jumps 69 = .ok (.ireturn, 1) := by decide +kernel
theorem d_TankArena_jumps_70 : decode b_TankArena_jumps 70 = .ok (.aload_n 0, 1) := by decide +kernel
theorem d_TankArena_jumps_71 : decode b_TankArena_jumps 71 = .ok (.aload_n 1, 1) := by decide +kernel
theorem d_TankArena_jumps_72 : decode b_TankArena_jumps 72 = .ok (.invokevirtual 212, 3) := by decide +kernel
theorem d_TankArena_jumps_75 : decode b_TankArena_jumps 75 = .ok (.ireturn, 1) := by decide +kernel
theorem d_TankArena_jumps_76 : decode b_TankArena_jumps 76 = .ok (.aload_n 1, 1) := by decide +kernel
theorem d_TankArena_jumps_77 : decode b_TankArena_jumps 77 = .ok (.getfield 152, 3) := by decide +kernel
theorem d_TankArena_jumps_80 : decode b_TankArena_jumps 80 = .ok (.getfield 194, 3) := by decide +kernel
theorem d_TankArena_jumps_83 : decode b_TankArena_jumps 83 = .ok (.iload_n 3, 1) := by decide +kernel
theorem d_TankArena_jumps_84 : decode b_TankArena_jumps 84 = .ok (.iaload, 1) := by decide +kernel
theorem d_TankArena_jumps_85 : decode b_TankArena_jumps 85 = .ok (.ifCond .le 7, 3) := by decide +kernel
theorem d_TankArena_jumps_88 : decode b_TankArena_jumps 88 = .ok (.iconst 1, 1) := by decide +kernel
theorem d_TankArena_jumps_89 : decode b_TankArena_jumps 89 = .ok (.goto 4, 3) := by decide +kernel
theorem d_TankArena_jumps_92 : decode b_TankArena_jumps 92 = .ok (.iconst 0, 1) := by decide +kernel
theorem d_TankArena_jumps_93 : decode b_TankArena_jumps 93 = .ok (.ireturn, 1) := by decide +kernel
theorem d_TankArena_jumps_94 : decode b_TankArena_jumps 94 = .ok (.iconst 0, 1) := by decide +kernel
theorem d_TankArena_jumps_95 : decode b_TankArena_jumps 95 = .ok (.ireturn, 1) := by decide +kernel
theorem d_TankArena_leastStruck_0 : decode b_TankArena_leastStruck 0 = .ok (.iconst 0, 1) := by decide +kernel
theorem d_TankArena_leastStruck_1 : decode b_TankArena_leastStruck 1 = .ok (.istore_n 2, 1) := by decide +kernel
theorem d_TankArena_leastStruck_2 : decode b_TankArena_leastStruck 2 = .ok (.iload_n 2, 1) := by decide +kernel
theorem d_TankArena_leastStruck_3 : decode b_TankArena_leastStruck 3 = .ok (.aload_n 0, 1) := by decide +kernel
theorem d_TankArena_leastStruck_4 : decode b_TankArena_leastStruck 4 = .ok (.getfield 27, 3) := by decide +kernel
theorem d_TankArena_leastStruck_7 : decode b_TankArena_leastStruck 7 = .ok (.if_icmp .ge 63, 3) := by decide +kernel
theorem d_TankArena_leastStruck_10 : decode b_TankArena_leastStruck 10 = .ok (.aload_n 0, 1) := by decide +kernel
theorem d_TankArena_leastStruck_11 : decode b_TankArena_leastStruck 11 = .ok (.getfield 11, 3) := by decide +kernel
theorem d_TankArena_leastStruck_14 : decode b_TankArena_leastStruck 14 = .ok (.iload_n 2, 1) := by decide +kernel
theorem d_TankArena_leastStruck_15 : decode b_TankArena_leastStruck 15 = .ok (.aaload, 1) := by decide +kernel
theorem d_TankArena_leastStruck_16 : decode b_TankArena_leastStruck 16 = .ok (.aload_n 1, 1) := by decide +kernel
theorem d_TankArena_leastStruck_17 : decode b_TankArena_leastStruck 17 = .ok (.getfield 260, 3) := by decide +kernel
theorem d_TankArena_leastStruck_20 : decode b_TankArena_leastStruck 20 = .ok (.aload_n 1, 1) := by decide +kernel
theorem d_TankArena_leastStruck_21 : decode b_TankArena_leastStruck 21 = .ok (.getfield 261, 3) := by decide +kernel
theorem d_TankArena_leastStruck_24 : decode b_TankArena_leastStruck 24 = .ok (.invokevirtual 262, 3) := by decide +kernel
theorem d_TankArena_leastStruck_27 : decode b_TankArena_leastStruck 27 = .ok (.bipush 16, 2) := by decide +kernel
theorem d_TankArena_leastStruck_29 : decode b_TankArena_leastStruck 29 = .ok (.if_icmp .gt 7, 3) := by decide +kernel
theorem d_TankArena_leastStruck_32 : decode b_TankArena_leastStruck 32 = .ok (.iconst 1, 1) := by decide +kernel
theorem d_TankArena_leastStruck_33 : decode b_TankArena_leastStruck 33 = .ok (.goto 4, 3) := by decide +kernel
theorem d_TankArena_leastStruck_36 : decode b_TankArena_leastStruck 36 = .ok (.iconst 0, 1) := by decide +kernel
theorem d_TankArena_leastStruck_37 : decode b_TankArena_leastStruck 37 = .ok (.istore_n 3, 1) := by decide +kernel
theorem d_TankArena_leastStruck_38 : decode b_TankArena_leastStruck 38 = .ok (.iload_n 3, 1) := by decide +kernel
theorem d_TankArena_leastStruck_39 : decode b_TankArena_leastStruck 39 = .ok (.ifCond .eq 25, 3) := by decide +kernel
theorem d_TankArena_leastStruck_42 : decode b_TankArena_leastStruck 42 = .ok (.iload_n 2, 1) := by decide +kernel
theorem d_TankArena_leastStruck_43 : decode b_TankArena_leastStruck 43 = .ok (.aload_n 1, 1) := by decide +kernel
theorem d_TankArena_leastStruck_44 : decode b_TankArena_leastStruck 44 = .ok (.getfield 265, 3) := by decide +kernel
theorem d_TankArena_leastStruck_47 : decode b_TankArena_leastStruck 47 = .ok (.if_icmp .eq 17, 3) := by decide +kernel
theorem d_TankArena_leastStruck_50 : decode b_TankArena_leastStruck 50 = .ok (.aload_n 0, 1) := by decide +kernel
theorem d_TankArena_leastStruck_51 : decode b_TankArena_leastStruck 51 = .ok (.getfield 11, 3) := by decide +kernel
theorem d_TankArena_leastStruck_54 : decode b_TankArena_leastStruck 54 = .ok (.iload_n 2, 1) := by decide +kernel
theorem d_TankArena_leastStruck_55 : decode b_TankArena_leastStruck 55 = .ok (.aaload, 1) := by decide +kernel
theorem d_TankArena_leastStruck_56 : decode b_TankArena_leastStruck 56 = .ok (.getfield 125, 3) := by decide +kernel
theorem d_TankArena_leastStruck_59 : decode b_TankArena_leastStruck 59 = .ok (.ifCond .eq 5, 3) := by decide +kernel
theorem d_TankArena_leastStruck_62 : decode b_TankArena_leastStruck 62 = .ok (.iload_n 2, 1) := by decide +kernel
theorem d_TankArena_leastStruck_63 : decode b_TankArena_leastStruck 63 = .ok (.ireturn, 1) := by decide +kernel
theorem d_TankArena_leastStruck_64 : decode b_TankArena_leastStruck 64 = .ok (.iinc 2 1, 3) := by decide +kernel
theorem d_TankArena_leastStruck_67 : decode b_TankArena_leastStruck 67 = .ok (.goto (-65), 3) := by decide +kernel
theorem d_TankArena_leastStruck_70 : decode b_TankArena_leastStruck 70 = .ok (.iconst 4, 1) := by decide +kernel
theorem d_TankArena_leastStruck_71 : decode b_TankArena_leastStruck 71 = .ok (.ireturn, 1) := by decide +kernel
theorem d_TankArena_leastTouched_0 : decode b_TankArena_leastTouched 0 = .ok (.iconst 0, 1) := by decide +kernel
theorem d_TankArena_leastTouched_1 : decode b_TankArena_leastTouched 1 = .ok (.istore 4, 2) := by decide +kernel
theorem d_TankArena_leastTouched_3 : decode b_TankArena_leastTouched 3 = .ok (.iload 4, 2) := by decide +kernel
theorem d_TankArena_leastTouched_5 : decode b_TankArena_leastTouched 5 = .ok (.aload_n 0, 1) := by decide +kernel
theorem d_TankArena_leastTouched_6 : decode b_TankArena_leastTouched 6 = .ok (.getfield 27, 3) := by decide +kernel
theorem d_TankArena_leastTouched_9 : decode b_TankArena_leastTouched 9 = .ok (.if_icmp .ge 48, 3) := by decide +kernel
theorem d_TankArena_leastTouched_12 : decode b_TankArena_leastTouched 12 = .ok (.iload 4, 2) := by decide +kernel
theorem d_TankArena_leastTouched_14 : decode b_TankArena_leastTouched 14 = .ok (.iload_n 1, 1) := by decide +kernel
theorem d_TankArena_leastTouched_15 : decode b_TankArena_leastTouched 15 = .ok (.if_icmp .eq 36, 3) := by decide +kernel
theorem d_TankArena_leastTouched_18 : decode b_TankArena_leastTouched 18 = .ok (.aload_n 0, 1) := by decide +kernel
theorem d_TankArena_leastTouched_19 : decode b_TankArena_leastTouched 19 = .ok (.getfield 11, 3) := by decide +kernel
theorem d_TankArena_leastTouched_22 : decode b_TankArena_leastTouched 22 = .ok (.iload 4, 2) := by decide +kernel
theorem d_TankArena_leastTouched_24 : decode b_TankArena_leastTouched 24 = .ok (.aaload, 1) := by decide +kernel
theorem d_TankArena_leastTouched_25 : decode b_TankArena_leastTouched 25 = .ok (.getfield 125, 3) := by decide +kernel
theorem d_TankArena_leastTouched_28 : decode b_TankArena_leastTouched 28 = .ok (.ifCond .eq 23, 3) := by decide +kernel
theorem d_TankArena_leastTouched_31 : decode b_TankArena_leastTouched 31 = .ok (.aload_n 0, 1) := by decide +kernel
theorem d_TankArena_leastTouched_32 : decode b_TankArena_leastTouched 32 = .ok (.getfield 11, 3) := by decide +kernel
theorem d_TankArena_leastTouched_35 : decode b_TankArena_leastTouched 35 = .ok (.iload 4, 2) := by decide +kernel
theorem d_TankArena_leastTouched_37 : decode b_TankArena_leastTouched 37 = .ok (.aaload, 1) := by decide +kernel
theorem d_TankArena_leastTouched_38 : decode b_TankArena_leastTouched 38 = .ok (.iload_n 2, 1) := by decide +kernel
theorem d_TankArena_leastTouched_39 : decode b_TankArena_leastTouched 39 = .ok (.iload_n 3, 1) := by decide +kernel
theorem d_TankArena_leastTouched_40 : decode b_TankArena_leastTouched 40 = .ok (.invokevirtual 262, 3) := by decide +kernel
theorem d_TankArena_leastTouched_43 : decode b_TankArena_leastTouched 43 = .ok (.bipush 32, 2) := by decide +kernel
theorem d_TankArena_leastTouched_45 : decode b_TankArena_leastTouched 45 = .ok (.if_icmp .ge 6, 3) := by decide +kernel
theorem d_TankArena_leastTouched_48 : decode b_TankArena_leastTouched 48 = .ok (.iload 4, 2) := by decide +kernel
theorem d_TankArena_leastTouched_50 : decode b_TankArena_leastTouched 50 = .ok (.ireturn, 1) := by decide +kernel
theorem d_TankArena_leastTouched_51 : decode b_TankArena_leastTouched 51 = .ok (.iinc 4 1, 3) := by decide +kernel
theorem d_TankArena_leastTouched_54 : decode b_TankArena_leastTouched 54 = .ok (.goto (-51), 3) := by decide +kernel
theorem d_TankArena_leastTouched_57 : decode b_TankArena_leastTouched 57 = .ok (.iconst 4, 1) := by decide +kernel
theorem d_TankArena_leastTouched_58 : decode b_TankArena_leastTouched 58 = .ok (.ireturn, 1) := by decide +kernel
theorem d_TankArena_look_0 : decode b_TankArena_look 0 = .ok (.aload_n 0, 1) := by decide +kernel
theorem d_TankArena_look_1 : decode b_TankArena_look 1 = .ok (.getfield 11, 3) := by decide +kernel
theorem d_TankArena_look_4 : decode b_TankArena_look 4 = .ok (.iload_n 1, 1) := by decide +kernel
theorem d_TankArena_look_5 : decode b_TankArena_look 5 = .ok (.aaload, 1) := by decide +kernel
theorem d_TankArena_look_6 : decode b_TankArena_look 6 = .ok (.astore_n 2, 1) := by decide +kernel
theorem d_TankArena_look_7 : decode b_TankArena_look 7 = .ok (.iconst 0, 1) := by decide +kernel
theorem d_TankArena_look_8 : decode b_TankArena_look 8 = .ok (.istore_n 3, 1) := by decide +kernel
theorem d_TankArena_look_9 : decode b_TankArena_look 9 = .ok (.iload_n 3, 1) := by decide +kernel
theorem d_TankArena_look_10 : decode b_TankArena_look 10 = .ok (.aload_n 0, 1) := by decide +kernel
theorem d_TankArena_look_11 : decode b_TankArena_look 11 = .ok (.getfield 27, 3) := by decide +kernel
theorem d_TankArena_look_14 : decode b_TankArena_look 14 = .ok (.if_icmp .ge 73, 3) := by decide +kernel
theorem d_TankArena_look_17 : decode b_TankArena_look 17 = .ok (.iload_n 3, 1) := by decide +kernel
theorem d_TankArena_look_18 : decode b_TankArena_look 18 = .ok (.iload_n 1, 1) := by decide +kernel
theorem d_TankArena_look_19 : decode b_TankArena_look 19 = .ok (.if_icmp .eq 62, 3) := by decide +kernel
theorem d_TankArena_look_22 : decode b_TankArena_look 22 = .ok (.aload_n 0, 1) := by decide +kernel
theorem d_TankArena_look_23 : decode b_TankArena_look 23 = .ok (.getfield 11, 3) := by decide +kernel
theorem d_TankArena_look_26 : decode b_TankArena_look 26 = .ok (.iload_n 3, 1) := by decide +kernel
theorem d_TankArena_look_27 : decode b_TankArena_look 27 = .ok (.aaload, 1) := by decide +kernel
theorem d_TankArena_look_28 : decode b_TankArena_look 28 = .ok (.getfield 125, 3) := by decide +kernel
theorem d_TankArena_look_31 : decode b_TankArena_look 31 = .ok (.ifCond .eq 50, 3) := by decide +kernel
theorem d_TankArena_look_34 : decode b_TankArena_look 34 = .ok (.aload_n 2, 1) := by decide +kernel
theorem d_TankArena_look_35 : decode b_TankArena_look 35 = .ok (.aload_n 0, 1) := by decide +kernel
theorem d_TankArena_look_36 : decode b_TankArena_look 36 = .ok (.getfield 11, 3) := by decide +kernel
theorem d_TankArena_look_39 : decode b_TankArena_look 39 = .ok (.iload_n 3, 1) := by decide +kernel
theorem d_TankArena_look_40 : decode b_TankArena_look 40 = .ok (.aaload, 1) := by decide +kernel
theorem d_TankArena_look_41 : decode b_TankArena_look 41 = .ok (.invokestatic 218, 3) := by decide +kernel
theorem d_TankArena_look_44 : decode b_TankArena_look 44 = .ok (.aload_n 2, 1) := by decide +kernel
theorem d_TankArena_look_45 : decode b_TankArena_look 45 = .ok (.getfield 296, 3) := by decide +kernel
theorem d_TankArena_look_48 : decode b_TankArena_look 48 = .ok (.if_icmp .ne 33, 3) := by decide +kernel
theorem d_TankArena_look_51 : decode b_TankArena_look 51 = .ok (.aload_n 2, 1) := by decide +kernel
theorem d_TankArena_look_52 : decode b_TankArena_look 52 = .ok (.getfield 197, 3) := by decide +kernel
theorem d_TankArena_look_55 : decode b_TankArena_look 55 = .ok (.iload_n 3, 1) := by decide +kernel
theorem d_TankArena_look_56 : decode b_TankArena_look 56 = .ok (.aload_n 2, 1) := by decide +kernel
theorem d_TankArena_look_57 : decode b_TankArena_look 57 = .ok (.aload_n 0, 1) := by decide +kernel
theorem d_TankArena_look_58 : decode b_TankArena_look 58 = .ok (.getfield 11, 3) := by decide +kernel
theorem d_TankArena_look_61 : decode b_TankArena_look 61 = .ok (.iload_n 3, 1) := by decide +kernel
theorem d_TankArena_look_62 : decode b_TankArena_look 62 = .ok (.aaload, 1) := by decide +kernel
theorem d_TankArena_look_63 : decode b_TankArena_look 63 = .ok (.getfield 110, 3) := by decide +kernel
theorem d_TankArena_look_66 : decode b_TankArena_look 66 = .ok (.aload_n 0, 1) := by decide +kernel
theorem d_TankArena_look_67 : decode b_TankArena_look 67 = .ok (.getfield 11, 3) := by decide +kernel
theorem d_TankArena_look_70 : decode b_TankArena_look 70 = .ok (.iload_n 3, 1) := by decide +kernel
theorem d_TankArena_look_71 : decode b_TankArena_look 71 = .ok (.aaload, 1) := by decide +kernel
theorem d_TankArena_look_72 : decode b_TankArena_look 72 = .ok (.getfield 113, 3) := by decide +kernel
theorem d_TankArena_look_75 : decode b_TankArena_look 75 = .ok (.invokevirtual 262, 3) := by decide +kernel
theorem d_TankArena_look_78 : decode b_TankArena_look 78 = .ok (.invokevirtual 297, 3) := by decide +kernel
theorem d_TankArena_look_81 : decode b_TankArena_look 81 = .ok (.iinc 3 1, 3) := by decide +kernel
theorem d_TankArena_look_84 : decode b_TankArena_look 84 = .ok (.goto (-75), 3) := by decide +kernel
theorem d_TankArena_look_87 : decode b_TankArena_look 87 = .ok (.return_, 1) := by decide +kernel
theorem d_TankArena_measure_0 : decode b_TankArena_measure 0 = .ok (.aload_n 0, 1) := by decide +kernel
theorem d_TankArena_measure_1 : decode b_TankArena_measure 1 = .ok (.iload_n 1, 1) := by decide +kernel
theorem d_TankArena_measure_2 : decode b_TankArena_measure 2 = .ok (.invokevirtual 43, 3) := by decide +kernel
theorem d_TankArena_measure_5 : decode b_TankArena_measure 5 = .ok (.ifCond .eq 17, 3) := by decide +kernel
theorem d_TankArena_measure_8 : decode b_TankArena_measure 8 = .ok (.aload_n 0, 1) := by decide +kernel
theorem d_TankArena_measure_9 : decode b_TankArena_measure 9 = .ok (.getfield 11, 3) := by decide +kernel
theorem d_TankArena_measure_12 : decode b_TankArena_measure 12 = .ok (.iload_n 1, 1) := by decide +kernel
theorem d_TankArena_measure_13 : decode b_TankArena_measure 13 = .ok (.aaload, 1) := by decide +kernel
theorem d_TankArena_measure_14 : decode b_TankArena_measure 14 = .ok (.iload_n 2, 1) := by decide +kernel
theorem d_TankArena_measure_15 : decode b_TankArena_measure 15 = .ok (.invokevirtual 100, 3) := by decide +kernel
theorem d_TankArena_measure_18 : decode b_TankArena_measure 18 = .ok (.i2l, 1) := by decide +kernel
theorem d_TankArena_measure_19 : decode b_TankArena_measure 19 = .ok (.goto 6, 3) := by decide +kernel
theorem d_TankArena_measure_22 : decode b_TankArena_measure 22 = .ok (.ldc2_w 104, 3) := by decide +kernel
theorem d_TankArena_measure_25 : decode b_TankArena_measure 25 = .ok (.lreturn, 1) := by decide +kernel
theorem d_TankArena_obey_0 : decode b_TankArena_obey 0 = .ok (.iload_n 1, 1) := by decide +kernel
theorem d_TankArena_obey_1 : decode b_TankArena_obey 1 = .ok (.tableswitch 146 1 12 #[63, 73, 84, 95, 106, 146, 146, 146, 146, 146, 117, 130], 63) := by decide +kernel
theorem d_TankArena_obey_64 : decode b_TankArena_obey 64 = .ok (.aload_n 0, 1) := by decide +kernel
theorem d_TankArena_obey_65 : decode b_TankArena_obey 65 = .ok (.iload_n 2, 1) := by decide +kernel
theorem d_TankArena_obey_66 : decode b_TankArena_obey 66 = .ok (.iconst 4, 1) := by decide +kernel
theorem d_TankArena_obey_67 : decode b_TankArena_obey 67 = .ok (.imul, 1) := by decide +kernel
theorem d_TankArena_obey_68 : decode b_TankArena_obey 68 = .ok (.putfield 145, 3) := by decide +kernel
theorem d_TankArena_obey_71 : decode b_TankArena_obey 71 = .ok (.goto 76, 3) := by decide +kernel
theorem d_TankArena_obey_74 : decode b_TankArena_obey 74 = .ok (.aload_n 0, 1) := by decide +kernel
theorem d_TankArena_obey_75 : decode b_TankArena_obey 75 = .ok (.getfield 129, 3) := by decide +kernel
theorem d_TankArena_obey_78 : decode b_TankArena_obey 78 = .ok (.iload_n 2, 1) := by decide +kernel
theorem d_TankArena_obey_79 : decode b_TankArena_obey 79 = .ok (.putfield 182, 3) := by decide +kernel
theorem d_TankArena_obey_82 : decode b_TankArena_obey 82 = .ok (.goto 65, 3) := by decide +kernel
theorem d_TankArena_obey_85 : decode b_TankArena_obey 85 = .ok (.aload_n 0, 1) := by decide +kernel
theorem d_TankArena_obey_86 : decode b_TankArena_obey 86 = .ok (.getfield 129, 3) := by decide +kernel
theorem d_TankArena_obey_89 : decode b_TankArena_obey 89 = .ok (.iload_n 2, 1) := by decide +kernel
theorem d_TankArena_obey_90 : decode b_TankArena_obey 90 = .ok (.putfield 185, 3) := by decide +kernel
theorem d_TankArena_obey_93 : decode b_TankArena_obey 93 = .ok (.goto 54, 3) := by decide +kernel
theorem d_TankArena_obey_96 : decode b_TankArena_obey 96 = .ok (.aload_n 0, 1) := by decide +kernel
theorem d_TankArena_obey_97 : decode b_TankArena_obey 97 = .ok (.getfield 129, 3) := by decide +kernel
theorem d_TankArena_obey_100 : decode b_TankArena_obey 100 = .ok (.iload_n 2, 1) := by decide +kernel
theorem d_TankArena_obey_101 : decode b_TankArena_obey 101 = .ok (.putfield 188, 3) := by decide +kernel
theorem d_TankArena_obey_104 : decode b_TankArena_obey 104 = .ok (.goto 43, 3) := by decide +kernel
theorem d_TankArena_obey_107 : decode b_TankArena_obey 107 = .ok (.aload_n 0, 1) := by decide +kernel
theorem d_TankArena_obey_108 : decode b_TankArena_obey 108 = .ok (.getfield 129, 3) := by decide +kernel
theorem d_TankArena_obey_111 : decode b_TankArena_obey 111 = .ok (.iload_n 2, 1) := by decide +kernel
theorem d_TankArena_obey_112 : decode b_TankArena_obey 112 = .ok (.putfield 191, 3) := by decide +kernel
theorem d_TankArena_obey_115 : decode b_TankArena_obey 115 = .ok (.goto 32, 3) := by decide +kernel
theorem d_TankArena_obey_118 : decode b_TankArena_obey 118 = .ok (.aload_n 0, 1) := by decide +kernel
theorem d_TankArena_obey_119 : decode b_TankArena_obey 119 = .ok (.getfield 152, 3) := by decide +kernel
theorem d_TankArena_obey_122 : decode b_TankArena_obey 122 = .ok (.getfield 194, 3) := by decide +kernel
theorem d_TankArena_obey_125 : decode b_TankArena_obey 125 = .ok (.iload_n 2, 1) := by decide +kernel
theorem d_TankArena_obey_126 : decode b_TankArena_obey 126 = .ok (.iload_n 3, 1) := by decide +kernel
theorem d_TankArena_obey_127 : decode b_TankArena_obey 127 = .ok (.iastore, 1) := by decide +kernel
theorem d_TankArena_obey_128 : decode b_TankArena_obey 128 = .ok (.goto 19, 3) := by decide +kernel
theorem d_TankArena_obey_131 : decode b_TankArena_obey 131 = .ok (.aload_n 0, 1) := by decide +kernel
theorem d_TankArena_obey_132 : decode b_TankArena_obey 132 = .ok (.getfield 152, 3) := by decide +kernel
theorem d_TankArena_obey_135 : decode b_TankArena_obey 135 = .ok (.getfield 194, 3) := by decide +kernel
theorem d_TankArena_obey_138 : decode b_TankArena_obey 138 = .ok (.iload_n 3, 1) := by decide +kernel
theorem d_TankArena_obey_139 : decode b_TankArena_obey 139 = .ok (.dup2, 1) := by decide +kernel
theorem d_TankArena_obey_140 : decode b_TankArena_obey 140 = .ok (.iaload, 1) := by decide +kernel
theorem d_TankArena_obey_141 : decode b_TankArena_obey 141 = .ok (.iconst 1, 1) := by decide +kernel
theorem d_TankArena_obey_142 : decode b_TankArena_obey 142 = .ok (.isub, 1) := by decide +kernel
theorem d_TankArena_obey_143 : decode b_TankArena_obey 143 = .ok (.iastore, 1) := by decide +kernel
theorem d_TankArena_obey_144 : decode b_TankArena_obey 144 = .ok (.goto 3, 3) := by decide +kernel
theorem d_TankArena_obey_147 : decode b_TankArena_obey 147 = .ok (.return_, 1) := by decide +kernel
theorem d_TankArena_restart_0 : decode b_TankArena_restart 0 = .ok (.aload_n 0, 1) := by decide +kernel
theorem d_TankArena_restart_1 : decode b_TankArena_restart 1 = .ok (.getfield 23, 3) := by decide +kernel
theorem d_TankArena_restart_4 : decode b_TankArena_restart 4 = .ok (.istore_n 1, 1) := by decide +kernel
theorem d_TankArena_restart_5 : decode b_TankArena_restart 5 = .ok (.iconst 0, 1) := by decide +kernel
theorem d_TankArena_restart_6 : decode b_TankArena_restart 6 = .ok (.istore_n 2, 1) := by decide +kernel
theorem d_TankArena_restart_7 : decode b_TankArena_restart 7 = .ok (.iload_n 2, 1) := by decide +kernel
theorem d_TankArena_restart_8 : decode b_TankArena_restart 8 = .ok (.aload_n 0, 1) := by decide +kernel
theorem d_TankArena_restart_9 : decode b_TankArena_restart 9 = .ok (.getfield 27, 3) := by decide +kernel
theorem d_TankArena_restart_12 : decode b_TankArena_restart 12 = .ok (.if_icmp .ge 18, 3) := by decide +kernel
theorem d_TankArena_restart_15 : decode b_TankArena_restart 15 = .ok (.aload_n 0, 1) := by decide +kernel
theorem d_TankArena_restart_16 : decode b_TankArena_restart 16 = .ok (.getfield 11, 3) := by decide +kernel
theorem d_TankArena_restart_19 : decode b_TankArena_restart 19 = .ok (.iload_n 2, 1) := by decide +kernel
theorem d_TankArena_restart_20 : decode b_TankArena_restart 20 = .ok (.aaload, 1) := by decide +kernel
theorem d_TankArena_restart_21 : decode b_TankArena_restart 21 = .ok (.invokevirtual 88, 3) := by decide +kernel
theorem d_TankArena_restart_24 : decode b_TankArena_restart 24 = .ok (.iinc 2 1, 3) := by decide +kernel
theorem d_TankArena_restart_27 : decode b_TankArena_restart 27 = .ok (.goto (-20), 3) := by decide +kernel
theorem d_TankArena_restart_30 : decode b_TankArena_restart 30 = .ok (.aload_n 0, 1) := by decide +kernel
theorem d_TankArena_restart_31 : decode b_TankArena_restart 31 = .ok (.iconst 0, 1) := by decide +kernel
theorem d_TankArena_restart_32 : decode b_TankArena_restart 32 = .ok (.putfield 23, 3) := by decide +kernel
theorem d_TankArena_restart_35 : decode b_TankArena_restart 35 = .ok (.aload_n 0, 1) := by decide +kernel
theorem d_TankArena_restart_36 : decode b_TankArena_restart 36 = .ok (.iconst 0, 1) := by decide +kernel
theorem d_TankArena_restart_37 : decode b_TankArena_restart 37 = .ok (.putfield 91, 3) := by decide +kernel
theorem d_TankArena_restart_40 : decode b_TankArena_restart 40 = .ok (.aload_n 0, 1) := by decide +kernel
theorem d_TankArena_restart_41 : decode b_TankArena_restart 41 = .ok (.iconst 0, 1) := by decide +kernel
theorem d_TankArena_restart_42 : decode b_TankArena_restart 42 = .ok (.putfield 94, 3) := by decide +kernel
theorem d_TankArena_restart_45 : decode b_TankArena_restart 45 = .ok (.aload_n 0, 1) := by decide +kernel
theorem d_TankArena_restart_46 : decode b_TankArena_restart 46 = .ok (.iconst 0, 1) := by decide +kernel
theorem d_TankArena_restart_47 : decode b_TankArena_restart 47 = .ok (.putfield 97, 3) := by decide +kernel
theorem d_TankArena_restart_50 : decode b_TankArena_restart 50 = .ok (.iload_n 1, 1) := by decide +kernel
theorem d_TankArena_restart_51 : decode b_TankArena_restart 51 = .ok (.ireturn, 1) := by decide +kernel
theorem d_TankArena_runProgram_0 : decode b_TankArena_runProgram 0 = .ok (.aload_n 1, 1) := by decide +kernel
theorem d_TankArena_runProgram_1 : decode b_TankArena_runProgram 1 = .ok (.getfield 145, 3) := by decide +kernel
theorem d_TankArena_runProgram_4 : decode b_TankArena_runProgram 4 = .ok (.istore_n 2, 1) := by decide +kernel
theorem d_TankArena_runProgram_5 : decode b_TankArena_runProgram 5 = .ok (.aload_n 0, 1) := by decide +kernel
theorem d_TankArena_runProgram_6 : decode b_TankArena_runProgram 6 = .ok (.aload_n 1, 1) := by decide +kernel
theorem d_TankArena_runProgram_7 : decode b_TankArena_runProgram 7 = .ok (.invokevirtual 148, 3) := by decide +kernel
theorem d_TankArena_runProgram_10 : decode b_TankArena_runProgram 10 = .ok (.ifCond .eq 28, 3) := by decide +kernel
theorem d_TankArena_runProgram_13 : decode b_TankArena_runProgram 13 = .ok (.aload_n 1, 1) := by decide +kernel
theorem d_TankArena_runProgram_14 : decode b_TankArena_runProgram 14 = .ok (.getfield 152, 3) := by decide +kernel
theorem d_TankArena_runProgram_17 : decode b_TankArena_runProgram 17 = .ok (.dup, 1) := by decide +kernel
theorem d_TankArena_runProgram_18 : decode b_TankArena_runProgram 18 = .ok (.getfield 156, 3) := by decide +kernel
theorem d_TankArena_runProgram_21 : decode b_TankArena_runProgram 21 = .ok (.iconst 1, 1) := by decide +kernel
theorem d_TankArena_runProgram_22 : decode b_TankArena_runProgram 22 = .ok (.iadd, 1) := by decide +kernel
theorem d_TankArena_runProgram_23 : decode b_TankArena_runProgram 23 = .ok (.putfield 156, 3) := by decide +kernel
theorem d_TankArena_runProgram_26 : decode b_TankArena_runProgram 26 = .ok (.aload_n 1, 1) := by decide +kernel
theorem d_TankArena_runProgram_27 : decode b_TankArena_runProgram 27 = .ok (.getfield 129, 3) := by decide +kernel
theorem d_TankArena_runProgram_30 : decode b_TankArena_runProgram 30 = .ok (.invokevirtual 133, 3) := by decide +kernel
theorem d_TankArena_runProgram_33 : decode b_TankArena_runProgram 33 = .ok (.aload_n 1, 1) := by decide +kernel
theorem d_TankArena_runProgram_34 : decode b_TankArena_runProgram 34 = .ok (.iload_n 2, 1) := by decide +kernel
theorem d_TankArena_runProgram_35 : decode b_TankArena_runProgram 35 = .ok (.putfield 145, 3) := by decide +kernel
theorem d_TankArena_runProgram_38 : decode b_TankArena_runProgram 38 = .ok (.return_, 1) := by decide +kernel
theorem d_TankArena_runPrograms_0 : decode b_TankArena_runPrograms 0 = .ok (.iconst 0, 1) := by decide +kernel
theorem d_TankArena_runPrograms_1 : decode b_TankArena_runPrograms 1 = .ok (.istore_n 1, 1) := by decide +kernel
theorem d_TankArena_runPrograms_2 : decode b_TankArena_runPrograms 2 = .ok (.iload_n 1, 1) := by decide +kernel
theorem d_TankArena_runPrograms_3 : decode b_TankArena_runPrograms 3 = .ok (.aload_n 0, 1) := by decide +kernel
theorem d_TankArena_runPrograms_4 : decode b_TankArena_runPrograms 4 = .ok (.getfield 27, 3) := by decide +kernel
theorem d_TankArena_runPrograms_7 : decode b_TankArena_runPrograms 7 = .ok (.if_icmp .ge 42, 3) := by decide +kernel
theorem d_TankArena_runPrograms_10 : decode b_TankArena_runPrograms 10 = .ok (.aload_n 0, 1) := by decide +kernel
theorem d_TankArena_runPrograms_11 : decode b_TankArena_runPrograms 11 = .ok (.getfield 11, 3) := by decide +kernel
theorem d_TankArena_runPrograms_14 : decode b_TankArena_runPrograms 14 = .ok (.iload_n 1, 1) := by decide +kernel
theorem d_TankArena_runPrograms_15 : decode b_TankArena_runPrograms 15 = .ok (.aaload, 1) := by decide +kernel
theorem d_TankArena_runPrograms_16 : decode b_TankArena_runPrograms 16 = .ok (.astore_n 2, 1) := by decide +kernel
theorem d_TankArena_runPrograms_17 : decode b_TankArena_runPrograms 17 = .ok (.aload_n 2, 1) := by decide +kernel
theorem d_TankArena_runPrograms_18 : decode b_TankArena_runPrograms 18 = .ok (.getfield 129, 3) := by decide +kernel
theorem d_TankArena_runPrograms_21 : decode b_TankArena_runPrograms 21 = .ok (.invokevirtual 133, 3) := by decide +kernel
theorem d_TankArena_runPrograms_24 : decode b_TankArena_runPrograms 24 = .ok (.aload_n 2, 1) := by decide +kernel
theorem d_TankArena_runPrograms_25 : decode b_TankArena_runPrograms 25 = .ok (.getfield 125, 3) := by decide +kernel
theorem d_TankArena_runPrograms_28 : decode b_TankArena_runPrograms 28 = .ok (.ifCond .eq 15, 3) := by decide +kernel
theorem d_TankArena_runPrograms_31 : decode b_TankArena_runPrograms 31 = .ok (.aload_n 2, 1) := by decide +kernel
theorem d_TankArena_runPrograms_32 : decode b_TankArena_runPrograms 32 = .ok (.invokevirtual 138, 3) := by decide +kernel
theorem d_TankArena_runPrograms_35 : decode b_TankArena_runPrograms 35 = .ok (.ifCond .ne 8, 3) := by decide +kernel
theorem d_TankArena_runPrograms_38 : decode b_TankArena_runPrograms 38 = .ok (.aload_n 0, 1) := by decide +kernel
theorem d_TankArena_runPrograms_39 : decode b_TankArena_runPrograms 39 = .ok (.aload_n 2, 1) := by decide +kernel
theorem d_TankArena_runPrograms_40 : decode b_TankArena_runPrograms 40 = .ok (.invokevirtual 141, 3) := by decide +kernel
theorem d_TankArena_runPrograms_43 : decode b_TankArena_runPrograms 43 = .ok (.iinc 1 1, 3) := by decide +kernel
theorem d_TankArena_runPrograms_46 : decode b_TankArena_runPrograms 46 = .ok (.goto (-44), 3) := by decide +kernel
theorem d_TankArena_runPrograms_49 : decode b_TankArena_runPrograms 49 = .ok (.return_, 1) := by decide +kernel
theorem d_TankArena_sector_0 : decode b_TankArena_sector 0 = .ok (.aload_n 1, 1) := by decide +kernel
theorem d_TankArena_sector_1 : decode b_TankArena_sector 1 = .ok (.getfield 110, 3) := by decide +kernel
theorem d_TankArena_sector_4 : decode b_TankArena_sector 4 = .ok (.aload_n 0, 1) := by decide +kernel
theorem d_TankArena_sector_5 : decode b_TankArena_sector 5 = .ok (.getfield 110, 3) := by decide +kernel
theorem d_TankArena_sector_8 : decode b_TankArena_sector 8 = .ok (.isub, 1) := by decide +kernel
theorem d_TankArena_sector_9 : decode b_TankArena_sector 9 = .ok (.istore_n 2, 1) := by decide +kernel
theorem d_TankArena_sector_10 : decode b_TankArena_sector 10 = .ok (.aload_n 1, 1) := by decide +kernel
theorem d_TankArena_sector_11 : decode b_TankArena_sector 11 = .ok (.getfield 113, 3) := by decide +kernel
theorem d_TankArena_sector_14 : decode b_TankArena_sector 14 = .ok (.aload_n 0, 1) := by decide +kernel
theorem d_TankArena_sector_15 : decode b_TankArena_sector 15 = .ok (.getfield 113, 3) := by decide +kernel
theorem d_TankArena_sector_18 : decode b_TankArena_sector 18 = .ok (.isub, 1) := by decide +kernel
theorem d_TankArena_sector_19 : decode b_TankArena_sector 19 = .ok (.istore_n 3, 1) := by decide +kernel
theorem d_TankArena_sector_20 : decode b_TankArena_sector 20 = .ok (.iload_n 2, 1) := by decide +kernel
theorem d_TankArena_sector_21 : decode b_TankArena_sector 21 = .ok (.invokestatic 116, 3) := by decide +kernel
theorem d_TankArena_sector_24 : decode b_TankArena_sector 24 = .ok (.istore 4, 2) := by decide +kernel
theorem d_TankArena_sector_26 : decode b_TankArena_sector 26 = .ok (.iload_n 3, 1) := by decide +kernel
theorem d_TankArena_sector_27 : decode b_TankArena_sector 27 = .ok (.invokestatic 116, 3) := by decide +kernel
theorem d_TankArena_sector_30 : decode b_TankArena_sector 30 = .ok (.istore 5, 2) := by decide +kernel
theorem d_TankArena_sector_32 : decode b_TankArena_sector 32 = .ok (.iconst 2, 1) := by decide +kernel
theorem d_TankArena_sector_33 : decode b_TankArena_sector 33 = .ok (.iload 5, 2) := by decide +kernel
theorem d_TankArena_sector_35 : decode b_TankArena_sector 35 = .ok (.imul, 1) := by decide +kernel
theorem d_TankArena_sector_36 : decode b_TankArena_sector 36 = .ok (.iload 4, 2) := by decide +kernel
theorem d_TankArena_sector_38 : decode b_TankArena_sector 38 = .ok (.if_icmp .gt 13, 3) := by decide +kernel
theorem d_TankArena_sector_41 : decode b_TankArena_sector 41 = .ok (.iload_n 2, 1) := by decide +kernel
theorem d_TankArena_sector_42 : decode b_TankArena_sector 42 = .ok (.ifCond .le 7, 3) := by decide +kernel
theorem d_TankArena_sector_45 : decode b_TankArena_sector 45 = .ok (.iconst 0, 1) := by decide +kernel
theorem d_TankArena_sector_46 : decode b_TankArena_sector 46 = .ok (.goto 4, 3) := by decide +kernel
theorem d_TankArena_sector_49 : decode b_TankArena_sector 49 = .ok (.iconst 4, 1) := by decide +kernel
theorem d_TankArena_sector_50 : decode b_TankArena_sector 50 = .ok (.ireturn, 1) := by decide +kernel
theorem d_TankArena_sector_51 : decode b_TankArena_sector 51 = .ok (.iconst 2, 1) := by decide +kernel
theorem d_TankArena_sector_52 : decode b_TankArena_sector 52 = .ok (.iload 4, 2) := by decide +kernel
theorem d_TankArena_sector_54 : decode b_TankArena_sector 54 = .ok (.imul, 1) := by decide +kernel
theorem d_TankArena_sector_55 : decode b_TankArena_sector 55 = .ok (.iload 5, 2) := by decide +kernel
theorem d_TankArena_sector_57 : decode b_TankArena_sector 57 = .ok (.if_icmp .gt 14, 3) := by decide +kernel
theorem d_TankArena_sector_60 : decode b_TankArena_sector 60 = .ok (.iload_n 3, 1) := by decide +kernel
theorem d_TankArena_sector_61 : decode b_TankArena_sector 61 = .ok (.ifCond .le 7, 3) := by decide +kernel
theorem d_TankArena_sector_64 : decode b_TankArena_sector 64 = .ok (.iconst 2, 1) := by decide +kernel
theorem d_TankArena_sector_65 : decode b_TankArena_sector 65 = .ok (.goto 5, 3) := by decide +kernel
theorem d_TankArena_sector_68 : decode b_TankArena_sector 68 = .ok (.bipush 6, 2) := by decide +kernel
theorem d_TankArena_sector_70 : decode b_TankArena_sector 70 = .ok (.ireturn, 1) := by decide +kernel
theorem d_TankArena_sector_71 : decode b_TankArena_sector 71 = .ok (.iload_n 2, 1) := by decide +kernel
