/-! DECODE ROWS (printed by gen/words.py) -/
theorem d_TankArena_sector_72 : decode b_TankArena_sector 72 = .ok (.ifCond .le 14, 3) := by decide +kernel
theorem d_TankArena_sector_75 : decode b_TankArena_sector 75 = .ok (.iload_n 3, 1) := by decide +kernel
theorem d_TankArena_sector_76 : decode b_TankArena_sector 76 = .ok (.ifCond .le 7, 3) := by decide +kernel
theorem d_TankArena_sector_79 : decode b_TankArena_sector 79 = .ok (.iconst 1, 1) := by decide +kernel
theorem d_TankArena_sector_80 : decode b_TankArena_sector 80 = .ok (.goto 5, 3) := by decide +kernel
theorem d_TankArena_sector_83 : decode b_TankArena_sector 83 = .ok (.bipush 7, 2) := by decide +kernel
theorem d_TankArena_sector_85 : decode b_TankArena_sector 85 = .ok (.ireturn, 1) := by decide +kernel
theorem d_TankArena_sector_86 : decode b_TankArena_sector 86 = .ok (.iload_n 3, 1) := by decide +kernel
theorem d_TankArena_sector_87 : decode b_TankArena_sector 87 = .ok (.ifCond .le 7, 3) := by decide +kernel
theorem d_TankArena_sector_90 : decode b_TankArena_sector 90 = .ok (.iconst 3, 1) := by decide +kernel
theorem d_TankArena_sector_91 : decode b_TankArena_sector 91 = .ok (.goto 4, 3) := by decide +kernel
theorem d_TankArena_sector_94 : decode b_TankArena_sector 94 = .ok (.iconst 5, 1) := by decide +kernel
theorem d_TankArena_sector_95 : decode b_TankArena_sector 95 = .ok (.ireturn, 1) := by decide +kernel
theorem d_TankArena_spendsBudget_0 : decode b_TankArena_spendsBudget 0 = .ok (.aload_n 1, 1) := by decide +kernel
theorem d_TankArena_spendsBudget_1 : decode b_TankArena_spendsBudget 1 = .ok (.getfield 52, 3) := by decide +kernel
theorem d_TankArena_spendsBudget_4 : decode b_TankArena_spendsBudget 4 = .ok (.astore_n 2, 1) := by decide +kernel
theorem d_TankArena_spendsBudget_5 : decode b_TankArena_spendsBudget 5 = .ok (.aload_n 1, 1) := by decide +kernel
theorem d_TankArena_spendsBudget_6 : decode b_TankArena_spendsBudget 6 = .ok (.getfield 152, 3) := by decide +kernel
theorem d_TankArena_spendsBudget_9 : decode b_TankArena_spendsBudget 9 = .ok (.astore_n 3, 1) := by decide +kernel
theorem d_TankArena_spendsBudget_10 : decode b_TankArena_spendsBudget 10 = .ok (.iconst 0, 1) := by decide +kernel
theorem d_TankArena_spendsBudget_11 : decode b_TankArena_spendsBudget 11 = .ok (.istore 4, 2) := by decide +kernel
theorem d_TankArena_spendsBudget_13 : decode b_TankArena_spendsBudget 13 = .ok (.iload 4, 2) := by decide +kernel
theorem d_TankArena_spendsBudget_15 : decode b_TankArena_spendsBudget 15 = .ok (.bipush 10, 2) := by decide +kernel
theorem d_TankArena_spendsBudget_17 : decode b_TankArena_spendsBudget 17 = .ok (.if_icmp .ge 100, 3) := by decide +kernel
theorem d_TankArena_spendsBudget_20 : decode b_TankArena_spendsBudget 20 = .ok (.aload_n 3, 1) := by decide +kernel
theorem d_TankArena_spendsBudget_21 : decode b_TankArena_spendsBudget 21 = .ok (.getfield 161, 3) := by decide +kernel
theorem d_TankArena_spendsBudget_24 : decode b_TankArena_spendsBudget 24 = .ok (.istore 5, 2) := by decide +kernel
theorem d_TankArena_spendsBudget_26 : decode b_TankArena_spendsBudget 26 = .ok (.iload 5, 2) := by decide +kernel
theorem d_TankArena_spendsBudget_28 : decode b_TankArena_spendsBudget 28 = .ok (.aload_n 2, 1) := by decide +kernel
theorem d_TankArena_spendsBudget_29 : decode b_TankArena_spendsBudget 29 = .ok (.getfield 63, 3) := by decide +kernel
theorem d_TankArena_spendsBudget_32 : decode b_TankArena_spendsBudget 32 = .ok (.if_icmp .lt 10, 3) := by decide +kernel
theorem d_TankArena_spendsBudget_35 : decode b_TankArena_spendsBudget 35 = .ok (.aload_n 3, 1) := by decide +kernel
theorem d_TankArena_spendsBudget_36 : decode b_TankArena_spendsBudget 36 = .ok (.iconst 0, 1) := by decide +kernel
theorem d_TankArena_spendsBudget_37 : decode b_TankArena_spendsBudget 37 = .ok (.putfield 161, 3) := by decide +kernel
theorem d_TankArena_spendsBudget_40 : decode b_TankArena_spendsBudget 40 = .ok (.iconst 0, 1) := by decide +kernel
theorem d_TankArena_spendsBudget_41 : decode b_TankArena_spendsBudget 41 = .ok (.ireturn, 1) := by decide +kernel
theorem d_TankArena_spendsBudget_42 : decode b_TankArena_spendsBudget 42 = .ok (.aload_n 2, 1) := by decide +kernel
theorem d_TankArena_spendsBudget_43 : decode b_TankArena_spendsBudget 43 = .ok (.getfield 164, 3) := by decide +kernel
theorem d_TankArena_spendsBudget_46 : decode b_TankArena_spendsBudget 46 = .ok (.iload 5, 2) := by decide +kernel
theorem d_TankArena_spendsBudget_48 : decode b_TankArena_spendsBudget 48 = .ok (.iaload, 1) := by decide +kernel
theorem d_TankArena_spendsBudget_49 : decode b_TankArena_spendsBudget 49 = .ok (.istore 6, 2) := by decide +kernel
theorem d_TankArena_spendsBudget_51 : decode b_TankArena_spendsBudget 51 = .ok (.aload_n 2, 1) := by decide +kernel
theorem d_TankArena_spendsBudget_52 : decode b_TankArena_spendsBudget 52 = .ok (.getfield 168, 3) := by decide +kernel
theorem d_TankArena_spendsBudget_55 : decode b_TankArena_spendsBudget 55 = .ok (.iload 5, 2) := by decide +kernel
theorem d_TankArena_spendsBudget_57 : decode b_TankArena_spendsBudget 57 = .ok (.iaload, 1) := by decide +kernel
theorem d_TankArena_spendsBudget_58 : decode b_TankArena_spendsBudget 58 = .ok (.istore 7, 2) := by decide +kernel
theorem d_TankArena_spendsBudget_60 : decode b_TankArena_spendsBudget 60 = .ok (.aload_n 2, 1) := by decide +kernel
theorem d_TankArena_spendsBudget_61 : decode b_TankArena_spendsBudget 61 = .ok (.getfield 171, 3) := by decide +kernel
theorem d_TankArena_spendsBudget_64 : decode b_TankArena_spendsBudget 64 = .ok (.iload 5, 2) := by decide +kernel
theorem d_TankArena_spendsBudget_66 : decode b_TankArena_spendsBudget 66 = .ok (.iaload, 1) := by decide +kernel
theorem d_TankArena_spendsBudget_67 : decode b_TankArena_spendsBudget 67 = .ok (.istore 8, 2) := by decide +kernel
theorem d_TankArena_spendsBudget_69 : decode b_TankArena_spendsBudget 69 = .ok (.aload_n 1, 1) := by decide +kernel
theorem d_TankArena_spendsBudget_70 : decode b_TankArena_spendsBudget 70 = .ok (.iload 6, 2) := by decide +kernel
theorem d_TankArena_spendsBudget_72 : decode b_TankArena_spendsBudget 72 = .ok (.iload 7, 2) := by decide +kernel
theorem d_TankArena_spendsBudget_74 : decode b_TankArena_spendsBudget 74 = .ok (.iload 8, 2) := by decide +kernel
theorem d_TankArena_spendsBudget_76 : decode b_TankArena_spendsBudget 76 = .ok (.invokestatic 174, 3) := by decide +kernel
theorem d_TankArena_spendsBudget_79 : decode b_TankArena_spendsBudget 79 = .ok (.aload_n 3, 1) := by decide +kernel
theorem d_TankArena_spendsBudget_80 : decode b_TankArena_spendsBudget 80 = .ok (.aload_n 0, 1) := by decide +kernel
theorem d_TankArena_spendsBudget_81 : decode b_TankArena_spendsBudget 81 = .ok (.aload_n 1, 1) := by decide +kernel
theorem d_TankArena_spendsBudget_82 : decode b_TankArena_spendsBudget 82 = .ok (.iload 6, 2) := by decide +kernel
theorem d_TankArena_spendsBudget_84 : decode b_TankArena_spendsBudget 84 = .ok (.iload 8, 2) := by decide +kernel
theorem d_TankArena_spendsBudget_86 : decode b_TankArena_spendsBudget 86 = .ok (.invokevirtual 178, 3) := by decide +kernel
theorem d_TankArena_spendsBudget_89 : decode b_TankArena_spendsBudget 89 = .ok (.ifCond .eq 8, 3) := by decide +kernel
theorem d_TankArena_spendsBudget_92 : decode b_TankArena_spendsBudget 92 = .ok (.iload 7, 2) := by decide +kernel
theorem d_TankArena_spendsBudget_94 : decode b_TankArena_spendsBudget 94 = .ok (.goto 7, 3) := by decide +kernel
theorem d_TankArena_spendsBudget_97 : decode b_TankArena_spendsBudget 97 = .ok (.iload 5, 2) := by decide +kernel
theorem d_TankArena_spendsBudget_99 : decode b_TankArena_spendsBudget 99 = .ok (.iconst 1, 1) := by decide +kernel
theorem d_TankArena_spendsBudget_100 : decode b_TankArena_spendsBudget 100 = .ok (.iadd, 1) := by decide +kernel
theorem d_TankArena_spendsBudget_101 : decode b_TankArena_spendsBudget 101 = .ok (.putfield 161, 3) := by decide +kernel
theorem d_TankArena_spendsBudget_104 : decode b_TankArena_spendsBudget 104 = .ok (.iload 6, 2) := by decide +kernel
theorem d_TankArena_spendsBudget_106 : decode b_TankArena_spendsBudget 106 = .ok (.ifCond .ne 5, 3) := by decide +kernel
theorem d_TankArena_spendsBudget_109 : decode b_TankArena_spendsBudget 109 = .ok (.iconst 0, 1) := by decide +kernel
theorem d_TankArena_spendsBudget_110 : decode b_TankArena_spendsBudget 110 = .ok (.ireturn, 1) := by decide +kernel
theorem d_TankArena_spendsBudget_111 : decode b_TankArena_spendsBudget 111 = .ok (.iinc 4 1, 3) := by decide +kernel
theorem d_TankArena_spendsBudget_114 : decode b_TankArena_spendsBudget 114 = .ok (.goto (-101), 3) := by decide +kernel
theorem d_TankArena_spendsBudget_117 : decode b_TankArena_spendsBudget 117 = .ok (.iconst 1, 1) := by decide +kernel
theorem d_TankArena_spendsBudget_118 : decode b_TankArena_spendsBudget 118 = .ok (.ireturn, 1) := by decide +kernel
theorem d_TankArena_state_0 : decode b_TankArena_state 0 = .ok (.aload_n 0, 1) := by decide +kernel
theorem d_TankArena_state_1 : decode b_TankArena_state 1 = .ok (.iload_n 1, 1) := by decide +kernel
theorem d_TankArena_state_2 : decode b_TankArena_state 2 = .ok (.invokevirtual 43, 3) := by decide +kernel
theorem d_TankArena_state_5 : decode b_TankArena_state 5 = .ok (.ifCond .eq 16, 3) := by decide +kernel
theorem d_TankArena_state_8 : decode b_TankArena_state 8 = .ok (.aload_n 0, 1) := by decide +kernel
theorem d_TankArena_state_9 : decode b_TankArena_state 9 = .ok (.getfield 11, 3) := by decide +kernel
theorem d_TankArena_state_12 : decode b_TankArena_state 12 = .ok (.iload_n 1, 1) := by decide +kernel
theorem d_TankArena_state_13 : decode b_TankArena_state 13 = .ok (.aaload, 1) := by decide +kernel
theorem d_TankArena_state_14 : decode b_TankArena_state 14 = .ok (.iload_n 2, 1) := by decide +kernel
theorem d_TankArena_state_15 : decode b_TankArena_state 15 = .ok (.invokevirtual 106, 3) := by decide +kernel
theorem d_TankArena_state_18 : decode b_TankArena_state 18 = .ok (.goto 5, 3) := by decide +kernel
theorem d_TankArena_state_21 : decode b_TankArena_state 21 = .ok (.ldc 34, 2) := by decide +kernel
theorem d_TankArena_state_23 : decode b_TankArena_state 23 = .ok (.ireturn, 1) := by decide +kernel
theorem d_TankArena_staysThere_0 : decode b_TankArena_staysThere 0 = .ok (.iconst 0, 1) := by decide +kernel
theorem d_TankArena_staysThere_1 : decode b_TankArena_staysThere 1 = .ok (.istore_n 2, 1) := by decide +kernel
theorem d_TankArena_staysThere_2 : decode b_TankArena_staysThere 2 = .ok (.iload_n 2, 1) := by decide +kernel
theorem d_TankArena_staysThere_3 : decode b_TankArena_staysThere 3 = .ok (.bipush 8, 2) := by decide +kernel
theorem d_TankArena_staysThere_5 : decode b_TankArena_staysThere 5 = .ok (.aload_n 1, 1) := by decide +kernel
theorem d_TankArena_staysThere_6 : decode b_TankArena_staysThere 6 = .ok (.getfield 245, 3) := by decide +kernel
theorem d_TankArena_staysThere_9 : decode b_TankArena_staysThere 9 = .ok (.isub, 1) := by decide +kernel
theorem d_TankArena_staysThere_10 : decode b_TankArena_staysThere 10 = .ok (.if_icmp .ge 41, 3) := by decide +kernel
theorem d_TankArena_staysThere_13 : decode b_TankArena_staysThere 13 = .ok (.aload_n 1, 1) := by decide +kernel
theorem d_TankArena_staysThere_14 : decode b_TankArena_staysThere 14 = .ok (.invokevirtual 246, 3) := by decide +kernel
theorem d_TankArena_staysThere_17 : decode b_TankArena_staysThere 17 = .ok (.aload_n 1, 1) := by decide +kernel
theorem d_TankArena_staysThere_18 : decode b_TankArena_staysThere 18 = .ok (.invokevirtual 249, 3) := by decide +kernel
theorem d_TankArena_staysThere_21 : decode b_TankArena_staysThere 21 = .ok (.ifCond .ne 5, 3) := by decide +kernel
theorem d_TankArena_staysThere_24 : decode b_TankArena_staysThere 24 = .ok (.iconst 0, 1) := by decide +kernel
theorem d_TankArena_staysThere_25 : decode b_TankArena_staysThere 25 = .ok (.ireturn, 1) := by decide +kernel
theorem d_TankArena_staysThere_26 : decode b_TankArena_staysThere 26 = .ok (.aload_n 0, 1) := by decide +kernel
theorem d_TankArena_staysThere_27 : decode b_TankArena_staysThere 27 = .ok (.aload_n 1, 1) := by decide +kernel
theorem d_TankArena_staysThere_28 : decode b_TankArena_staysThere 28 = .ok (.invokevirtual 252, 3) := by decide +kernel
theorem d_TankArena_staysThere_31 : decode b_TankArena_staysThere 31 = .ok (.istore_n 3, 1) := by decide +kernel
theorem d_TankArena_staysThere_32 : decode b_TankArena_staysThere 32 = .ok (.iload_n 3, 1) := by decide +kernel
theorem d_TankArena_staysThere_33 : decode b_TankArena_staysThere 33 = .ok (.iconst 4, 1) := by decide +kernel
theorem d_TankArena_staysThere_34 : decode b_TankArena_staysThere 34 = .ok (.if_icmp .eq 11, 3) := by decide +kernel
theorem d_TankArena_staysThere_37 : decode b_TankArena_staysThere 37 = .ok (.aload_n 0, 1) := by decide +kernel
theorem d_TankArena_staysThere_38 : decode b_TankArena_staysThere 38 = .ok (.aload_n 1, 1) := by decide +kernel
theorem d_TankArena_staysThere_39 : decode b_TankArena_staysThere 39 = .ok (.iload_n 3, 1) := by decide +kernel
theorem d_TankArena_staysThere_40 : decode b_TankArena_staysThere 40 = .ok (.invokevirtual 256, 3) := by decide +kernel
theorem d_TankArena_staysThere_43 : decode b_TankArena_staysThere 43 = .ok (.iconst 0, 1) := by decide +kernel
theorem d_TankArena_staysThere_44 : decode b_TankArena_staysThere 44 = .ok (.ireturn, 1) := by decide +kernel
theorem d_TankArena_staysThere_45 : decode b_TankArena_staysThere 45 = .ok (.iinc 2 1, 3) := by decide +kernel
theorem d_TankArena_staysThere_48 : decode b_TankArena_staysThere 48 = .ok (.goto (-46), 3) := by decide +kernel
theorem d_TankArena_staysThere_51 : decode b_TankArena_staysThere 51 = .ok (.iconst 1, 1) := by decide +kernel
theorem d_TankArena_staysThere_52 : decode b_TankArena_staysThere 52 = .ok (.ireturn, 1) := by decide +kernel
theorem d_TankArena_strike_0 : decode b_TankArena_strike 0 = .ok (.aload_n 0, 1) := by decide +kernel
theorem d_TankArena_strike_1 : decode b_TankArena_strike 1 = .ok (.getfield 11, 3) := by decide +kernel
theorem d_TankArena_strike_4 : decode b_TankArena_strike 4 = .ok (.iload_n 2, 1) := by decide +kernel
theorem d_TankArena_strike_5 : decode b_TankArena_strike 5 = .ok (.aaload, 1) := by decide +kernel
theorem d_TankArena_strike_6 : decode b_TankArena_strike 6 = .ok (.astore_n 3, 1) := by decide +kernel
theorem d_TankArena_strike_7 : decode b_TankArena_strike 7 = .ok (.aload_n 0, 1) := by decide +kernel
theorem d_TankArena_strike_8 : decode b_TankArena_strike 8 = .ok (.getfield 11, 3) := by decide +kernel
theorem d_TankArena_strike_11 : decode b_TankArena_strike 11 = .ok (.aload_n 1, 1) := by decide +kernel
theorem d_TankArena_strike_12 : decode b_TankArena_strike 12 = .ok (.getfield 265, 3) := by decide +kernel
theorem d_TankArena_strike_15 : decode b_TankArena_strike 15 = .ok (.aaload, 1) := by decide +kernel
theorem d_TankArena_strike_16 : decode b_TankArena_strike 16 = .ok (.astore 4, 2) := by decide +kernel
theorem d_TankArena_strike_18 : decode b_TankArena_strike 18 = .ok (.aload_n 1, 1) := by decide +kernel
theorem d_TankArena_strike_19 : decode b_TankArena_strike 19 = .ok (.invokevirtual 268, 3) := by decide +kernel
theorem d_TankArena_strike_22 : decode b_TankArena_strike 22 = .ok (.istore 5, 2) := by decide +kernel
theorem d_TankArena_strike_24 : decode b_TankArena_strike 24 = .ok (.aload_n 3, 1) := by decide +kernel
theorem d_TankArena_strike_25 : decode b_TankArena_strike 25 = .ok (.dup, 1) := by decide +kernel
theorem d_TankArena_strike_26 : decode b_TankArena_strike 26 = .ok (.getfield 231, 3) := by decide +kernel
theorem d_TankArena_strike_29 : decode b_TankArena_strike 29 = .ok (.iload 5, 2) := by decide +kernel
theorem d_TankArena_strike_31 : decode b_TankArena_strike 31 = .ok (.isub, 1) := by decide +kernel
theorem d_TankArena_strike_32 : decode b_TankArena_strike 32 = .ok (.putfield 231, 3) := by decide +kernel
theorem d_TankArena_strike_35 : decode b_TankArena_strike 35 = .ok (.aload_n 3, 1) := by decide +kernel
theorem d_TankArena_strike_36 : decode b_TankArena_strike 36 = .ok (.getfield 197, 3) := by decide +kernel
theorem d_TankArena_strike_39 : decode b_TankArena_strike 39 = .ok (.iconst 1, 1) := by decide +kernel
theorem d_TankArena_strike_40 : decode b_TankArena_strike 40 = .ok (.putfield 209, 3) := by decide +kernel
theorem d_TankArena_strike_43 : decode b_TankArena_strike 43 = .ok (.aload 4, 2) := by decide +kernel
theorem d_TankArena_strike_45 : decode b_TankArena_strike 45 = .ok (.dup, 1) := by decide +kernel
theorem d_TankArena_strike_46 : decode b_TankArena_strike 46 = .ok (.getfield 271, 3) := by decide +kernel
theorem d_TankArena_strike_49 : decode b_TankArena_strike 49 = .ok (.iload 5, 2) := by decide +kernel
theorem d_TankArena_strike_51 : decode b_TankArena_strike 51 = .ok (.iadd, 1) := by decide +kernel
theorem d_TankArena_strike_52 : decode b_TankArena_strike 52 = .ok (.putfield 271, 3) := by decide +kernel
theorem d_TankArena_strike_55 : decode b_TankArena_strike 55 = .ok (.aload_n 0, 1) := by decide +kernel
theorem d_TankArena_strike_56 : decode b_TankArena_strike 56 = .ok (.dup, 1) := by decide +kernel
theorem d_TankArena_strike_57 : decode b_TankArena_strike 57 = .ok (.getfield 97, 3) := by decide +kernel
theorem d_TankArena_strike_60 : decode b_TankArena_strike 60 = .ok (.iconst 1, 1) := by decide +kernel
theorem d_TankArena_strike_61 : decode b_TankArena_strike 61 = .ok (.iadd, 1) := by decide +kernel
theorem d_TankArena_strike_62 : decode b_TankArena_strike 62 = .ok (.putfield 97, 3) := by decide +kernel
theorem d_TankArena_strike_65 : decode b_TankArena_strike 65 = .ok (.aload 4, 2) := by decide +kernel
theorem d_TankArena_strike_67 : decode b_TankArena_strike 67 = .ok (.getfield 125, 3) := by decide +kernel
theorem d_TankArena_strike_70 : decode b_TankArena_strike 70 = .ok (.ifCond .eq 22, 3) := by decide +kernel
theorem d_TankArena_strike_73 : decode b_TankArena_strike 73 = .ok (.aload 4, 2) := by decide +kernel
theorem d_TankArena_strike_75 : decode b_TankArena_strike 75 = .ok (.dup, 1) := by decide +kernel
theorem d_TankArena_strike_76 : decode b_TankArena_strike 76 = .ok (.getfield 231, 3) := by decide +kernel
theorem d_TankArena_strike_79 : decode b_TankArena_strike 79 = .ok (.iconst 3, 1) := by decide +kernel
theorem d_TankArena_strike_80 : decode b_TankArena_strike 80 = .ok (.aload_n 1, 1) := by decide +kernel
theorem d_TankArena_strike_81 : decode b_TankArena_strike 81 = .ok (.getfield 245, 3) := by decide +kernel
theorem d_TankArena_strike_84 : decode b_TankArena_strike 84 = .ok (.imul, 1) := by decide +kernel
theorem d_TankArena_strike_85 : decode b_TankArena_strike 85 = .ok (.bipush 8, 2) := by decide +kernel
theorem d_TankArena_strike_87 : decode b_TankArena_strike 87 = .ok (.imul, 1) := by decide +kernel
theorem d_TankArena_strike_88 : decode b_TankArena_strike 88 = .ok (.iadd, 1) := by decide +kernel
theorem d_TankArena_strike_89 : decode b_TankArena_strike 89 = .ok (.putfield 231, 3) := by decide +kernel
theorem d_TankArena_strike_92 : decode b_TankArena_strike 92 = .ok (.aload_n 0, 1) := by decide +kernel
theorem d_TankArena_strike_93 : decode b_TankArena_strike 93 = .ok (.iload_n 2, 1) := by decide +kernel
theorem d_TankArena_strike_94 : decode b_TankArena_strike 94 = .ok (.invokevirtual 274, 3) := by decide +kernel
theorem d_TankArena_strike_97 : decode b_TankArena_strike 97 = .ok (.return_, 1) := by decide +kernel
theorem d_TankArena_sweepRadars_0 : decode b_TankArena_sweepRadars 0 = .ok (.iconst 0, 1) := by decide +kernel
theorem d_TankArena_sweepRadars_1 : decode b_TankArena_sweepRadars 1 = .ok (.istore_n 1, 1) := by decide +kernel
theorem d_TankArena_sweepRadars_2 : decode b_TankArena_sweepRadars 2 = .ok (.iload_n 1, 1) := by decide +kernel
theorem d_TankArena_sweepRadars_3 : decode b_TankArena_sweepRadars 3 = .ok (.aload_n 0, 1) := by decide +kernel
theorem d_TankArena_sweepRadars_4 : decode b_TankArena_sweepRadars 4 = .ok (.getfield 27, 3) := by decide +kernel
theorem d_TankArena_sweepRadars_7 : decode b_TankArena_sweepRadars 7 = .ok (.if_icmp .ge 26, 3) := by decide +kernel
theorem d_TankArena_sweepRadars_10 : decode b_TankArena_sweepRadars 10 = .ok (.aload_n 0, 1) := by decide +kernel
theorem d_TankArena_sweepRadars_11 : decode b_TankArena_sweepRadars 11 = .ok (.getfield 11, 3) := by decide +kernel
theorem d_TankArena_sweepRadars_14 : decode b_TankArena_sweepRadars 14 = .ok (.iload_n 1, 1) := by decide +kernel
theorem d_TankArena_sweepRadars_15 : decode b_TankArena_sweepRadars 15 = .ok (.aaload, 1) := by decide +kernel
theorem d_TankArena_sweepRadars_16 : decode b_TankArena_sweepRadars 16 = .ok (.getfield 125, 3) := by decide +kernel
theorem d_TankArena_sweepRadars_19 : decode b_TankArena_sweepRadars 19 = .ok (.ifCond .eq 8, 3) := by decide +kernel
theorem d_TankArena_sweepRadars_22 : decode b_TankArena_sweepRadars 22 = .ok (.aload_n 0, 1) := by decide +kernel
theorem d_TankArena_sweepRadars_23 : decode b_TankArena_sweepRadars 23 = .ok (.iload_n 1, 1) := by decide +kernel
theorem d_TankArena_sweepRadars_24 : decode b_TankArena_sweepRadars 24 = .ok (.invokevirtual 293, 3) := by decide +kernel
theorem d_TankArena_sweepRadars_27 : decode b_TankArena_sweepRadars 27 = .ok (.iinc 1 1, 3) := by decide +kernel
theorem d_TankArena_sweepRadars_30 : decode b_TankArena_sweepRadars 30 = .ok (.goto (-28), 3) := by decide +kernel
theorem d_TankArena_sweepRadars_33 : decode b_TankArena_sweepRadars 33 = .ok (.return_, 1) := by decide +kernel
theorem d_TankArena_turn_0 : decode b_TankArena_turn 0 = .ok (.aload_n 0, 1) := by decide +kernel
theorem d_TankArena_turn_1 : decode b_TankArena_turn 1 = .ok (.invokevirtual 66, 3) := by decide +kernel
theorem d_TankArena_turn_4 : decode b_TankArena_turn 4 = .ok (.iconst 2, 1) := by decide +kernel
theorem d_TankArena_turn_5 : decode b_TankArena_turn 5 = .ok (.if_icmp .ge 6, 3) := by decide +kernel
theorem d_TankArena_turn_8 : decode b_TankArena_turn 8 = .ok (.ldc 34, 2) := by decide +kernel
theorem d_TankArena_turn_10 : decode b_TankArena_turn 10 = .ok (.ireturn, 1) := by decide +kernel
theorem d_TankArena_turn_11 : decode b_TankArena_turn 11 = .ok (.aload_n 0, 1) := by decide +kernel
theorem d_TankArena_turn_12 : decode b_TankArena_turn 12 = .ok (.dup, 1) := by decide +kernel
theorem d_TankArena_turn_13 : decode b_TankArena_turn 13 = .ok (.getfield 23, 3) := by decide +kernel
theorem d_TankArena_turn_16 : decode b_TankArena_turn 16 = .ok (.iconst 1, 1) := by decide +kernel
theorem d_TankArena_turn_17 : decode b_TankArena_turn 17 = .ok (.iadd, 1) := by decide +kernel
theorem d_TankArena_turn_18 : decode b_TankArena_turn 18 = .ok (.putfield 23, 3) := by decide +kernel
theorem d_TankArena_turn_21 : decode b_TankArena_turn 21 = .ok (.aload_n 0, 1) := by decide +kernel
theorem d_TankArena_turn_22 : decode b_TankArena_turn 22 = .ok (.invokevirtual 70, 3) := by decide +kernel
theorem d_TankArena_turn_25 : decode b_TankArena_turn 25 = .ok (.aload_n 0, 1) := by decide +kernel
theorem d_TankArena_turn_26 : decode b_TankArena_turn 26 = .ok (.invokevirtual 73, 3) := by decide +kernel
theorem d_TankArena_turn_29 : decode b_TankArena_turn 29 = .ok (.aload_n 0, 1) := by decide +kernel
theorem d_TankArena_turn_30 : decode b_TankArena_turn 30 = .ok (.invokevirtual 76, 3) := by decide +kernel
theorem d_TankArena_turn_33 : decode b_TankArena_turn 33 = .ok (.aload_n 0, 1) := by decide +kernel
theorem d_TankArena_turn_34 : decode b_TankArena_turn 34 = .ok (.invokevirtual 79, 3) := by decide +kernel
theorem d_TankArena_turn_37 : decode b_TankArena_turn 37 = .ok (.aload_n 0, 1) := by decide +kernel
theorem d_TankArena_turn_38 : decode b_TankArena_turn 38 = .ok (.invokevirtual 82, 3) := by decide +kernel
theorem d_TankArena_turn_41 : decode b_TankArena_turn 41 = .ok (.aload_n 0, 1) := by decide +kernel
theorem d_TankArena_turn_42 : decode b_TankArena_turn 42 = .ok (.invokevirtual 85, 3) := by decide +kernel
theorem d_TankArena_turn_45 : decode b_TankArena_turn 45 = .ok (.aload_n 0, 1) := by decide +kernel
theorem d_TankArena_turn_46 : decode b_TankArena_turn 46 = .ok (.invokevirtual 66, 3) := by decide +kernel
theorem d_TankArena_turn_49 : decode b_TankArena_turn 49 = .ok (.ireturn, 1) := by decide +kernel
theorem d_TankArena_turned_0 : decode b_TankArena_turned 0 = .ok (.iload_n 0, 1) := by decide +kernel
theorem d_TankArena_turned_1 : decode b_TankArena_turned 1 = .ok (.iload_n 1, 1) := by decide +kernel
theorem d_TankArena_turned_2 : decode b_TankArena_turned 2 = .ok (.iadd, 1) := by decide +kernel
theorem d_TankArena_turned_3 : decode b_TankArena_turned 3 = .ok (.bipush 8, 2) := by decide +kernel
theorem d_TankArena_turned_5 : decode b_TankArena_turned 5 = .ok (.invokestatic 121, 3) := by decide +kernel
theorem d_TankArena_turned_8 : decode b_TankArena_turned 8 = .ok (.ireturn, 1) := by decide +kernel
theorem d_TankArena_within_0 : decode b_TankArena_within 0 = .ok (.iload_n 0, 1) := by decide +kernel
theorem d_TankArena_within_1 : decode b_TankArena_within 1 = .ok (.iload_n 1, 1) := by decide +kernel
theorem d_TankArena_within_2 : decode b_TankArena_within 2 = .ok (.if_icmp .lt 12, 3) := by decide +kernel
theorem d_TankArena_within_5 : decode b_TankArena_within 5 = .ok (.iload_n 0, 1) := by decide +kernel
theorem d_TankArena_within_6 : decode b_TankArena_within 6 = .ok (.iload_n 2, 1) := by decide +kernel
theorem d_TankArena_within_7 : decode b_TankArena_within 7 = .ok (.if_icmp .gt 7, 3) := by decide +kernel
theorem d_TankArena_within_10 : decode b_TankArena_within 10 = .ok (.iconst 1, 1) := by decide +kernel
theorem d_TankArena_within_11 : decode b_TankArena_within 11 = .ok (.goto 4, 3) := by decide +kernel
theorem d_TankArena_within_14 : decode b_TankArena_within 14 = .ok (.iconst 0, 1) := by decide +kernel
theorem d_TankArena_within_15 : decode b_TankArena_within 15 = .ok (.ireturn, 1) := by decide +kernel
theorem d_Bullet__init__0 : decode b_Bullet__init_ 0 = .ok (.aload_n 0, 1) := by decide +kernel
theorem d_Bullet__init__1 : decode b_Bullet__init_ 1 = .ok (.invokespecial 3, 3) := by decide +kernel
theorem d_Bullet__init__4 : decode b_Bullet__init_ 4 = .ok (.return_, 1) := by decide +kernel
theorem d_Bullet_damage_0 : decode b_Bullet_damage 0 = .ok (.iconst 4, 1) := by decide +kernel
theorem d_Bullet_damage_1 : decode b_Bullet_damage 1 = .ok (.aload_n 0, 1) := by decide +kernel
theorem d_Bullet_damage_2 : decode b_Bullet_damage 2 = .ok (.getfield 31, 3) := by decide +kernel
theorem d_Bullet_damage_5 : decode b_Bullet_damage 5 = .ok (.imul, 1) := by decide +kernel
theorem d_Bullet_damage_6 : decode b_Bullet_damage 6 = .ok (.iconst 2, 1) := by decide +kernel
theorem d_Bullet_damage_7 : decode b_Bullet_damage 7 = .ok (.aload_n 0, 1) := by decide +kernel
theorem d_Bullet_damage_8 : decode b_Bullet_damage 8 = .ok (.getfield 31, 3) := by decide +kernel
theorem d_Bullet_damage_11 : decode b_Bullet_damage 11 = .ok (.iconst 1, 1) := by decide +kernel
theorem d_Bullet_damage_12 : decode b_Bullet_damage 12 = .ok (.isub, 1) := by decide +kernel
theorem d_Bullet_damage_13 : decode b_Bullet_damage 13 = .ok (.imul, 1) := by decide +kernel
theorem d_Bullet_damage_14 : decode b_Bullet_damage 14 = .ok (.iadd, 1) := by decide +kernel
theorem d_Bullet_damage_15 : decode b_Bullet_damage 15 = .ok (.bipush 8, 2) := by decide +kernel
theorem d_Bullet_damage_17 : decode b_Bullet_damage 17 = .ok (.imul, 1) := by decide +kernel
theorem d_Bullet_damage_18 : decode b_Bullet_damage 18 = .ok (.ireturn, 1) := by decide +kernel
theorem d_Bullet_goOn_0 : decode b_Bullet_goOn 0 = .ok (.aload_n 0, 1) := by decide +kernel
theorem d_Bullet_goOn_1 : decode b_Bullet_goOn 1 = .ok (.dup, 1) := by decide +kernel
theorem d_Bullet_goOn_2 : decode b_Bullet_goOn 2 = .ok (.getfield 15, 3) := by decide +kernel
theorem d_Bullet_goOn_5 : decode b_Bullet_goOn 5 = .ok (.getstatic 41, 3) := by decide +kernel
theorem d_Bullet_goOn_8 : decode b_Bullet_goOn 8 = .ok (.aload_n 0, 1) := by decide +kernel
theorem d_Bullet_goOn_9 : decode b_Bullet_goOn 9 = .ok (.getfield 35, 3) := by decide +kernel
theorem d_Bullet_goOn_12 : decode b_Bullet_goOn 12 = .ok (.iaload, 1) := by decide +kernel
theorem d_Bullet_goOn_13 : decode b_Bullet_goOn 13 = .ok (.bipush 8, 2) := by decide +kernel
theorem d_Bullet_goOn_15 : decode b_Bullet_goOn 15 = .ok (.imul, 1) := by decide +kernel
theorem d_Bullet_goOn_16 : decode b_Bullet_goOn 16 = .ok (.iadd, 1) := by decide +kernel
theorem d_Bullet_goOn_17 : decode b_Bullet_goOn 17 = .ok (.putfield 15, 3) := by decide +kernel
theorem d_Bullet_goOn_20 : decode b_Bullet_goOn 20 = .ok (.aload_n 0, 1) := by decide +kernel
theorem d_Bullet_goOn_21 : decode b_Bullet_goOn 21 = .ok (.dup, 1) := by decide +kernel
theorem d_Bullet_goOn_22 : decode b_Bullet_goOn 22 = .ok (.getfield 21, 3) := by decide +kernel
theorem d_Bullet_goOn_25 : decode b_Bullet_goOn 25 = .ok (.getstatic 45, 3) := by decide +kernel
theorem d_Bullet_goOn_28 : decode b_Bullet_goOn 28 = .ok (.aload_n 0, 1) := by decide +kernel
theorem d_Bullet_goOn_29 : decode b_Bullet_goOn 29 = .ok (.getfield 35, 3) := by decide +kernel
theorem d_Bullet_goOn_32 : decode b_Bullet_goOn 32 = .ok (.iaload, 1) := by decide +kernel
theorem d_Bullet_goOn_33 : decode b_Bullet_goOn 33 = .ok (.bipush 8, 2) := by decide +kernel
theorem d_Bullet_goOn_35 : decode b_Bullet_goOn 35 = .ok (.imul, 1) := by decide +kernel
theorem d_Bullet_goOn_36 : decode b_Bullet_goOn 36 = .ok (.iadd, 1) := by decide +kernel
theorem d_Bullet_goOn_37 : decode b_Bullet_goOn 37 = .ok (.putfield 21, 3) := by decide +kernel
theorem d_Bullet_goOn_40 : decode b_Bullet_goOn 40 = .ok (.return_, 1) := by decide +kernel
theorem d_Bullet_isInField_0 : decode b_Bullet_isInField 0 = .ok (.aload_n 0, 1) := by decide +kernel
theorem d_Bullet_isInField_1 : decode b_Bullet_isInField 1 = .ok (.getfield 15, 3) := by decide +kernel
theorem d_Bullet_isInField_4 : decode b_Bullet_isInField 4 = .ok (.iconst 0, 1) := by decide +kernel
theorem d_Bullet_isInField_5 : decode b_Bullet_isInField 5 = .ok (.sipush 512, 3) := by decide +kernel
theorem d_Bullet_isInField_8 : decode b_Bullet_isInField 8 = .ok (.invokestatic 48, 3) := by decide +kernel
theorem d_Bullet_isInField_11 : decode b_Bullet_isInField 11 = .ok (.ifCond .eq 21, 3) := by decide +kernel
theorem d_Bullet_isInField_14 : decode b_Bullet_isInField 14 = .ok (.aload_n 0, 1) := by decide +kernel
theorem d_Bullet_isInField_15 : decode b_Bullet_isInField 15 = .ok (.getfield 21, 3) := by decide +kernel
theorem d_Bullet_isInField_18 : decode b_Bullet_isInField 18 = .ok (.iconst 0, 1) := by decide +kernel
theorem d_Bullet_isInField_19 : decode b_Bullet_isInField 19 = .ok (.sipush 512, 3) := by decide +kernel
theorem d_Bullet_isInField_22 : decode b_Bullet_isInField 22 = .ok (.invokestatic 48, 3) := by decide +kernel
theorem d_Bullet_isInField_25 : decode b_Bullet_isInField 25 = .ok (.ifCond .eq 7, 3) := by decide +kernel
theorem d_Bullet_isInField_28 : decode b_Bullet_isInField 28 = .ok (.iconst 1, 1) := by decide +kernel
theorem d_Bullet_isInField_29 : decode b_Bullet_isInField 29 = .ok (.goto 4, 3) := by decide +kernel
theorem d_Bullet_isInField_32 : decode b_Bullet_isInField 32 = .ok (.iconst 0, 1) := by decide +kernel
theorem d_Bullet_isInField_33 : decode b_Bullet_isInField 33 = .ok (.ireturn, 1) := by decide +kernel
theorem d_Bullet_leave_0 : decode b_Bullet_leave 0 = .ok (.aload_n 0, 1) := by decide +kernel
theorem d_Bullet_leave_1 : decode b_Bullet_leave 1 = .ok (.aload_n 1, 1) := by decide +kernel
theorem d_Bullet_leave_2 : decode b_Bullet_leave 2 = .ok (.getfield 9, 3) := by decide +kernel
theorem d_Bullet_leave_5 : decode b_Bullet_leave 5 = .ok (.putfield 15, 3) := by decide +kernel
theorem d_Bullet_leave_8 : decode b_Bullet_leave 8 = .ok (.aload_n 0, 1) := by decide +kernel
theorem d_Bullet_leave_9 : decode b_Bullet_leave 9 = .ok (.aload_n 1, 1) := by decide +kernel
theorem d_Bullet_leave_10 : decode b_Bullet_leave 10 = .ok (.getfield 18, 3) := by decide +kernel
theorem d_Bullet_leave_13 : decode b_Bullet_leave 13 = .ok (.putfield 21, 3) := by decide +kernel
theorem d_Bullet_leave_16 : decode b_Bullet_leave 16 = .ok (.aload_n 0, 1) := by decide +kernel
theorem d_Bullet_leave_17 : decode b_Bullet_leave 17 = .ok (.aload_n 1, 1) := by decide +kernel
theorem d_Bullet_leave_18 : decode b_Bullet_leave 18 = .ok (.getfield 22, 3) := by decide +kernel
theorem d_Bullet_leave_21 : decode b_Bullet_leave 21 = .ok (.getfield 26, 3) := by decide +kernel
theorem d_Bullet_leave_24 : decode b_Bullet_leave 24 = .ok (.putfield 31, 3) := by decide +kernel
theorem d_Bullet_leave_27 : decode b_Bullet_leave 27 = .ok (.aload_n 0, 1) := by decide +kernel
theorem d_Bullet_leave_28 : decode b_Bullet_leave 28 = .ok (.aload_n 1, 1) := by decide +kernel
theorem d_Bullet_leave_29 : decode b_Bullet_leave 29 = .ok (.getfield 32, 3) := by decide +kernel
theorem d_Bullet_leave_32 : decode b_Bullet_leave 32 = .ok (.putfield 35, 3) := by decide +kernel
theorem d_Bullet_leave_35 : decode b_Bullet_leave 35 = .ok (.aload_n 0, 1) := by decide +kernel
theorem d_Bullet_leave_36 : decode b_Bullet_leave 36 = .ok (.iload_n 2, 1) := by decide +kernel
theorem d_Bullet_leave_37 : decode b_Bullet_leave 37 = .ok (.putfield 38, 3) := by decide +kernel
theorem d_Bullet_leave_40 : decode b_Bullet_leave 40 = .ok (.return_, 1) := by decide +kernel
theorem d_Bullet_told_0 : decode b_Bullet_told 0 = .ok (.iload_n 1, 1) := by decide +kernel
theorem d_Bullet_told_1 : decode b_Bullet_told 1 = .ok (.tableswitch 60 0 4 #[35, 40, 45, 50, 55], 35) := by decide +kernel
theorem d_Bullet_told_36 : decode b_Bullet_told 36 = .ok (.aload_n 0, 1) := by decide +kernel
theorem d_Bullet_told_37 : decode b_Bullet_told 37 = .ok (.getfield 15, 3) := by decide +kernel
theorem d_Bullet_told_40 : decode b_Bullet_told 40 = .ok (.ireturn, 1) := by decide +kernel
theorem d_Bullet_told_41 : decode b_Bullet_told 41 = .ok (.aload_n 0, 1) := by decide +kernel
theorem d_Bullet_told_42 : decode b_Bullet_told 42 = .ok (.getfield 21, 3) := by decide +kernel
theorem d_Bullet_told_45 : decode b_Bullet_told 45 = .ok (.ireturn, 1) := by decide +kernel
theorem d_Bullet_told_46 : decode b_Bullet_told 46 = .ok (.aload_n 0, 1) := by decide +kernel
theorem d_Bullet_told_47 : decode b_Bullet_told 47 = .ok (.getfield 31, 3) := by decide +kernel
theorem d_Bullet_told_50 : decode b_Bullet_told 50 = .ok (.ireturn, 1) := by decide +kernel
theorem d_Bullet_told_51 : decode b_Bullet_told 51 = .ok (.aload_n 0, 1) := by decide +kernel
theorem d_Bullet_told_52 : decode b_Bullet_told 52 = .ok (.getfield 35, 3) := by decide +kernel
theorem d_Bullet_told_55 : decode b_Bullet_told 55 = .ok (.ireturn, 1) := by decide +kernel
theorem d_Bullet_told_56 : decode b_Bullet_told 56 = .ok (.aload_n 0, 1) := by decide +kernel
theorem d_Bullet_told_57 : decode b_Bullet_told 57 = .ok (.getfield 38, 3) := by decide +kernel
theorem d_Bullet_told_60 : decode b_Bullet_told 60 = .ok (.ireturn, 1) := by decide +kernel
theorem d_Bullet_told_61 : decode b_Bullet_told 61 = .ok (.ldc 52, 2) := by decide +kernel
theorem d_Bullet_told_63 : decode b_Bullet_told 63 = .ok (.ireturn, 1) := by decide +kernel
theorem d_Orders__init__0 : decode b_Orders__init_ 0 = .ok (.aload_n 0, 1) := by decide +kernel
theorem d_Orders__init__1 : decode b_Orders__init_ 1 = .ok (.invokespecial 1, 3) := by decide +kernel
theorem d_Orders__init__4 : decode b_Orders__init_ 4 = .ok (.return_, 1) := by decide +kernel
theorem d_Orders_clear_0 : decode b_Orders_clear 0 = .ok (.aload_n 0, 1) := by decide +kernel
theorem d_Orders_clear_1 : decode b_Orders_clear 1 = .ok (.iconst 0, 1) := by decide +kernel
theorem d_Orders_clear_2 : decode b_Orders_clear 2 = .ok (.putfield 7, 3) := by decide +kernel
theorem d_Orders_clear_5 : decode b_Orders_clear 5 = .ok (.aload_n 0, 1) := by decide +kernel
theorem d_Orders_clear_6 : decode b_Orders_clear 6 = .ok (.iconst 0, 1) := by decide +kernel
theorem d_Orders_clear_7 : decode b_Orders_clear 7 = .ok (.putfield 13, 3) := by decide +kernel
theorem d_Orders_clear_10 : decode b_Orders_clear 10 = .ok (.aload_n 0, 1) := by decide +kernel
theorem d_Orders_clear_11 : decode b_Orders_clear 11 = .ok (.iconst 0, 1) := by decide +kernel
theorem d_Orders_clear_12 : decode b_Orders_clear 12 = .ok (.putfield 16, 3) := by decide +kernel
theorem d_Orders_clear_15 : decode b_Orders_clear 15 = .ok (.aload_n 0, 1) := by decide +kernel
theorem d_Orders_clear_16 : decode b_Orders_clear 16 = .ok (.iconst 0, 1) := by decide +kernel
theorem d_Orders_clear_17 : decode b_Orders_clear 17 = .ok (.putfield 19, 3) := by decide +kernel
theorem d_Orders_clear_20 : decode b_Orders_clear 20 = .ok (.return_, 1) := by decide +kernel
theorem d_Processor__init__0 : decode b_Processor__init_ 0 = .ok (.aload_n 0, 1) := by decide +kernel
theorem d_Processor__init__1 : decode b_Processor__init_ 1 = .ok (.invokespecial 1, 3) := by decide +kernel
theorem d_Processor__init__4 : decode b_Processor__init_ 4 = .ok (.aload_n 0, 1) := by decide +kernel
theorem d_Processor__init__5 : decode b_Processor__init_ 5 = .ok (.iconst 2, 1) := by decide +kernel
theorem d_Processor__init__6 : decode b_Processor__init_ 6 = .ok (.newarray .int, 2) := by decide +kernel
theorem d_Processor__init__8 : decode b_Processor__init_ 8 = .ok (.putfield 7, 3) := by decide +kernel
theorem d_Processor__init__11 : decode b_Processor__init_ 11 = .ok (.return_, 1) := by decide +kernel
theorem d_Processor_clear_0 : decode b_Processor_clear 0 = .ok (.aload_n 0, 1) := by decide +kernel
theorem d_Processor_clear_1 : decode b_Processor_clear 1 = .ok (.getfield 7, 3) := by decide +kernel
theorem d_Processor_clear_4 : decode b_Processor_clear 4 = .ok (.iconst 0, 1) := by decide +kernel
theorem d_Processor_clear_5 : decode b_Processor_clear 5 = .ok (.iconst 0, 1) := by decide +kernel
theorem d_Processor_clear_6 : decode b_Processor_clear 6 = .ok (.iastore, 1) := by decide +kernel
theorem d_Processor_clear_7 : decode b_Processor_clear 7 = .ok (.aload_n 0, 1) := by decide +kernel
theorem d_Processor_clear_8 : decode b_Processor_clear 8 = .ok (.getfield 7, 3) := by decide +kernel
theorem d_Processor_clear_11 : decode b_Processor_clear 11 = .ok (.iconst 1, 1) := by decide +kernel
theorem d_Processor_clear_12 : decode b_Processor_clear 12 = .ok (.iconst 0, 1) := by decide +kernel
theorem d_Processor_clear_13 : decode b_Processor_clear 13 = .ok (.iastore, 1) := by decide +kernel
theorem d_Processor_clear_14 : decode b_Processor_clear 14 = .ok (.aload_n 0, 1) := by decide +kernel
theorem d_Processor_clear_15 : decode b_Processor_clear 15 = .ok (.iconst 0, 1) := by decide +kernel
theorem d_Processor_clear_16 : decode b_Processor_clear 16 = .ok (.putfield 13, 3) := by decide +kernel
theorem d_Processor_clear_19 : decode b_Processor_clear 19 = .ok (.aload_n 0, 1) := by decide +kernel
theorem d_Processor_clear_20 : decode b_Processor_clear 20 = .ok (.iconst 0, 1) := by decide +kernel
theorem d_Processor_clear_21 : decode b_Processor_clear 21 = .ok (.putfield 17, 3) := by decide +kernel
theorem d_Processor_clear_24 : decode b_Processor_clear 24 = .ok (.return_, 1) := by decide +kernel
theorem d_Program__init__0 : decode b_Program__init_ 0 = .ok (.aload_n 0, 1) := by decide +kernel
theorem d_Program__init__1 : decode b_Program__init_ 1 = .ok (.invokespecial 3, 3) := by decide +kernel
theorem d_Program__init__4 : decode b_Program__init_ 4 = .ok (.aload_n 0, 1) := by decide +kernel
theorem d_Program__init__5 : decode b_Program__init_ 5 = .ok (.bipush 16, 2) := by decide +kernel
theorem d_Program__init__7 : decode b_Program__init_ 7 = .ok (.newarray .int, 2) := by decide +kernel
theorem d_Program__init__9 : decode b_Program__init_ 9 = .ok (.putfield 11, 3) := by decide +kernel
theorem d_Program__init__12 : decode b_Program__init_ 12 = .ok (.aload_n 0, 1) := by decide +kernel
theorem d_Program__init__13 : decode b_Program__init_ 13 = .ok (.bipush 16, 2) := by decide +kernel
theorem d_Program__init__15 : decode b_Program__init_ 15 = .ok (.newarray .int, 2) := by decide +kernel
theorem d_Program__init__17 : decode b_Program__init_ 17 = .ok (.putfield 15, 3) := by decide +kernel
theorem d_Program__init__20 : decode b_Program__init_ 20 = .ok (.aload_n 0, 1) := by decide +kernel
theorem d_Program__init__21 : decode b_Program__init_ 21 = .ok (.bipush 16, 2) := by decide +kernel
theorem d_Program__init__23 : decode b_Program__init_ 23 = .ok (.newarray .int, 2) := by decide +kernel
theorem d_Program__init__25 : decode b_Program__init_ 25 = .ok (.putfield 18, 3) := by decide +kernel
theorem d_Program__init__28 : decode b_Program__init_ 28 = .ok (.return_, 1) := by decide +kernel
theorem d_Program_add_0 : decode b_Program_add 0 = .ok (.aload_n 0, 1) := by decide +kernel
theorem d_Program_add_1 : decode b_Program_add 1 = .ok (.getfield 11, 3) := by decide +kernel
theorem d_Program_add_4 : decode b_Program_add 4 = .ok (.aload_n 0, 1) := by decide +kernel
theorem d_Program_add_5 : decode b_Program_add 5 = .ok (.getfield 25, 3) := by decide +kernel
theorem d_Program_add_8 : decode b_Program_add 8 = .ok (.iload_n 1, 1) := by decide +kernel
theorem d_Program_add_9 : decode b_Program_add 9 = .ok (.iastore, 1) := by decide +kernel
theorem d_Program_add_10 : decode b_Program_add 10 = .ok (.aload_n 0, 1) := by decide +kernel
theorem d_Program_add_11 : decode b_Program_add 11 = .ok (.getfield 15, 3) := by decide +kernel
theorem d_Program_add_14 : decode b_Program_add 14 = .ok (.aload_n 0, 1) := by decide +kernel
theorem d_Program_add_15 : decode b_Program_add 15 = .ok (.getfield 25, 3) := by decide +kernel
theorem d_Program_add_18 : decode b_Program_add 18 = .ok (.iload_n 2, 1) := by decide +kernel
theorem d_Program_add_19 : decode b_Program_add 19 = .ok (.iastore, 1) := by decide +kernel
