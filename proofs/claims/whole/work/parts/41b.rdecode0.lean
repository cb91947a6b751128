/-! DECODE ROWS -/
theorem d_TankArenaModel_abs_0 : decode b_TankArenaModel_abs 0 = .ok (.iload_n 0, 1) := by decide +kernel
theorem d_TankArenaModel_abs_1 : decode b_TankArenaModel_abs 1 = .ok (.ifCond .ge 8, 3) := by decide +kernel
theorem d_TankArenaModel_abs_4 : decode b_TankArenaModel_abs 4 = .ok (.iload_n 0, 1) := by decide +kernel
theorem d_TankArenaModel_abs_5 : decode b_TankArenaModel_abs 5 = .ok (.ineg, 1) := by decide +kernel
theorem d_TankArenaModel_abs_6 : decode b_TankArenaModel_abs 6 = .ok (.goto 4, 3) := by decide +kernel
theorem d_TankArenaModel_abs_9 : decode b_TankArenaModel_abs 9 = .ok (.iload_n 0, 1) := by decide +kernel
theorem d_TankArenaModel_abs_10 : decode b_TankArenaModel_abs 10 = .ok (.ireturn, 1) := by decide +kernel
theorem d_TankArenaModel_across_0 : decode b_TankArenaModel_across 0 = .ok (.iload_n 0, 1) := by decide +kernel
theorem d_TankArenaModel_across_1 : decode b_TankArenaModel_across 1 = .ok (.bipush 7, 2) := by decide +kernel
theorem d_TankArenaModel_across_3 : decode b_TankArenaModel_across 3 = .ok (.if_icmp .eq 8, 3) := by decide +kernel
theorem d_TankArenaModel_across_6 : decode b_TankArenaModel_across 6 = .ok (.iload_n 0, 1) := by decide +kernel
theorem d_TankArenaModel_across_7 : decode b_TankArenaModel_across 7 = .ok (.iconst 2, 1) := by decide +kernel
theorem d_TankArenaModel_across_8 : decode b_TankArenaModel_across 8 = .ok (.if_icmp .ge 7, 3) := by decide +kernel
theorem d_TankArenaModel_across_11 : decode b_TankArenaModel_across 11 = .ok (.iconst 1, 1) := by decide +kernel
theorem d_TankArenaModel_across_12 : decode b_TankArenaModel_across 12 = .ok (.goto 19, 3) := by decide +kernel
theorem d_TankArenaModel_across_15 : decode b_TankArenaModel_across 15 = .ok (.iload_n 0, 1) := by decide +kernel
theorem d_TankArenaModel_across_16 : decode b_TankArenaModel_across 16 = .ok (.iconst 2, 1) := by decide +kernel
theorem d_TankArenaModel_across_17 : decode b_TankArenaModel_across 17 = .ok (.if_icmp .le 13, 3) := by decide +kernel
theorem d_TankArenaModel_across_20 : decode b_TankArenaModel_across 20 = .ok (.iload_n 0, 1) := by decide +kernel
theorem d_TankArenaModel_across_21 : decode b_TankArenaModel_across 21 = .ok (.bipush 6, 2) := by decide +kernel
theorem d_TankArenaModel_across_23 : decode b_TankArenaModel_across 23 = .ok (.if_icmp .ge 7, 3) := by decide +kernel
theorem d_TankArenaModel_across_26 : decode b_TankArenaModel_across 26 = .ok (.iconst (-1), 1) := by decide +kernel
theorem d_TankArenaModel_across_27 : decode b_TankArenaModel_across 27 = .ok (.goto 4, 3) := by decide +kernel
theorem d_TankArenaModel_across_30 : decode b_TankArenaModel_across 30 = .ok (.iconst 0, 1) := by decide +kernel
theorem d_TankArenaModel_across_31 : decode b_TankArenaModel_across 31 = .ok (.ireturn, 1) := by decide +kernel
theorem d_TankArenaModel_bullet_0 : decode b_TankArenaModel_bullet 0 = .ok (.iload_n 1, 1) := by decide +kernel
theorem d_TankArenaModel_bullet_1 : decode b_TankArenaModel_bullet 1 = .ok (.ifCond .lt 12, 3) := by decide +kernel
theorem d_TankArenaModel_bullet_4 : decode b_TankArenaModel_bullet 4 = .ok (.iload_n 2, 1) := by decide +kernel
theorem d_TankArenaModel_bullet_5 : decode b_TankArenaModel_bullet 5 = .ok (.ifCond .lt 8, 3) := by decide +kernel
theorem d_TankArenaModel_bullet_8 : decode b_TankArenaModel_bullet 8 = .ok (.iload_n 2, 1) := by decide +kernel
theorem d_TankArenaModel_bullet_9 : decode b_TankArenaModel_bullet 9 = .ok (.iconst 4, 1) := by decide +kernel
theorem d_TankArenaModel_bullet_10 : decode b_TankArenaModel_bullet 10 = .ok (.if_icmp .le 6, 3) := by decide +kernel
theorem d_TankArenaModel_bullet_13 : decode b_TankArenaModel_bullet 13 = .ok (.ldc 125, 2) := by decide +kernel
theorem d_TankArenaModel_bullet_15 : decode b_TankArenaModel_bullet 15 = .ok (.ireturn, 1) := by decide +kernel
theorem d_TankArenaModel_bullet_16 : decode b_TankArenaModel_bullet 16 = .ok (.iload_n 1, 1) := by decide +kernel
theorem d_TankArenaModel_bullet_17 : decode b_TankArenaModel_bullet 17 = .ok (.istore_n 3, 1) := by decide +kernel
theorem d_TankArenaModel_bullet_18 : decode b_TankArenaModel_bullet 18 = .ok (.iconst 0, 1) := by decide +kernel
theorem d_TankArenaModel_bullet_19 : decode b_TankArenaModel_bullet 19 = .ok (.istore 4, 2) := by decide +kernel
theorem d_TankArenaModel_bullet_21 : decode b_TankArenaModel_bullet 21 = .ok (.iload 4, 2) := by decide +kernel
theorem d_TankArenaModel_bullet_23 : decode b_TankArenaModel_bullet 23 = .ok (.aload_n 0, 1) := by decide +kernel
theorem d_TankArenaModel_bullet_24 : decode b_TankArenaModel_bullet 24 = .ok (.getfield 150, 3) := by decide +kernel
theorem d_TankArenaModel_bullet_27 : decode b_TankArenaModel_bullet 27 = .ok (.if_icmp .ge 96, 3) := by decide +kernel
theorem d_TankArenaModel_bullet_30 : decode b_TankArenaModel_bullet 30 = .ok (.aload_n 0, 1) := by decide +kernel
theorem d_TankArenaModel_bullet_31 : decode b_TankArenaModel_bullet 31 = .ok (.getfield 107, 3) := by decide +kernel
theorem d_TankArenaModel_bullet_34 : decode b_TankArenaModel_bullet 34 = .ok (.iload 4, 2) := by decide +kernel
theorem d_TankArenaModel_bullet_36 : decode b_TankArenaModel_bullet 36 = .ok (.baload, 1) := by decide +kernel
theorem d_TankArenaModel_bullet_37 : decode b_TankArenaModel_bullet 37 = .ok (.ifCond .eq 6, 3) := by decide +kernel
theorem d_TankArenaModel_bullet_40 : decode b_TankArenaModel_bullet 40 = .ok (.goto 77, 3) := by decide +kernel
theorem d_TankArenaModel_bullet_43 : decode b_TankArenaModel_bullet 43 = .ok (.iload_n 3, 1) := by decide +kernel
theorem d_TankArenaModel_bullet_44 : decode b_TankArenaModel_bullet 44 = .ok (.ifCond .ne 70, 3) := by decide +kernel
theorem d_TankArenaModel_bullet_47 : decode b_TankArenaModel_bullet 47 = .ok (.iload_n 2, 1) := by decide +kernel
theorem d_TankArenaModel_bullet_48 : decode b_TankArenaModel_bullet 48 = .ok (.ifCond .ne 13, 3) := by decide +kernel
theorem d_TankArenaModel_bullet_51 : decode b_TankArenaModel_bullet 51 = .ok (.aload_n 0, 1) := by decide +kernel
theorem d_TankArenaModel_bullet_52 : decode b_TankArenaModel_bullet 52 = .ok (.getfield 92, 3) := by decide +kernel
theorem d_TankArenaModel_bullet_55 : decode b_TankArenaModel_bullet 55 = .ok (.iload 4, 2) := by decide +kernel
theorem d_TankArenaModel_bullet_57 : decode b_TankArenaModel_bullet 57 = .ok (.iaload, 1) := by decide +kernel
theorem d_TankArenaModel_bullet_58 : decode b_TankArenaModel_bullet 58 = .ok (.goto 55, 3) := by decide +kernel
theorem d_TankArenaModel_bullet_61 : decode b_TankArenaModel_bullet 61 = .ok (.iload_n 2, 1) := by decide +kernel
theorem d_TankArenaModel_bullet_62 : decode b_TankArenaModel_bullet 62 = .ok (.iconst 1, 1) := by decide +kernel
theorem d_TankArenaModel_bullet_63 : decode b_TankArenaModel_bullet 63 = .ok (.if_icmp .ne 13, 3) := by decide +kernel
theorem d_TankArenaModel_bullet_66 : decode b_TankArenaModel_bullet 66 = .ok (.aload_n 0, 1) := by decide +kernel
theorem d_TankArenaModel_bullet_67 : decode b_TankArenaModel_bullet 67 = .ok (.getfield 95, 3) := by decide +kernel
theorem d_TankArenaModel_bullet_70 : decode b_TankArenaModel_bullet 70 = .ok (.iload 4, 2) := by decide +kernel
theorem d_TankArenaModel_bullet_72 : decode b_TankArenaModel_bullet 72 = .ok (.iaload, 1) := by decide +kernel
theorem d_TankArenaModel_bullet_73 : decode b_TankArenaModel_bullet 73 = .ok (.goto 40, 3) := by decide +kernel
theorem d_TankArenaModel_bullet_76 : decode b_TankArenaModel_bullet 76 = .ok (.iload_n 2, 1) := by decide +kernel
theorem d_TankArenaModel_bullet_77 : decode b_TankArenaModel_bullet 77 = .ok (.iconst 2, 1) := by decide +kernel
theorem d_TankArenaModel_bullet_78 : decode b_TankArenaModel_bullet 78 = .ok (.if_icmp .ne 13, 3) := by decide +kernel
theorem d_TankArenaModel_bullet_81 : decode b_TankArenaModel_bullet 81 = .ok (.aload_n 0, 1) := by decide +kernel
theorem d_TankArenaModel_bullet_82 : decode b_TankArenaModel_bullet 82 = .ok (.getfield 98, 3) := by decide +kernel
theorem d_TankArenaModel_bullet_85 : decode b_TankArenaModel_bullet 85 = .ok (.iload 4, 2) := by decide +kernel
theorem d_TankArenaModel_bullet_87 : decode b_TankArenaModel_bullet 87 = .ok (.iaload, 1) := by decide +kernel
theorem d_TankArenaModel_bullet_88 : decode b_TankArenaModel_bullet 88 = .ok (.goto 25, 3) := by decide +kernel
theorem d_TankArenaModel_bullet_91 : decode b_TankArenaModel_bullet 91 = .ok (.iload_n 2, 1) := by decide +kernel
theorem d_TankArenaModel_bullet_92 : decode b_TankArenaModel_bullet 92 = .ok (.iconst 3, 1) := by decide +kernel
theorem d_TankArenaModel_bullet_93 : decode b_TankArenaModel_bullet 93 = .ok (.if_icmp .ne 13, 3) := by decide +kernel
theorem d_TankArenaModel_bullet_96 : decode b_TankArenaModel_bullet 96 = .ok (.aload_n 0, 1) := by decide +kernel
theorem d_TankArenaModel_bullet_97 : decode b_TankArenaModel_bullet 97 = .ok (.getfield 101, 3) := by decide +kernel
theorem d_TankArenaModel_bullet_100 : decode b_TankArenaModel_bullet 100 = .ok (.iload 4, 2) := by decide +kernel
theorem d_TankArenaModel_bullet_102 : decode b_TankArenaModel_bullet 102 = .ok (.iaload, 1) := by decide +kernel
theorem d_TankArenaModel_bullet_103 : decode b_TankArenaModel_bullet 103 = .ok (.goto 10, 3) := by decide +kernel
theorem d_TankArenaModel_bullet_106 : decode b_TankArenaModel_bullet 106 = .ok (.aload_n 0, 1) := by decide +kernel
theorem d_TankArenaModel_bullet_107 : decode b_TankArenaModel_bullet 107 = .ok (.getfield 104, 3) := by decide +kernel
theorem d_TankArenaModel_bullet_110 : decode b_TankArenaModel_bullet 110 = .ok (.iload 4, 2) := by decide +kernel
theorem d_TankArenaModel_bullet_112 : decode b_TankArenaModel_bullet 112 = .ok (.iaload, 1) := by decide +kernel
theorem d_TankArenaModel_bullet_113 : decode b_TankArenaModel_bullet 113 = .ok (.ireturn, 1) := by decide +kernel
theorem d_TankArenaModel_bullet_114 : decode b_TankArenaModel_bullet 114 = .ok (.iinc 3 (-1), 3) := by decide +kernel
theorem d_TankArenaModel_bullet_117 : decode b_TankArenaModel_bullet 117 = .ok (.iinc 4 1, 3) := by decide +kernel
theorem d_TankArenaModel_bullet_120 : decode b_TankArenaModel_bullet 120 = .ok (.goto (-99), 3) := by decide +kernel
theorem d_TankArenaModel_bullet_123 : decode b_TankArenaModel_bullet 123 = .ok (.ldc 125, 2) := by decide +kernel
theorem d_TankArenaModel_bullet_125 : decode b_TankArenaModel_bullet 125 = .ok (.ireturn, 1) := by decide +kernel
theorem d_TankArenaModel_check_0 : decode b_TankArenaModel_check 0 = .ok (.aload_n 0, 1) := by decide +kernel
theorem d_TankArenaModel_check_1 : decode b_TankArenaModel_check 1 = .ok (.getfield 70, 3) := by decide +kernel
theorem d_TankArenaModel_check_4 : decode b_TankArenaModel_check 4 = .ok (.iload_n 1, 1) := by decide +kernel
theorem d_TankArenaModel_check_5 : decode b_TankArenaModel_check 5 = .ok (.baload, 1) := by decide +kernel
theorem d_TankArenaModel_check_6 : decode b_TankArenaModel_check 6 = .ok (.ifCond .eq 12, 3) := by decide +kernel
theorem d_TankArenaModel_check_9 : decode b_TankArenaModel_check 9 = .ok (.aload_n 0, 1) := by decide +kernel
theorem d_TankArenaModel_check_10 : decode b_TankArenaModel_check 10 = .ok (.getfield 52, 3) := by decide +kernel
theorem d_TankArenaModel_check_13 : decode b_TankArenaModel_check 13 = .ok (.iload_n 1, 1) := by decide +kernel
theorem d_TankArenaModel_check_14 : decode b_TankArenaModel_check 14 = .ok (.iaload, 1) := by decide +kernel
theorem d_TankArenaModel_check_15 : decode b_TankArenaModel_check 15 = .ok (.ifCond .le 4, 3) := by decide +kernel
theorem d_TankArenaModel_check_18 : decode b_TankArenaModel_check 18 = .ok (.return_, 1) := by decide +kernel
theorem d_TankArenaModel_check_19 : decode b_TankArenaModel_check 19 = .ok (.aload_n 0, 1) := by decide +kernel
theorem d_TankArenaModel_check_20 : decode b_TankArenaModel_check 20 = .ok (.getfield 70, 3) := by decide +kernel
theorem d_TankArenaModel_check_23 : decode b_TankArenaModel_check 23 = .ok (.iload_n 1, 1) := by decide +kernel
theorem d_TankArenaModel_check_24 : decode b_TankArenaModel_check 24 = .ok (.iconst 0, 1) := by decide +kernel
theorem d_TankArenaModel_check_25 : decode b_TankArenaModel_check 25 = .ok (.bastore, 1) := by decide +kernel
theorem d_TankArenaModel_check_26 : decode b_TankArenaModel_check 26 = .ok (.iconst 0, 1) := by decide +kernel
theorem d_TankArenaModel_check_27 : decode b_TankArenaModel_check 27 = .ok (.istore_n 2, 1) := by decide +kernel
theorem d_TankArenaModel_check_28 : decode b_TankArenaModel_check 28 = .ok (.iload_n 2, 1) := by decide +kernel
theorem d_TankArenaModel_check_29 : decode b_TankArenaModel_check 29 = .ok (.aload_n 0, 1) := by decide +kernel
theorem d_TankArenaModel_check_30 : decode b_TankArenaModel_check 30 = .ok (.getfield 122, 3) := by decide +kernel
theorem d_TankArenaModel_check_33 : decode b_TankArenaModel_check 33 = .ok (.if_icmp .ge 30, 3) := by decide +kernel
theorem d_TankArenaModel_check_36 : decode b_TankArenaModel_check 36 = .ok (.aload_n 0, 1) := by decide +kernel
theorem d_TankArenaModel_check_37 : decode b_TankArenaModel_check 37 = .ok (.getfield 70, 3) := by decide +kernel
theorem d_TankArenaModel_check_40 : decode b_TankArenaModel_check 40 = .ok (.iload_n 2, 1) := by decide +kernel
theorem d_TankArenaModel_check_41 : decode b_TankArenaModel_check 41 = .ok (.baload, 1) := by decide +kernel
theorem d_TankArenaModel_check_42 : decode b_TankArenaModel_check 42 = .ok (.ifCond .eq 15, 3) := by decide +kernel
theorem d_TankArenaModel_check_45 : decode b_TankArenaModel_check 45 = .ok (.aload_n 0, 1) := by decide +kernel
theorem d_TankArenaModel_check_46 : decode b_TankArenaModel_check 46 = .ok (.getfield 67, 3) := by decide +kernel
theorem d_TankArenaModel_check_49 : decode b_TankArenaModel_check 49 = .ok (.iload_n 2, 1) := by decide +kernel
theorem d_TankArenaModel_check_50 : decode b_TankArenaModel_check 50 = .ok (.dup2, 1) := by decide +kernel
theorem d_TankArenaModel_check_51 : decode b_TankArenaModel_check 51 = .ok (.iaload, 1) := by decide +kernel
theorem d_TankArenaModel_check_52 : decode b_TankArenaModel_check 52 = .ok (.sipush 400, 3) := by decide +kernel
theorem d_TankArenaModel_check_55 : decode b_TankArenaModel_check 55 = .ok (.iadd, 1) := by decide +kernel
theorem d_TankArenaModel_check_56 : decode b_TankArenaModel_check 56 = .ok (.iastore, 1) := by decide +kernel
theorem d_TankArenaModel_check_57 : decode b_TankArenaModel_check 57 = .ok (.iinc 2 1, 3) := by decide +kernel
theorem d_TankArenaModel_check_60 : decode b_TankArenaModel_check 60 = .ok (.goto (-32), 3) := by decide +kernel
theorem d_TankArenaModel_check_63 : decode b_TankArenaModel_check 63 = .ok (.return_, 1) := by decide +kernel
theorem d_TankArenaModel_count_0 : decode b_TankArenaModel_count 0 = .ok (.iload_n 1, 1) := by decide +kernel
theorem d_TankArenaModel_count_1 : decode b_TankArenaModel_count 1 = .ok (.tableswitch 69 0 5 #[39, 44, 49, 54, 59, 64], 39) := by decide +kernel
theorem d_TankArenaModel_count_40 : decode b_TankArenaModel_count 40 = .ok (.aload_n 0, 1) := by decide +kernel
theorem d_TankArenaModel_count_41 : decode b_TankArenaModel_count 41 = .ok (.getfield 118, 3) := by decide +kernel
theorem d_TankArenaModel_count_44 : decode b_TankArenaModel_count 44 = .ok (.ireturn, 1) := by decide +kernel
theorem d_TankArenaModel_count_45 : decode b_TankArenaModel_count 45 = .ok (.aload_n 0, 1) := by decide +kernel
theorem d_TankArenaModel_count_46 : decode b_TankArenaModel_count 46 = .ok (.getfield 122, 3) := by decide +kernel
theorem d_TankArenaModel_count_49 : decode b_TankArenaModel_count 49 = .ok (.ireturn, 1) := by decide +kernel
theorem d_TankArenaModel_count_50 : decode b_TankArenaModel_count 50 = .ok (.aload_n 0, 1) := by decide +kernel
theorem d_TankArenaModel_count_51 : decode b_TankArenaModel_count 51 = .ok (.invokevirtual 185, 3) := by decide +kernel
theorem d_TankArenaModel_count_54 : decode b_TankArenaModel_count 54 = .ok (.ireturn, 1) := by decide +kernel
theorem d_TankArenaModel_count_55 : decode b_TankArenaModel_count 55 = .ok (.aload_n 0, 1) := by decide +kernel
theorem d_TankArenaModel_count_56 : decode b_TankArenaModel_count 56 = .ok (.invokevirtual 206, 3) := by decide +kernel
theorem d_TankArenaModel_count_59 : decode b_TankArenaModel_count 59 = .ok (.ireturn, 1) := by decide +kernel
theorem d_TankArenaModel_count_60 : decode b_TankArenaModel_count 60 = .ok (.aload_n 0, 1) := by decide +kernel
theorem d_TankArenaModel_count_61 : decode b_TankArenaModel_count 61 = .ok (.getfield 153, 3) := by decide +kernel
theorem d_TankArenaModel_count_64 : decode b_TankArenaModel_count 64 = .ok (.ireturn, 1) := by decide +kernel
theorem d_TankArenaModel_count_65 : decode b_TankArenaModel_count 65 = .ok (.aload_n 0, 1) := by decide +kernel
theorem d_TankArenaModel_count_66 : decode b_TankArenaModel_count 66 = .ok (.getfield 156, 3) := by decide +kernel
theorem d_TankArenaModel_count_69 : decode b_TankArenaModel_count 69 = .ok (.ireturn, 1) := by decide +kernel
theorem d_TankArenaModel_count_70 : decode b_TankArenaModel_count 70 = .ok (.ldc 125, 2) := by decide +kernel
theorem d_TankArenaModel_count_72 : decode b_TankArenaModel_count 72 = .ok (.ireturn, 1) := by decide +kernel
theorem d_TankArenaModel_drive_0 : decode b_TankArenaModel_drive 0 = .ok (.aload_n 0, 1) := by decide +kernel
theorem d_TankArenaModel_drive_1 : decode b_TankArenaModel_drive 1 = .ok (.getfield 46, 3) := by decide +kernel
theorem d_TankArenaModel_drive_4 : decode b_TankArenaModel_drive 4 = .ok (.iload_n 1, 1) := by decide +kernel
theorem d_TankArenaModel_drive_5 : decode b_TankArenaModel_drive 5 = .ok (.iaload, 1) := by decide +kernel
theorem d_TankArenaModel_drive_6 : decode b_TankArenaModel_drive 6 = .ok (.bipush 16, 2) := by decide +kernel
theorem d_TankArenaModel_drive_8 : decode b_TankArenaModel_drive 8 = .ok (.if_icmp .gt 25, 3) := by decide +kernel
theorem d_TankArenaModel_drive_11 : decode b_TankArenaModel_drive 11 = .ok (.aload_n 0, 1) := by decide +kernel
theorem d_TankArenaModel_drive_12 : decode b_TankArenaModel_drive 12 = .ok (.getfield 37, 3) := by decide +kernel
theorem d_TankArenaModel_drive_15 : decode b_TankArenaModel_drive 15 = .ok (.iload_n 1, 1) := by decide +kernel
theorem d_TankArenaModel_drive_16 : decode b_TankArenaModel_drive 16 = .ok (.aload_n 0, 1) := by decide +kernel
theorem d_TankArenaModel_drive_17 : decode b_TankArenaModel_drive 17 = .ok (.getfield 37, 3) := by decide +kernel
theorem d_TankArenaModel_drive_20 : decode b_TankArenaModel_drive 20 = .ok (.iload_n 1, 1) := by decide +kernel
theorem d_TankArenaModel_drive_21 : decode b_TankArenaModel_drive 21 = .ok (.iaload, 1) := by decide +kernel
theorem d_TankArenaModel_drive_22 : decode b_TankArenaModel_drive 22 = .ok (.aload_n 0, 1) := by decide +kernel
theorem d_TankArenaModel_drive_23 : decode b_TankArenaModel_drive 23 = .ok (.getfield 86, 3) := by decide +kernel
theorem d_TankArenaModel_drive_26 : decode b_TankArenaModel_drive 26 = .ok (.iload_n 1, 1) := by decide +kernel
theorem d_TankArenaModel_drive_27 : decode b_TankArenaModel_drive 27 = .ok (.iaload, 1) := by decide +kernel
theorem d_TankArenaModel_drive_28 : decode b_TankArenaModel_drive 28 = .ok (.iadd, 1) := by decide +kernel
theorem d_TankArenaModel_drive_29 : decode b_TankArenaModel_drive 29 = .ok (.bipush 7, 2) := by decide +kernel
theorem d_TankArenaModel_drive_31 : decode b_TankArenaModel_drive 31 = .ok (.iand, 1) := by decide +kernel
theorem d_TankArenaModel_drive_32 : decode b_TankArenaModel_drive 32 = .ok (.iastore, 1) := by decide +kernel
theorem d_TankArenaModel_drive_33 : decode b_TankArenaModel_drive 33 = .ok (.aload_n 0, 1) := by decide +kernel
theorem d_TankArenaModel_drive_34 : decode b_TankArenaModel_drive 34 = .ok (.getfield 40, 3) := by decide +kernel
theorem d_TankArenaModel_drive_37 : decode b_TankArenaModel_drive 37 = .ok (.iload_n 1, 1) := by decide +kernel
theorem d_TankArenaModel_drive_38 : decode b_TankArenaModel_drive 38 = .ok (.aload_n 0, 1) := by decide +kernel
theorem d_TankArenaModel_drive_39 : decode b_TankArenaModel_drive 39 = .ok (.getfield 40, 3) := by decide +kernel
theorem d_TankArenaModel_drive_42 : decode b_TankArenaModel_drive 42 = .ok (.iload_n 1, 1) := by decide +kernel
theorem d_TankArenaModel_drive_43 : decode b_TankArenaModel_drive 43 = .ok (.iaload, 1) := by decide +kernel
theorem d_TankArenaModel_drive_44 : decode b_TankArenaModel_drive 44 = .ok (.aload_n 0, 1) := by decide +kernel
theorem d_TankArenaModel_drive_45 : decode b_TankArenaModel_drive 45 = .ok (.getfield 86, 3) := by decide +kernel
theorem d_TankArenaModel_drive_48 : decode b_TankArenaModel_drive 48 = .ok (.iconst 4, 1) := by decide +kernel
theorem d_TankArenaModel_drive_49 : decode b_TankArenaModel_drive 49 = .ok (.iload_n 1, 1) := by decide +kernel
theorem d_TankArenaModel_drive_50 : decode b_TankArenaModel_drive 50 = .ok (.iadd, 1) := by decide +kernel
theorem d_TankArenaModel_drive_51 : decode b_TankArenaModel_drive 51 = .ok (.iaload, 1) := by decide +kernel
theorem d_TankArenaModel_drive_52 : decode b_TankArenaModel_drive 52 = .ok (.iadd, 1) := by decide +kernel
theorem d_TankArenaModel_drive_53 : decode b_TankArenaModel_drive 53 = .ok (.bipush 7, 2) := by decide +kernel
theorem d_TankArenaModel_drive_55 : decode b_TankArenaModel_drive 55 = .ok (.iand, 1) := by decide +kernel
theorem d_TankArenaModel_drive_56 : decode b_TankArenaModel_drive 56 = .ok (.iastore, 1) := by decide +kernel
theorem d_TankArenaModel_drive_57 : decode b_TankArenaModel_drive 57 = .ok (.aload_n 0, 1) := by decide +kernel
theorem d_TankArenaModel_drive_58 : decode b_TankArenaModel_drive 58 = .ok (.getfield 43, 3) := by decide +kernel
theorem d_TankArenaModel_drive_61 : decode b_TankArenaModel_drive 61 = .ok (.iload_n 1, 1) := by decide +kernel
theorem d_TankArenaModel_drive_62 : decode b_TankArenaModel_drive 62 = .ok (.aload_n 0, 1) := by decide +kernel
theorem d_TankArenaModel_drive_63 : decode b_TankArenaModel_drive 63 = .ok (.getfield 43, 3) := by decide +kernel
theorem d_TankArenaModel_drive_66 : decode b_TankArenaModel_drive 66 = .ok (.iload_n 1, 1) := by decide +kernel
theorem d_TankArenaModel_drive_67 : decode b_TankArenaModel_drive 67 = .ok (.iaload, 1) := by decide +kernel
theorem d_TankArenaModel_drive_68 : decode b_TankArenaModel_drive 68 = .ok (.aload_n 0, 1) := by decide +kernel
theorem d_TankArenaModel_drive_69 : decode b_TankArenaModel_drive 69 = .ok (.getfield 86, 3) := by decide +kernel
theorem d_TankArenaModel_drive_72 : decode b_TankArenaModel_drive 72 = .ok (.bipush 8, 2) := by decide +kernel
theorem d_TankArenaModel_drive_74 : decode b_TankArenaModel_drive 74 = .ok (.iload_n 1, 1) := by decide +kernel
theorem d_TankArenaModel_drive_75 : decode b_TankArenaModel_drive 75 = .ok (.iadd, 1) := by decide +kernel
theorem d_TankArenaModel_drive_76 : decode b_TankArenaModel_drive 76 = .ok (.iaload, 1) := by decide +kernel
theorem d_TankArenaModel_drive_77 : decode b_TankArenaModel_drive 77 = .ok (.iadd, 1) := by decide +kernel
theorem d_TankArenaModel_drive_78 : decode b_TankArenaModel_drive 78 = .ok (.bipush 7, 2) := by decide +kernel
theorem d_TankArenaModel_drive_80 : decode b_TankArenaModel_drive 80 = .ok (.iand, 1) := by decide +kernel
theorem d_TankArenaModel_drive_81 : decode b_TankArenaModel_drive 81 = .ok (.iastore, 1) := by decide +kernel
theorem d_TankArenaModel_drive_82 : decode b_TankArenaModel_drive 82 = .ok (.aload_n 0, 1) := by decide +kernel
theorem d_TankArenaModel_drive_83 : decode b_TankArenaModel_drive 83 = .ok (.getfield 64, 3) := by decide +kernel
theorem d_TankArenaModel_drive_86 : decode b_TankArenaModel_drive 86 = .ok (.iload_n 1, 1) := by decide +kernel
theorem d_TankArenaModel_drive_87 : decode b_TankArenaModel_drive 87 = .ok (.iaload, 1) := by decide +kernel
theorem d_TankArenaModel_drive_88 : decode b_TankArenaModel_drive 88 = .ok (.iconst 2, 1) := by decide +kernel
theorem d_TankArenaModel_drive_89 : decode b_TankArenaModel_drive 89 = .ok (.if_icmp .le 7, 3) := by decide +kernel
theorem d_TankArenaModel_drive_92 : decode b_TankArenaModel_drive 92 = .ok (.iconst 0, 1) := by decide +kernel
theorem d_TankArenaModel_drive_93 : decode b_TankArenaModel_drive 93 = .ok (.goto 9, 3) := by decide +kernel
theorem d_TankArenaModel_drive_96 : decode b_TankArenaModel_drive 96 = .ok (.aload_n 0, 1) := by decide +kernel
theorem d_TankArenaModel_drive_97 : decode b_TankArenaModel_drive 97 = .ok (.getfield 49, 3) := by decide +kernel
theorem d_TankArenaModel_drive_100 : decode b_TankArenaModel_drive 100 = .ok (.iload_n 1, 1) := by decide +kernel
theorem d_TankArenaModel_drive_101 : decode b_TankArenaModel_drive 101 = .ok (.iaload, 1) := by decide +kernel
theorem d_TankArenaModel_drive_102 : decode b_TankArenaModel_drive 102 = .ok (.istore_n 2, 1) := by decide +kernel
theorem d_TankArenaModel_drive_103 : decode b_TankArenaModel_drive 103 = .ok (.iload_n 2, 1) := by decide +kernel
theorem d_TankArenaModel_drive_104 : decode b_TankArenaModel_drive 104 = .ok (.aload_n 0, 1) := by decide +kernel
theorem d_TankArenaModel_drive_105 : decode b_TankArenaModel_drive 105 = .ok (.getfield 46, 3) := by decide +kernel
theorem d_TankArenaModel_drive_108 : decode b_TankArenaModel_drive 108 = .ok (.iload_n 1, 1) := by decide +kernel
theorem d_TankArenaModel_drive_109 : decode b_TankArenaModel_drive 109 = .ok (.iaload, 1) := by decide +kernel
theorem d_TankArenaModel_drive_110 : decode b_TankArenaModel_drive 110 = .ok (.if_icmp .le 16, 3) := by decide +kernel
theorem d_TankArenaModel_drive_113 : decode b_TankArenaModel_drive 113 = .ok (.aload_n 0, 1) := by decide +kernel
theorem d_TankArenaModel_drive_114 : decode b_TankArenaModel_drive 114 = .ok (.getfield 46, 3) := by decide +kernel
theorem d_TankArenaModel_drive_117 : decode b_TankArenaModel_drive 117 = .ok (.iload_n 1, 1) := by decide +kernel
theorem d_TankArenaModel_drive_118 : decode b_TankArenaModel_drive 118 = .ok (.dup2, 1) := by decide +kernel
theorem d_TankArenaModel_drive_119 : decode b_TankArenaModel_drive 119 = .ok (.iaload, 1) := by decide +kernel
theorem d_TankArenaModel_drive_120 : decode b_TankArenaModel_drive 120 = .ok (.iconst 4, 1) := by decide +kernel
theorem d_TankArenaModel_drive_121 : decode b_TankArenaModel_drive 121 = .ok (.iadd, 1) := by decide +kernel
theorem d_TankArenaModel_drive_122 : decode b_TankArenaModel_drive 122 = .ok (.iastore, 1) := by decide +kernel
theorem d_TankArenaModel_drive_123 : decode b_TankArenaModel_drive 123 = .ok (.goto 45, 3) := by decide +kernel
theorem d_TankArenaModel_drive_126 : decode b_TankArenaModel_drive 126 = .ok (.iload_n 2, 1) := by decide +kernel
theorem d_TankArenaModel_drive_127 : decode b_TankArenaModel_drive 127 = .ok (.aload_n 0, 1) := by decide +kernel
theorem d_TankArenaModel_drive_128 : decode b_TankArenaModel_drive 128 = .ok (.getfield 46, 3) := by decide +kernel
theorem d_TankArenaModel_drive_131 : decode b_TankArenaModel_drive 131 = .ok (.iload_n 1, 1) := by decide +kernel
theorem d_TankArenaModel_drive_132 : decode b_TankArenaModel_drive 132 = .ok (.iaload, 1) := by decide +kernel
theorem d_TankArenaModel_drive_133 : decode b_TankArenaModel_drive 133 = .ok (.if_icmp .ge 35, 3) := by decide +kernel
theorem d_TankArenaModel_drive_136 : decode b_TankArenaModel_drive 136 = .ok (.aload_n 0, 1) := by decide +kernel
theorem d_TankArenaModel_drive_137 : decode b_TankArenaModel_drive 137 = .ok (.getfield 46, 3) := by decide +kernel
theorem d_TankArenaModel_drive_140 : decode b_TankArenaModel_drive 140 = .ok (.iload_n 1, 1) := by decide +kernel
theorem d_TankArenaModel_drive_141 : decode b_TankArenaModel_drive 141 = .ok (.aload_n 0, 1) := by decide +kernel
theorem d_TankArenaModel_drive_142 : decode b_TankArenaModel_drive 142 = .ok (.getfield 46, 3) := by decide +kernel
theorem d_TankArenaModel_drive_145 : decode b_TankArenaModel_drive 145 = .ok (.iload_n 1, 1) := by decide +kernel
theorem d_TankArenaModel_drive_146 : decode b_TankArenaModel_drive 146 = .ok (.iaload, 1) := by decide +kernel
theorem d_TankArenaModel_drive_147 : decode b_TankArenaModel_drive 147 = .ok (.bipush 8, 2) := by decide +kernel
theorem d_TankArenaModel_drive_149 : decode b_TankArenaModel_drive 149 = .ok (.isub, 1) := by decide +kernel
theorem d_TankArenaModel_drive_150 : decode b_TankArenaModel_drive 150 = .ok (.iload_n 2, 1) := by decide +kernel
theorem d_TankArenaModel_drive_151 : decode b_TankArenaModel_drive 151 = .ok (.if_icmp .ge 7, 3) := by decide +kernel
theorem d_TankArenaModel_drive_154 : decode b_TankArenaModel_drive 154 = .ok (.iload_n 2, 1) := by decide +kernel
theorem d_TankArenaModel_drive_155 : decode b_TankArenaModel_drive 155 = .ok (.goto 12, 3) := by decide +kernel
theorem d_TankArenaModel_drive_158 : decode b_TankArenaModel_drive 158 = .ok (.aload_n 0, 1) := by decide +kernel
theorem d_TankArenaModel_drive_159 : decode b_TankArenaModel_drive 159 = .ok (.getfield 46, 3) := by decide +kernel
theorem d_TankArenaModel_drive_162 : decode b_TankArenaModel_drive 162 = .ok (.iload_n 1, 1) := by decide +kernel
theorem d_TankArenaModel_drive_163 : decode b_TankArenaModel_drive 163 = .ok (.iaload, 1) := by decide +kernel
theorem d_TankArenaModel_drive_164 : decode b_TankArenaModel_drive 164 = .ok (.bipush 8, 2) := by decide +kernel
theorem d_TankArenaModel_drive_166 : decode b_TankArenaModel_drive 166 = .ok (.isub, 1) := by decide +kernel
theorem d_TankArenaModel_drive_167 : decode b_TankArenaModel_drive 167 = .ok (.iastore, 1) := by decide +kernel
theorem d_TankArenaModel_drive_168 : decode b_TankArenaModel_drive 168 = .ok (.aload_n 0, 1) := by decide +kernel
theorem d_TankArenaModel_drive_169 : decode b_TankArenaModel_drive 169 = .ok (.getfield 31, 3) := by decide +kernel
theorem d_TankArenaModel_drive_172 : decode b_TankArenaModel_drive 172 = .ok (.iload_n 1, 1) := by decide +kernel
theorem d_TankArenaModel_drive_173 : decode b_TankArenaModel_drive 173 = .ok (.iaload, 1) := by decide +kernel
theorem d_TankArenaModel_drive_174 : decode b_TankArenaModel_drive 174 = .ok (.istore_n 3, 1) := by decide +kernel
theorem d_TankArenaModel_drive_175 : decode b_TankArenaModel_drive 175 = .ok (.aload_n 0, 1) := by decide +kernel
theorem d_TankArenaModel_drive_176 : decode b_TankArenaModel_drive 176 = .ok (.getfield 34, 3) := by decide +kernel
theorem d_TankArenaModel_drive_179 : decode b_TankArenaModel_drive 179 = .ok (.iload_n 1, 1) := by decide +kernel
theorem d_TankArenaModel_drive_180 : decode b_TankArenaModel_drive 180 = .ok (.iaload, 1) := by decide +kernel
theorem d_TankArenaModel_drive_181 : decode b_TankArenaModel_drive 181 = .ok (.istore 4, 2) := by decide +kernel
theorem d_TankArenaModel_drive_183 : decode b_TankArenaModel_drive 183 = .ok (.iload_n 3, 1) := by decide +kernel
theorem d_TankArenaModel_drive_184 : decode b_TankArenaModel_drive 184 = .ok (.aload_n 0, 1) := by decide +kernel
theorem d_TankArenaModel_drive_185 : decode b_TankArenaModel_drive 185 = .ok (.getfield 46, 3) := by decide +kernel
theorem d_TankArenaModel_drive_188 : decode b_TankArenaModel_drive 188 = .ok (.iload_n 1, 1) := by decide +kernel
theorem d_TankArenaModel_drive_189 : decode b_TankArenaModel_drive 189 = .ok (.iaload, 1) := by decide +kernel
theorem d_TankArenaModel_drive_190 : decode b_TankArenaModel_drive 190 = .ok (.aload_n 0, 1) := by decide +kernel
theorem d_TankArenaModel_drive_191 : decode b_TankArenaModel_drive 191 = .ok (.getfield 37, 3) := by decide +kernel
theorem d_TankArenaModel_drive_194 : decode b_TankArenaModel_drive 194 = .ok (.iload_n 1, 1) := by decide +kernel
theorem d_TankArenaModel_drive_195 : decode b_TankArenaModel_drive 195 = .ok (.iaload, 1) := by decide +kernel
theorem d_TankArenaModel_drive_196 : decode b_TankArenaModel_drive 196 = .ok (.invokestatic 162, 3) := by decide +kernel
theorem d_TankArenaModel_drive_199 : decode b_TankArenaModel_drive 199 = .ok (.imul, 1) := by decide +kernel
theorem d_TankArenaModel_drive_200 : decode b_TankArenaModel_drive 200 = .ok (.iadd, 1) := by decide +kernel
theorem d_TankArenaModel_drive_201 : decode b_TankArenaModel_drive 201 = .ok (.istore 5, 2) := by decide +kernel
theorem d_TankArenaModel_drive_203 : decode b_TankArenaModel_drive 203 = .ok (.iload 4, 2) := by decide +kernel
theorem d_TankArenaModel_drive_205 : decode b_TankArenaModel_drive 205 = .ok (.aload_n 0, 1) := by decide +kernel
theorem d_TankArenaModel_drive_206 : decode b_TankArenaModel_drive 206 = .ok (.getfield 46, 3) := by decide +kernel
theorem d_TankArenaModel_drive_209 : decode b_TankArenaModel_drive 209 = .ok (.iload_n 1, 1) := by decide +kernel
theorem d_TankArenaModel_drive_210 : decode b_TankArenaModel_drive 210 = .ok (.iaload, 1) := by decide +kernel
theorem d_TankArenaModel_drive_211 : decode b_TankArenaModel_drive 211 = .ok (.aload_n 0, 1) := by decide +kernel
theorem d_TankArenaModel_drive_212 : decode b_TankArenaModel_drive 212 = .ok (.getfield 37, 3) := by decide +kernel
theorem d_TankArenaModel_drive_215 : decode b_TankArenaModel_drive 215 = .ok (.iload_n 1, 1) := by decide +kernel
theorem d_TankArenaModel_drive_216 : decode b_TankArenaModel_drive 216 = .ok (.iaload, 1) := by decide +kernel
theorem d_TankArenaModel_drive_217 : decode b_TankArenaModel_drive 217 = .ok (.invokestatic 165, 3) := by decide +kernel
theorem d_TankArenaModel_drive_220 : decode b_TankArenaModel_drive 220 = .ok (.imul, 1) := by decide +kernel
theorem d_TankArenaModel_drive_221 : decode b_TankArenaModel_drive 221 = .ok (.iadd, 1) := by decide +kernel
theorem d_TankArenaModel_drive_222 : decode b_TankArenaModel_drive 222 = .ok (.istore 6, 2) := by decide +kernel
theorem d_TankArenaModel_drive_224 : decode b_TankArenaModel_drive 224 = .ok (.aload_n 0, 1) := by decide +kernel
theorem d_TankArenaModel_drive_225 : decode b_TankArenaModel_drive 225 = .ok (.getfield 31, 3) := by decide +kernel
theorem d_TankArenaModel_drive_228 : decode b_TankArenaModel_drive 228 = .ok (.iload_n 1, 1) := by decide +kernel
theorem d_TankArenaModel_drive_229 : decode b_TankArenaModel_drive 229 = .ok (.iload 5, 2) := by decide +kernel
theorem d_TankArenaModel_drive_231 : decode b_TankArenaModel_drive 231 = .ok (.invokestatic 179, 3) := by decide +kernel
theorem d_TankArenaModel_drive_234 : decode b_TankArenaModel_drive 234 = .ok (.iastore, 1) := by decide +kernel
theorem d_TankArenaModel_drive_235 : decode b_TankArenaModel_drive 235 = .ok (.aload_n 0, 1) := by decide +kernel
theorem d_TankArenaModel_drive_236 : decode b_TankArenaModel_drive 236 = .ok (.getfield 34, 3) := by decide +kernel
theorem d_TankArenaModel_drive_239 : decode b_TankArenaModel_drive 239 = .ok (.iload_n 1, 1) := by decide +kernel
theorem d_TankArenaModel_drive_240 : decode b_TankArenaModel_drive 240 = .ok (.iload 6, 2) := by decide +kernel
theorem d_TankArenaModel_drive_242 : decode b_TankArenaModel_drive 242 = .ok (.invokestatic 179, 3) := by decide +kernel
theorem d_TankArenaModel_drive_245 : decode b_TankArenaModel_drive 245 = .ok (.iastore, 1) := by decide +kernel
theorem d_TankArenaModel_drive_246 : decode b_TankArenaModel_drive 246 = .ok (.aload_n 0, 1) := by decide +kernel
theorem d_TankArenaModel_drive_247 : decode b_TankArenaModel_drive 247 = .ok (.getfield 31, 3) := by decide +kernel
theorem d_TankArenaModel_drive_250 : decode b_TankArenaModel_drive 250 = .ok (.iload_n 1, 1) := by decide +kernel
theorem d_TankArenaModel_drive_251 : decode b_TankArenaModel_drive 251 = .ok (.iaload, 1) := by decide +kernel
theorem d_TankArenaModel_drive_252 : decode b_TankArenaModel_drive 252 = .ok (.iload 5, 2) := by decide +kernel
theorem d_TankArenaModel_drive_254 : decode b_TankArenaModel_drive 254 = .ok (.if_icmp .ne 14, 3) := by decide +kernel
theorem d_TankArenaModel_drive_257 : decode b_TankArenaModel_drive 257 = .ok (.aload_n 0, 1) := by decide +kernel
theorem d_TankArenaModel_drive_258 : decode b_TankArenaModel_drive 258 = .ok (.getfield 34, 3) := by decide +kernel
theorem d_TankArenaModel_drive_261 : decode b_TankArenaModel_drive 261 = .ok (.iload_n 1, 1) := by decide +kernel
theorem d_TankArenaModel_drive_262 : decode b_TankArenaModel_drive 262 = .ok (.iaload, 1) := by decide +kernel
theorem d_TankArenaModel_drive_263 : decode b_TankArenaModel_drive 263 = .ok (.iload 6, 2) := by decide +kernel
theorem d_TankArenaModel_drive_265 : decode b_TankArenaModel_drive 265 = .ok (.if_icmp .eq 27, 3) := by decide +kernel
theorem d_TankArenaModel_drive_268 : decode b_TankArenaModel_drive 268 = .ok (.aload_n 0, 1) := by decide +kernel
theorem d_TankArenaModel_drive_269 : decode b_TankArenaModel_drive 269 = .ok (.getfield 74, 3) := by decide +kernel
theorem d_TankArenaModel_drive_272 : decode b_TankArenaModel_drive 272 = .ok (.iload_n 1, 1) := by decide +kernel
theorem d_TankArenaModel_drive_273 : decode b_TankArenaModel_drive 273 = .ok (.iconst 1, 1) := by decide +kernel
theorem d_TankArenaModel_drive_274 : decode b_TankArenaModel_drive 274 = .ok (.bastore, 1) := by decide +kernel
theorem d_TankArenaModel_drive_275 : decode b_TankArenaModel_drive 275 = .ok (.aload_n 0, 1) := by decide +kernel
theorem d_TankArenaModel_drive_276 : decode b_TankArenaModel_drive 276 = .ok (.getfield 52, 3) := by decide +kernel
theorem d_TankArenaModel_drive_279 : decode b_TankArenaModel_drive 279 = .ok (.iload_n 1, 1) := by decide +kernel
theorem d_TankArenaModel_drive_280 : decode b_TankArenaModel_drive 280 = .ok (.dup2, 1) := by decide +kernel
theorem d_TankArenaModel_drive_281 : decode b_TankArenaModel_drive 281 = .ok (.iaload, 1) := by decide +kernel
theorem d_TankArenaModel_drive_282 : decode b_TankArenaModel_drive 282 = .ok (.aload_n 0, 1) := by decide +kernel
theorem d_TankArenaModel_drive_283 : decode b_TankArenaModel_drive 283 = .ok (.getfield 46, 3) := by decide +kernel
theorem d_TankArenaModel_drive_286 : decode b_TankArenaModel_drive 286 = .ok (.iload_n 1, 1) := by decide +kernel
theorem d_TankArenaModel_drive_287 : decode b_TankArenaModel_drive 287 = .ok (.iaload, 1) := by decide +kernel
theorem d_TankArenaModel_drive_288 : decode b_TankArenaModel_drive 288 = .ok (.iconst 2, 1) := by decide +kernel
theorem d_TankArenaModel_drive_289 : decode b_TankArenaModel_drive 289 = .ok (.idiv, 1) := by decide +kernel
theorem d_TankArenaModel_drive_290 : decode b_TankArenaModel_drive 290 = .ok (.isub, 1) := by decide +kernel
theorem d_TankArenaModel_drive_291 : decode b_TankArenaModel_drive 291 = .ok (.iastore, 1) := by decide +kernel
theorem d_TankArenaModel_drive_292 : decode b_TankArenaModel_drive 292 = .ok (.aload_n 0, 1) := by decide +kernel
theorem d_TankArenaModel_drive_293 : decode b_TankArenaModel_drive 293 = .ok (.iload_n 1, 1) := by decide +kernel
theorem d_TankArenaModel_drive_294 : decode b_TankArenaModel_drive 294 = .ok (.invokevirtual 182, 3) := by decide +kernel
theorem d_TankArenaModel_drive_297 : decode b_TankArenaModel_drive 297 = .ok (.istore 7, 2) := by decide +kernel
theorem d_TankArenaModel_drive_299 : decode b_TankArenaModel_drive 299 = .ok (.iload 7, 2) := by decide +kernel
theorem d_TankArenaModel_drive_301 : decode b_TankArenaModel_drive 301 = .ok (.iconst 4, 1) := by decide +kernel
theorem d_TankArenaModel_drive_302 : decode b_TankArenaModel_drive 302 = .ok (.if_icmp .ge 52, 3) := by decide +kernel
theorem d_TankArenaModel_drive_305 : decode b_TankArenaModel_drive 305 = .ok (.aload_n 0, 1) := by decide +kernel
theorem d_TankArenaModel_drive_306 : decode b_TankArenaModel_drive 306 = .ok (.getfield 31, 3) := by decide +kernel
theorem d_TankArenaModel_drive_309 : decode b_TankArenaModel_drive 309 = .ok (.iload_n 1, 1) := by decide +kernel
theorem d_TankArenaModel_drive_310 : decode b_TankArenaModel_drive 310 = .ok (.iload_n 3, 1) := by decide +kernel
theorem d_TankArenaModel_drive_311 : decode b_TankArenaModel_drive 311 = .ok (.iastore, 1) := by decide +kernel
theorem d_TankArenaModel_drive_312 : decode b_TankArenaModel_drive 312 = .ok (.aload_n 0, 1) := by decide +kernel
theorem d_TankArenaModel_drive_313 : decode b_TankArenaModel_drive 313 = .ok (.getfield 34, 3) := by decide +kernel
theorem d_TankArenaModel_drive_316 : decode b_TankArenaModel_drive 316 = .ok (.iload_n 1, 1) := by decide +kernel
theorem d_TankArenaModel_drive_317 : decode b_TankArenaModel_drive 317 = .ok (.iload 4, 2) := by decide +kernel
theorem d_TankArenaModel_drive_319 : decode b_TankArenaModel_drive 319 = .ok (.iastore, 1) := by decide +kernel
theorem d_TankArenaModel_drive_320 : decode b_TankArenaModel_drive 320 = .ok (.aload_n 0, 1) := by decide +kernel
theorem d_TankArenaModel_drive_321 : decode b_TankArenaModel_drive 321 = .ok (.getfield 74, 3) := by decide +kernel
theorem d_TankArenaModel_drive_324 : decode b_TankArenaModel_drive 324 = .ok (.iload_n 1, 1) := by decide +kernel
theorem d_TankArenaModel_drive_325 : decode b_TankArenaModel_drive 325 = .ok (.iconst 1, 1) := by decide +kernel
theorem d_TankArenaModel_drive_326 : decode b_TankArenaModel_drive 326 = .ok (.bastore, 1) := by decide +kernel
theorem d_TankArenaModel_drive_327 : decode b_TankArenaModel_drive 327 = .ok (.aload_n 0, 1) := by decide +kernel
theorem d_TankArenaModel_drive_328 : decode b_TankArenaModel_drive 328 = .ok (.getfield 52, 3) := by decide +kernel
theorem d_TankArenaModel_drive_331 : decode b_TankArenaModel_drive 331 = .ok (.iload_n 1, 1) := by decide +kernel
theorem d_TankArenaModel_drive_332 : decode b_TankArenaModel_drive 332 = .ok (.dup2, 1) := by decide +kernel
theorem d_TankArenaModel_drive_333 : decode b_TankArenaModel_drive 333 = .ok (.iaload, 1) := by decide +kernel
theorem d_TankArenaModel_drive_334 : decode b_TankArenaModel_drive 334 = .ok (.iconst 4, 1) := by decide +kernel
theorem d_TankArenaModel_drive_335 : decode b_TankArenaModel_drive 335 = .ok (.isub, 1) := by decide +kernel
theorem d_TankArenaModel_drive_336 : decode b_TankArenaModel_drive 336 = .ok (.iastore, 1) := by decide +kernel
theorem d_TankArenaModel_drive_337 : decode b_TankArenaModel_drive 337 = .ok (.aload_n 0, 1) := by decide +kernel
theorem d_TankArenaModel_drive_338 : decode b_TankArenaModel_drive 338 = .ok (.getfield 52, 3) := by decide +kernel
theorem d_TankArenaModel_drive_341 : decode b_TankArenaModel_drive 341 = .ok (.iload 7, 2) := by decide +kernel
theorem d_TankArenaModel_drive_343 : decode b_TankArenaModel_drive 343 = .ok (.dup2, 1) := by decide +kernel
theorem d_TankArenaModel_drive_344 : decode b_TankArenaModel_drive 344 = .ok (.iaload, 1) := by decide +kernel
theorem d_TankArenaModel_drive_345 : decode b_TankArenaModel_drive 345 = .ok (.iconst 4, 1) := by decide +kernel
theorem d_TankArenaModel_drive_346 : decode b_TankArenaModel_drive 346 = .ok (.isub, 1) := by decide +kernel
theorem d_TankArenaModel_drive_347 : decode b_TankArenaModel_drive 347 = .ok (.iastore, 1) := by decide +kernel
theorem d_TankArenaModel_drive_348 : decode b_TankArenaModel_drive 348 = .ok (.aload_n 0, 1) := by decide +kernel
theorem d_TankArenaModel_drive_349 : decode b_TankArenaModel_drive 349 = .ok (.iload 7, 2) := by decide +kernel
theorem d_TankArenaModel_drive_351 : decode b_TankArenaModel_drive 351 = .ok (.invokevirtual 159, 3) := by decide +kernel
theorem d_TankArenaModel_drive_354 : decode b_TankArenaModel_drive 354 = .ok (.aload_n 0, 1) := by decide +kernel
theorem d_TankArenaModel_drive_355 : decode b_TankArenaModel_drive 355 = .ok (.getfield 74, 3) := by decide +kernel
theorem d_TankArenaModel_drive_358 : decode b_TankArenaModel_drive 358 = .ok (.iload_n 1, 1) := by decide +kernel
theorem d_TankArenaModel_drive_359 : decode b_TankArenaModel_drive 359 = .ok (.baload, 1) := by decide +kernel
theorem d_TankArenaModel_drive_360 : decode b_TankArenaModel_drive 360 = .ok (.ifCond .eq 10, 3) := by decide +kernel
theorem d_TankArenaModel_drive_363 : decode b_TankArenaModel_drive 363 = .ok (.aload_n 0, 1) := by decide +kernel
theorem d_TankArenaModel_drive_364 : decode b_TankArenaModel_drive 364 = .ok (.getfield 46, 3) := by decide +kernel
theorem d_TankArenaModel_drive_367 : decode b_TankArenaModel_drive 367 = .ok (.iload_n 1, 1) := by decide +kernel
theorem d_TankArenaModel_drive_368 : decode b_TankArenaModel_drive 368 = .ok (.iconst 0, 1) := by decide +kernel
theorem d_TankArenaModel_drive_369 : decode b_TankArenaModel_drive 369 = .ok (.iastore, 1) := by decide +kernel
theorem d_TankArenaModel_drive_370 : decode b_TankArenaModel_drive 370 = .ok (.aload_n 0, 1) := by decide +kernel
theorem d_TankArenaModel_drive_371 : decode b_TankArenaModel_drive 371 = .ok (.iload_n 1, 1) := by decide +kernel
theorem d_TankArenaModel_drive_372 : decode b_TankArenaModel_drive 372 = .ok (.invokevirtual 159, 3) := by decide +kernel
theorem d_TankArenaModel_drive_375 : decode b_TankArenaModel_drive 375 = .ok (.aload_n 0, 1) := by decide +kernel
theorem d_TankArenaModel_drive_376 : decode b_TankArenaModel_drive 376 = .ok (.getfield 55, 3) := by decide +kernel
theorem d_TankArenaModel_drive_379 : decode b_TankArenaModel_drive 379 = .ok (.iload_n 1, 1) := by decide +kernel
theorem d_TankArenaModel_drive_380 : decode b_TankArenaModel_drive 380 = .ok (.aload_n 0, 1) := by decide +kernel
theorem d_TankArenaModel_drive_381 : decode b_TankArenaModel_drive 381 = .ok (.getfield 55, 3) := by decide +kernel
theorem d_TankArenaModel_drive_384 : decode b_TankArenaModel_drive 384 = .ok (.iload_n 1, 1) := by decide +kernel
theorem d_TankArenaModel_drive_385 : decode b_TankArenaModel_drive 385 = .ok (.iaload, 1) := by decide +kernel
theorem d_TankArenaModel_drive_386 : decode b_TankArenaModel_drive 386 = .ok (.iconst 2, 1) := by decide +kernel
theorem d_TankArenaModel_drive_387 : decode b_TankArenaModel_drive 387 = .ok (.if_icmp .ge 7, 3) := by decide +kernel
theorem d_TankArenaModel_drive_390 : decode b_TankArenaModel_drive 390 = .ok (.iconst 0, 1) := by decide +kernel
theorem d_TankArenaModel_drive_391 : decode b_TankArenaModel_drive 391 = .ok (.goto 11, 3) := by decide +kernel
theorem d_TankArenaModel_drive_394 : decode b_TankArenaModel_drive 394 = .ok (.aload_n 0, 1) := by decide +kernel
theorem d_TankArenaModel_drive_395 : decode b_TankArenaModel_drive 395 = .ok (.getfield 55, 3) := by decide +kernel
theorem d_TankArenaModel_drive_398 : decode b_TankArenaModel_drive 398 = .ok (.iload_n 1, 1) := by decide +kernel
theorem d_TankArenaModel_drive_399 : decode b_TankArenaModel_drive 399 = .ok (.iaload, 1) := by decide +kernel
theorem d_TankArenaModel_drive_400 : decode b_TankArenaModel_drive 400 = .ok (.iconst 2, 1) := by decide +kernel
theorem d_TankArenaModel_drive_401 : decode b_TankArenaModel_drive 401 = .ok (.isub, 1) := by decide +kernel
theorem d_TankArenaModel_drive_402 : decode b_TankArenaModel_drive 402 = .ok (.iastore, 1) := by decide +kernel
theorem d_TankArenaModel_drive_403 : decode b_TankArenaModel_drive 403 = .ok (.return_, 1) := by decide +kernel
theorem d_TankArenaModel_enter_0 : decode b_TankArenaModel_enter 0 = .ok (.iload_n 1, 1) := by decide +kernel
theorem d_TankArenaModel_enter_1 : decode b_TankArenaModel_enter 1 = .ok (.iconst 2, 1) := by decide +kernel
theorem d_TankArenaModel_enter_2 : decode b_TankArenaModel_enter 2 = .ok (.if_icmp .lt 45, 3) := by decide +kernel
theorem d_TankArenaModel_enter_5 : decode b_TankArenaModel_enter 5 = .ok (.iload_n 1, 1) := by decide +kernel
theorem d_TankArenaModel_enter_6 : decode b_TankArenaModel_enter 6 = .ok (.bipush 62, 2) := by decide +kernel
theorem d_TankArenaModel_enter_8 : decode b_TankArenaModel_enter 8 = .ok (.if_icmp .gt 39, 3) := by decide +kernel
theorem d_TankArenaModel_enter_11 : decode b_TankArenaModel_enter 11 = .ok (.iload_n 2, 1) := by decide +kernel
theorem d_TankArenaModel_enter_12 : decode b_TankArenaModel_enter 12 = .ok (.iconst 2, 1) := by decide +kernel
theorem d_TankArenaModel_enter_13 : decode b_TankArenaModel_enter 13 = .ok (.if_icmp .lt 34, 3) := by decide +kernel
theorem d_TankArenaModel_enter_16 : decode b_TankArenaModel_enter 16 = .ok (.iload_n 2, 1) := by decide +kernel
theorem d_TankArenaModel_enter_17 : decode b_TankArenaModel_enter 17 = .ok (.bipush 62, 2) := by decide +kernel
theorem d_TankArenaModel_enter_19 : decode b_TankArenaModel_enter 19 = .ok (.if_icmp .gt 28, 3) := by decide +kernel
theorem d_TankArenaModel_enter_22 : decode b_TankArenaModel_enter 22 = .ok (.iload_n 3, 1) := by decide +kernel
theorem d_TankArenaModel_enter_23 : decode b_TankArenaModel_enter 23 = .ok (.ifCond .lt 24, 3) := by decide +kernel
theorem d_TankArenaModel_enter_26 : decode b_TankArenaModel_enter 26 = .ok (.iload_n 3, 1) := by decide +kernel
theorem d_TankArenaModel_enter_27 : decode b_TankArenaModel_enter 27 = .ok (.bipush 7, 2) := by decide +kernel
theorem d_TankArenaModel_enter_29 : decode b_TankArenaModel_enter 29 = .ok (.if_icmp .gt 18, 3) := by decide +kernel
theorem d_TankArenaModel_enter_32 : decode b_TankArenaModel_enter 32 = .ok (.aload_n 0, 1) := by decide +kernel
theorem d_TankArenaModel_enter_33 : decode b_TankArenaModel_enter 33 = .ok (.getfield 118, 3) := by decide +kernel
theorem d_TankArenaModel_enter_36 : decode b_TankArenaModel_enter 36 = .ok (.ifCond .gt 11, 3) := by decide +kernel
theorem d_TankArenaModel_enter_39 : decode b_TankArenaModel_enter 39 = .ok (.aload_n 0, 1) := by decide +kernel
theorem d_TankArenaModel_enter_40 : decode b_TankArenaModel_enter 40 = .ok (.getfield 122, 3) := by decide +kernel
theorem d_TankArenaModel_enter_43 : decode b_TankArenaModel_enter 43 = .ok (.iconst 4, 1) := by decide +kernel
theorem d_TankArenaModel_enter_44 : decode b_TankArenaModel_enter 44 = .ok (.if_icmp .ne 6, 3) := by decide +kernel
theorem d_TankArenaModel_enter_47 : decode b_TankArenaModel_enter 47 = .ok (.ldc 125, 2) := by decide +kernel
theorem d_TankArenaModel_enter_49 : decode b_TankArenaModel_enter 49 = .ok (.ireturn, 1) := by decide +kernel
theorem d_TankArenaModel_enter_50 : decode b_TankArenaModel_enter 50 = .ok (.iconst 0, 1) := by decide +kernel
theorem d_TankArenaModel_enter_51 : decode b_TankArenaModel_enter 51 = .ok (.istore 4, 2) := by decide +kernel
theorem d_TankArenaModel_enter_53 : decode b_TankArenaModel_enter 53 = .ok (.iload 4, 2) := by decide +kernel
theorem d_TankArenaModel_enter_55 : decode b_TankArenaModel_enter 55 = .ok (.aload_n 0, 1) := by decide +kernel
theorem d_TankArenaModel_enter_56 : decode b_TankArenaModel_enter 56 = .ok (.getfield 122, 3) := by decide +kernel
theorem d_TankArenaModel_enter_59 : decode b_TankArenaModel_enter 59 = .ok (.if_icmp .ge 52, 3) := by decide +kernel
theorem d_TankArenaModel_enter_62 : decode b_TankArenaModel_enter 62 = .ok (.aload_n 0, 1) := by decide +kernel
theorem d_TankArenaModel_enter_63 : decode b_TankArenaModel_enter 63 = .ok (.getfield 7, 3) := by decide +kernel
theorem d_TankArenaModel_enter_66 : decode b_TankArenaModel_enter 66 = .ok (.iload 4, 2) := by decide +kernel
theorem d_TankArenaModel_enter_68 : decode b_TankArenaModel_enter 68 = .ok (.iaload, 1) := by decide +kernel
theorem d_TankArenaModel_enter_69 : decode b_TankArenaModel_enter 69 = .ok (.bipush 8, 2) := by decide +kernel
theorem d_TankArenaModel_enter_71 : decode b_TankArenaModel_enter 71 = .ok (.iload_n 1, 1) := by decide +kernel
theorem d_TankArenaModel_enter_72 : decode b_TankArenaModel_enter 72 = .ok (.imul, 1) := by decide +kernel
theorem d_TankArenaModel_enter_73 : decode b_TankArenaModel_enter 73 = .ok (.isub, 1) := by decide +kernel
theorem d_TankArenaModel_enter_74 : decode b_TankArenaModel_enter 74 = .ok (.invokestatic 110, 3) := by decide +kernel
theorem d_TankArenaModel_enter_77 : decode b_TankArenaModel_enter 77 = .ok (.bipush 32, 2) := by decide +kernel
theorem d_TankArenaModel_enter_79 : decode b_TankArenaModel_enter 79 = .ok (.if_icmp .ge 26, 3) := by decide +kernel
theorem d_TankArenaModel_enter_82 : decode b_TankArenaModel_enter 82 = .ok (.aload_n 0, 1) := by decide +kernel
theorem d_TankArenaModel_enter_83 : decode b_TankArenaModel_enter 83 = .ok (.getfield 13, 3) := by decide +kernel
theorem d_TankArenaModel_enter_86 : decode b_TankArenaModel_enter 86 = .ok (.iload 4, 2) := by decide +kernel
theorem d_TankArenaModel_enter_88 : decode b_TankArenaModel_enter 88 = .ok (.iaload, 1) := by decide +kernel
theorem d_TankArenaModel_enter_89 : decode b_TankArenaModel_enter 89 = .ok (.bipush 8, 2) := by decide +kernel
theorem d_TankArenaModel_enter_91 : decode b_TankArenaModel_enter 91 = .ok (.iload_n 2, 1) := by decide +kernel
theorem d_TankArenaModel_enter_92 : decode b_TankArenaModel_enter 92 = .ok (.imul, 1) := by decide +kernel
theorem d_TankArenaModel_enter_93 : decode b_TankArenaModel_enter 93 = .ok (.isub, 1) := by decide +kernel
theorem d_TankArenaModel_enter_94 : decode b_TankArenaModel_enter 94 = .ok (.invokestatic 110, 3) := by decide +kernel
theorem d_TankArenaModel_enter_97 : decode b_TankArenaModel_enter 97 = .ok (.bipush 32, 2) := by decide +kernel
theorem d_TankArenaModel_enter_99 : decode b_TankArenaModel_enter 99 = .ok (.if_icmp .ge 6, 3) := by decide +kernel
theorem d_TankArenaModel_enter_102 : decode b_TankArenaModel_enter 102 = .ok (.ldc 125, 2) := by decide +kernel
theorem d_TankArenaModel_enter_104 : decode b_TankArenaModel_enter 104 = .ok (.ireturn, 1) := by decide +kernel
theorem d_TankArenaModel_enter_105 : decode b_TankArenaModel_enter 105 = .ok (.iinc 4 1, 3) := by decide +kernel
theorem d_TankArenaModel_enter_108 : decode b_TankArenaModel_enter 108 = .ok (.goto (-55), 3) := by decide +kernel
theorem d_TankArenaModel_enter_111 : decode b_TankArenaModel_enter 111 = .ok (.aload_n 0, 1) := by decide +kernel
theorem d_TankArenaModel_enter_112 : decode b_TankArenaModel_enter 112 = .ok (.getfield 7, 3) := by decide +kernel
theorem d_TankArenaModel_enter_115 : decode b_TankArenaModel_enter 115 = .ok (.aload_n 0, 1) := by decide +kernel
theorem d_TankArenaModel_enter_116 : decode b_TankArenaModel_enter 116 = .ok (.getfield 122, 3) := by decide +kernel
theorem d_TankArenaModel_enter_119 : decode b_TankArenaModel_enter 119 = .ok (.bipush 8, 2) := by decide +kernel
theorem d_TankArenaModel_enter_121 : decode b_TankArenaModel_enter 121 = .ok (.iload_n 1, 1) := by decide +kernel
theorem d_TankArenaModel_enter_122 : decode b_TankArenaModel_enter 122 = .ok (.imul, 1) := by decide +kernel
theorem d_TankArenaModel_enter_123 : decode b_TankArenaModel_enter 123 = .ok (.iastore, 1) := by decide +kernel
theorem d_TankArenaModel_enter_124 : decode b_TankArenaModel_enter 124 = .ok (.aload_n 0, 1) := by decide +kernel
theorem d_TankArenaModel_enter_125 : decode b_TankArenaModel_enter 125 = .ok (.getfield 13, 3) := by decide +kernel
theorem d_TankArenaModel_enter_128 : decode b_TankArenaModel_enter 128 = .ok (.aload_n 0, 1) := by decide +kernel
theorem d_TankArenaModel_enter_129 : decode b_TankArenaModel_enter 129 = .ok (.getfield 122, 3) := by decide +kernel
theorem d_TankArenaModel_enter_132 : decode b_TankArenaModel_enter 132 = .ok (.bipush 8, 2) := by decide +kernel
theorem d_TankArenaModel_enter_134 : decode b_TankArenaModel_enter 134 = .ok (.iload_n 2, 1) := by decide +kernel
theorem d_TankArenaModel_enter_135 : decode b_TankArenaModel_enter 135 = .ok (.imul, 1) := by decide +kernel
theorem d_TankArenaModel_enter_136 : decode b_TankArenaModel_enter 136 = .ok (.iastore, 1) := by decide +kernel
theorem d_TankArenaModel_enter_137 : decode b_TankArenaModel_enter 137 = .ok (.aload_n 0, 1) := by decide +kernel
theorem d_TankArenaModel_enter_138 : decode b_TankArenaModel_enter 138 = .ok (.getfield 16, 3) := by decide +kernel
theorem d_TankArenaModel_enter_141 : decode b_TankArenaModel_enter 141 = .ok (.aload_n 0, 1) := by decide +kernel
theorem d_TankArenaModel_enter_142 : decode b_TankArenaModel_enter 142 = .ok (.getfield 122, 3) := by decide +kernel
theorem d_TankArenaModel_enter_145 : decode b_TankArenaModel_enter 145 = .ok (.iload_n 3, 1) := by decide +kernel
theorem d_TankArenaModel_enter_146 : decode b_TankArenaModel_enter 146 = .ok (.iastore, 1) := by decide +kernel
theorem d_TankArenaModel_enter_147 : decode b_TankArenaModel_enter 147 = .ok (.aload_n 0, 1) := by decide +kernel
theorem d_TankArenaModel_enter_148 : decode b_TankArenaModel_enter 148 = .ok (.aload_n 0, 1) := by decide +kernel
theorem d_TankArenaModel_enter_149 : decode b_TankArenaModel_enter 149 = .ok (.getfield 122, 3) := by decide +kernel
theorem d_TankArenaModel_enter_152 : decode b_TankArenaModel_enter 152 = .ok (.invokevirtual 126, 3) := by decide +kernel
theorem d_TankArenaModel_enter_155 : decode b_TankArenaModel_enter 155 = .ok (.aload_n 0, 1) := by decide +kernel
theorem d_TankArenaModel_enter_156 : decode b_TankArenaModel_enter 156 = .ok (.dup, 1) := by decide +kernel
theorem d_TankArenaModel_enter_157 : decode b_TankArenaModel_enter 157 = .ok (.getfield 122, 3) := by decide +kernel
theorem d_TankArenaModel_enter_160 : decode b_TankArenaModel_enter 160 = .ok (.iconst 1, 1) := by decide +kernel
theorem d_TankArenaModel_enter_161 : decode b_TankArenaModel_enter 161 = .ok (.iadd, 1) := by decide +kernel
