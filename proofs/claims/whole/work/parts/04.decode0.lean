/-! DECODE ROWS (printed by gen/words.py) -/
theorem d_TankArena__init__0 : decode b_TankArena__init_ 0 = .ok (.aload_n 0, 1) := by decide +kernel
theorem d_TankArena__init__1 : decode b_TankArena__init_ 1 = .ok (.invokespecial 3, 3) := by decide +kernel
theorem d_TankArena__init__4 : decode b_TankArena__init_ 4 = .ok (.aload_n 0, 1) := by decide +kernel
theorem d_TankArena__init__5 : decode b_TankArena__init_ 5 = .ok (.iconst 4, 1) := by decide +kernel
theorem d_TankArena__init__6 : decode b_TankArena__init_ 6 = .ok (.anewarray 9, 3) := by decide +kernel
theorem d_TankArena__init__9 : decode b_TankArena__init_ 9 = .ok (.putfield 11, 3) := by decide +kernel
theorem d_TankArena__init__12 : decode b_TankArena__init_ 12 = .ok (.iconst 0, 1) := by decide +kernel
theorem d_TankArena__init__13 : decode b_TankArena__init_ 13 = .ok (.istore_n 1, 1) := by decide +kernel
theorem d_TankArena__init__14 : decode b_TankArena__init_ 14 = .ok (.iload_n 1, 1) := by decide +kernel
theorem d_TankArena__init__15 : decode b_TankArena__init_ 15 = .ok (.iconst 4, 1) := by decide +kernel
theorem d_TankArena__init__16 : decode b_TankArena__init_ 16 = .ok (.if_icmp .ge 22, 3) := by decide +kernel
theorem d_TankArena__init__19 : decode b_TankArena__init_ 19 = .ok (.aload_n 0, 1) := by decide +kernel
theorem d_TankArena__init__20 : decode b_TankArena__init_ 20 = .ok (.getfield 11, 3) := by decide +kernel
theorem d_TankArena__init__23 : decode b_TankArena__init_ 23 = .ok (.iload_n 1, 1) := by decide +kernel
theorem d_TankArena__init__24 : decode b_TankArena__init_ 24 = .ok (.new 9, 3) := by decide +kernel
theorem d_TankArena__init__27 : decode b_TankArena__init_ 27 = .ok (.dup, 1) := by decide +kernel
theorem d_TankArena__init__28 : decode b_TankArena__init_ 28 = .ok (.invokespecial 15, 3) := by decide +kernel
theorem d_TankArena__init__31 : decode b_TankArena__init_ 31 = .ok (.aastore, 1) := by decide +kernel
theorem d_TankArena__init__32 : decode b_TankArena__init_ 32 = .ok (.iinc 1 1, 3) := by decide +kernel
theorem d_TankArena__init__35 : decode b_TankArena__init_ 35 = .ok (.goto (-21), 3) := by decide +kernel
theorem d_TankArena__init__38 : decode b_TankArena__init_ 38 = .ok (.aload_n 0, 1) := by decide +kernel
theorem d_TankArena__init__39 : decode b_TankArena__init_ 39 = .ok (.bipush 16, 2) := by decide +kernel
theorem d_TankArena__init__41 : decode b_TankArena__init_ 41 = .ok (.anewarray 16, 3) := by decide +kernel
theorem d_TankArena__init__44 : decode b_TankArena__init_ 44 = .ok (.putfield 18, 3) := by decide +kernel
theorem d_TankArena__init__47 : decode b_TankArena__init_ 47 = .ok (.iconst 0, 1) := by decide +kernel
theorem d_TankArena__init__48 : decode b_TankArena__init_ 48 = .ok (.istore_n 1, 1) := by decide +kernel
theorem d_TankArena__init__49 : decode b_TankArena__init_ 49 = .ok (.iload_n 1, 1) := by decide +kernel
theorem d_TankArena__init__50 : decode b_TankArena__init_ 50 = .ok (.bipush 16, 2) := by decide +kernel
theorem d_TankArena__init__52 : decode b_TankArena__init_ 52 = .ok (.if_icmp .ge 22, 3) := by decide +kernel
theorem d_TankArena__init__55 : decode b_TankArena__init_ 55 = .ok (.aload_n 0, 1) := by decide +kernel
theorem d_TankArena__init__56 : decode b_TankArena__init_ 56 = .ok (.getfield 18, 3) := by decide +kernel
theorem d_TankArena__init__59 : decode b_TankArena__init_ 59 = .ok (.iload_n 1, 1) := by decide +kernel
theorem d_TankArena__init__60 : decode b_TankArena__init_ 60 = .ok (.new 16, 3) := by decide +kernel
theorem d_TankArena__init__63 : decode b_TankArena__init_ 63 = .ok (.dup, 1) := by decide +kernel
theorem d_TankArena__init__64 : decode b_TankArena__init_ 64 = .ok (.invokespecial 22, 3) := by decide +kernel
theorem d_TankArena__init__67 : decode b_TankArena__init_ 67 = .ok (.aastore, 1) := by decide +kernel
theorem d_TankArena__init__68 : decode b_TankArena__init_ 68 = .ok (.iinc 1 1, 3) := by decide +kernel
theorem d_TankArena__init__71 : decode b_TankArena__init_ 71 = .ok (.goto (-22), 3) := by decide +kernel
theorem d_TankArena__init__74 : decode b_TankArena__init_ 74 = .ok (.return_, 1) := by decide +kernel
theorem d_TankArena_bullet_0 : decode b_TankArena_bullet 0 = .ok (.iload_n 1, 1) := by decide +kernel
theorem d_TankArena_bullet_1 : decode b_TankArena_bullet 1 = .ok (.iconst 0, 1) := by decide +kernel
theorem d_TankArena_bullet_2 : decode b_TankArena_bullet 2 = .ok (.aload_n 0, 1) := by decide +kernel
theorem d_TankArena_bullet_3 : decode b_TankArena_bullet 3 = .ok (.getfield 91, 3) := by decide +kernel
theorem d_TankArena_bullet_6 : decode b_TankArena_bullet 6 = .ok (.iconst 1, 1) := by decide +kernel
theorem d_TankArena_bullet_7 : decode b_TankArena_bullet 7 = .ok (.isub, 1) := by decide +kernel
theorem d_TankArena_bullet_8 : decode b_TankArena_bullet 8 = .ok (.invokestatic 30, 3) := by decide +kernel
theorem d_TankArena_bullet_11 : decode b_TankArena_bullet 11 = .ok (.ifCond .eq 16, 3) := by decide +kernel
theorem d_TankArena_bullet_14 : decode b_TankArena_bullet 14 = .ok (.aload_n 0, 1) := by decide +kernel
theorem d_TankArena_bullet_15 : decode b_TankArena_bullet 15 = .ok (.getfield 18, 3) := by decide +kernel
theorem d_TankArena_bullet_18 : decode b_TankArena_bullet 18 = .ok (.iload_n 1, 1) := by decide +kernel
theorem d_TankArena_bullet_19 : decode b_TankArena_bullet 19 = .ok (.aaload, 1) := by decide +kernel
theorem d_TankArena_bullet_20 : decode b_TankArena_bullet 20 = .ok (.iload_n 2, 1) := by decide +kernel
theorem d_TankArena_bullet_21 : decode b_TankArena_bullet 21 = .ok (.invokevirtual 109, 3) := by decide +kernel
theorem d_TankArena_bullet_24 : decode b_TankArena_bullet 24 = .ok (.goto 5, 3) := by decide +kernel
theorem d_TankArena_bullet_27 : decode b_TankArena_bullet 27 = .ok (.ldc 34, 2) := by decide +kernel
theorem d_TankArena_bullet_29 : decode b_TankArena_bullet 29 = .ok (.ireturn, 1) := by decide +kernel
theorem d_TankArena_count_0 : decode b_TankArena_count 0 = .ok (.iload_n 1, 1) := by decide +kernel
theorem d_TankArena_count_1 : decode b_TankArena_count 1 = .ok (.tableswitch 69 0 5 #[39, 44, 49, 54, 59, 64], 39) := by decide +kernel
theorem d_TankArena_count_40 : decode b_TankArena_count 40 = .ok (.aload_n 0, 1) := by decide +kernel
theorem d_TankArena_count_41 : decode b_TankArena_count 41 = .ok (.getfield 23, 3) := by decide +kernel
theorem d_TankArena_count_44 : decode b_TankArena_count 44 = .ok (.ireturn, 1) := by decide +kernel
theorem d_TankArena_count_45 : decode b_TankArena_count 45 = .ok (.aload_n 0, 1) := by decide +kernel
theorem d_TankArena_count_46 : decode b_TankArena_count 46 = .ok (.getfield 27, 3) := by decide +kernel
theorem d_TankArena_count_49 : decode b_TankArena_count 49 = .ok (.ireturn, 1) := by decide +kernel
theorem d_TankArena_count_50 : decode b_TankArena_count 50 = .ok (.aload_n 0, 1) := by decide +kernel
theorem d_TankArena_count_51 : decode b_TankArena_count 51 = .ok (.invokevirtual 66, 3) := by decide +kernel
theorem d_TankArena_count_54 : decode b_TankArena_count 54 = .ok (.ireturn, 1) := by decide +kernel
theorem d_TankArena_count_55 : decode b_TankArena_count 55 = .ok (.aload_n 0, 1) := by decide +kernel
theorem d_TankArena_count_56 : decode b_TankArena_count 56 = .ok (.getfield 91, 3) := by decide +kernel
theorem d_TankArena_count_59 : decode b_TankArena_count 59 = .ok (.ireturn, 1) := by decide +kernel
theorem d_TankArena_count_60 : decode b_TankArena_count 60 = .ok (.aload_n 0, 1) := by decide +kernel
theorem d_TankArena_count_61 : decode b_TankArena_count 61 = .ok (.getfield 94, 3) := by decide +kernel
theorem d_TankArena_count_64 : decode b_TankArena_count 64 = .ok (.ireturn, 1) := by decide +kernel
theorem d_TankArena_count_65 : decode b_TankArena_count 65 = .ok (.aload_n 0, 1) := by decide +kernel
theorem d_TankArena_count_66 : decode b_TankArena_count 66 = .ok (.getfield 97, 3) := by decide +kernel
theorem d_TankArena_count_69 : decode b_TankArena_count 69 = .ok (.ireturn, 1) := by decide +kernel
theorem d_TankArena_count_70 : decode b_TankArena_count 70 = .ok (.ldc 34, 2) := by decide +kernel
theorem d_TankArena_count_72 : decode b_TankArena_count 72 = .ok (.ireturn, 1) := by decide +kernel
theorem d_TankArena_countAlive_0 : decode b_TankArena_countAlive 0 = .ok (.iconst 0, 1) := by decide +kernel
theorem d_TankArena_countAlive_1 : decode b_TankArena_countAlive 1 = .ok (.istore_n 1, 1) := by decide +kernel
theorem d_TankArena_countAlive_2 : decode b_TankArena_countAlive 2 = .ok (.iconst 0, 1) := by decide +kernel
theorem d_TankArena_countAlive_3 : decode b_TankArena_countAlive 3 = .ok (.istore_n 2, 1) := by decide +kernel
theorem d_TankArena_countAlive_4 : decode b_TankArena_countAlive 4 = .ok (.iload_n 2, 1) := by decide +kernel
theorem d_TankArena_countAlive_5 : decode b_TankArena_countAlive 5 = .ok (.aload_n 0, 1) := by decide +kernel
theorem d_TankArena_countAlive_6 : decode b_TankArena_countAlive 6 = .ok (.getfield 27, 3) := by decide +kernel
theorem d_TankArena_countAlive_9 : decode b_TankArena_countAlive 9 = .ok (.if_icmp .ge 24, 3) := by decide +kernel
theorem d_TankArena_countAlive_12 : decode b_TankArena_countAlive 12 = .ok (.aload_n 0, 1) := by decide +kernel
theorem d_TankArena_countAlive_13 : decode b_TankArena_countAlive 13 = .ok (.getfield 11, 3) := by decide +kernel
theorem d_TankArena_countAlive_16 : decode b_TankArena_countAlive 16 = .ok (.iload_n 2, 1) := by decide +kernel
theorem d_TankArena_countAlive_17 : decode b_TankArena_countAlive 17 = .ok (.aaload, 1) := by decide +kernel
theorem d_TankArena_countAlive_18 : decode b_TankArena_countAlive 18 = .ok (.getfield 125, 3) := by decide +kernel
theorem d_TankArena_countAlive_21 : decode b_TankArena_countAlive 21 = .ok (.ifCond .eq 6, 3) := by decide +kernel
theorem d_TankArena_countAlive_24 : decode b_TankArena_countAlive 24 = .ok (.iinc 1 1, 3) := by decide +kernel
theorem d_TankArena_countAlive_27 : decode b_TankArena_countAlive 27 = .ok (.iinc 2 1, 3) := by decide +kernel
theorem d_TankArena_countAlive_30 : decode b_TankArena_countAlive 30 = .ok (.goto (-26), 3) := by decide +kernel
theorem d_TankArena_countAlive_33 : decode b_TankArena_countAlive 33 = .ok (.iload_n 1, 1) := by decide +kernel
theorem d_TankArena_countAlive_34 : decode b_TankArena_countAlive 34 = .ok (.ireturn, 1) := by decide +kernel
theorem d_TankArena_dieIfSpent_0 : decode b_TankArena_dieIfSpent 0 = .ok (.aload_n 0, 1) := by decide +kernel
theorem d_TankArena_dieIfSpent_1 : decode b_TankArena_dieIfSpent 1 = .ok (.getfield 11, 3) := by decide +kernel
theorem d_TankArena_dieIfSpent_4 : decode b_TankArena_dieIfSpent 4 = .ok (.iload_n 1, 1) := by decide +kernel
theorem d_TankArena_dieIfSpent_5 : decode b_TankArena_dieIfSpent 5 = .ok (.aaload, 1) := by decide +kernel
theorem d_TankArena_dieIfSpent_6 : decode b_TankArena_dieIfSpent 6 = .ok (.getfield 231, 3) := by decide +kernel
theorem d_TankArena_dieIfSpent_9 : decode b_TankArena_dieIfSpent 9 = .ok (.ifCond .le 4, 3) := by decide +kernel
theorem d_TankArena_dieIfSpent_12 : decode b_TankArena_dieIfSpent 12 = .ok (.return_, 1) := by decide +kernel
theorem d_TankArena_dieIfSpent_13 : decode b_TankArena_dieIfSpent 13 = .ok (.aload_n 0, 1) := by decide +kernel
theorem d_TankArena_dieIfSpent_14 : decode b_TankArena_dieIfSpent 14 = .ok (.getfield 11, 3) := by decide +kernel
theorem d_TankArena_dieIfSpent_17 : decode b_TankArena_dieIfSpent 17 = .ok (.iload_n 1, 1) := by decide +kernel
theorem d_TankArena_dieIfSpent_18 : decode b_TankArena_dieIfSpent 18 = .ok (.aaload, 1) := by decide +kernel
theorem d_TankArena_dieIfSpent_19 : decode b_TankArena_dieIfSpent 19 = .ok (.iconst 0, 1) := by decide +kernel
theorem d_TankArena_dieIfSpent_20 : decode b_TankArena_dieIfSpent 20 = .ok (.putfield 125, 3) := by decide +kernel
theorem d_TankArena_dieIfSpent_23 : decode b_TankArena_dieIfSpent 23 = .ok (.iconst 0, 1) := by decide +kernel
theorem d_TankArena_dieIfSpent_24 : decode b_TankArena_dieIfSpent 24 = .ok (.istore_n 2, 1) := by decide +kernel
theorem d_TankArena_dieIfSpent_25 : decode b_TankArena_dieIfSpent 25 = .ok (.iload_n 2, 1) := by decide +kernel
theorem d_TankArena_dieIfSpent_26 : decode b_TankArena_dieIfSpent 26 = .ok (.aload_n 0, 1) := by decide +kernel
theorem d_TankArena_dieIfSpent_27 : decode b_TankArena_dieIfSpent 27 = .ok (.getfield 27, 3) := by decide +kernel
theorem d_TankArena_dieIfSpent_30 : decode b_TankArena_dieIfSpent 30 = .ok (.if_icmp .ge 38, 3) := by decide +kernel
theorem d_TankArena_dieIfSpent_33 : decode b_TankArena_dieIfSpent 33 = .ok (.aload_n 0, 1) := by decide +kernel
theorem d_TankArena_dieIfSpent_34 : decode b_TankArena_dieIfSpent 34 = .ok (.getfield 11, 3) := by decide +kernel
theorem d_TankArena_dieIfSpent_37 : decode b_TankArena_dieIfSpent 37 = .ok (.iload_n 2, 1) := by decide +kernel
theorem d_TankArena_dieIfSpent_38 : decode b_TankArena_dieIfSpent 38 = .ok (.aaload, 1) := by decide +kernel
theorem d_TankArena_dieIfSpent_39 : decode b_TankArena_dieIfSpent 39 = .ok (.getfield 125, 3) := by decide +kernel
theorem d_TankArena_dieIfSpent_42 : decode b_TankArena_dieIfSpent 42 = .ok (.ifCond .eq 20, 3) := by decide +kernel
theorem d_TankArena_dieIfSpent_45 : decode b_TankArena_dieIfSpent 45 = .ok (.aload_n 0, 1) := by decide +kernel
theorem d_TankArena_dieIfSpent_46 : decode b_TankArena_dieIfSpent 46 = .ok (.getfield 11, 3) := by decide +kernel
theorem d_TankArena_dieIfSpent_49 : decode b_TankArena_dieIfSpent 49 = .ok (.iload_n 2, 1) := by decide +kernel
theorem d_TankArena_dieIfSpent_50 : decode b_TankArena_dieIfSpent 50 = .ok (.aaload, 1) := by decide +kernel
theorem d_TankArena_dieIfSpent_51 : decode b_TankArena_dieIfSpent 51 = .ok (.dup, 1) := by decide +kernel
theorem d_TankArena_dieIfSpent_52 : decode b_TankArena_dieIfSpent 52 = .ok (.getfield 271, 3) := by decide +kernel
theorem d_TankArena_dieIfSpent_55 : decode b_TankArena_dieIfSpent 55 = .ok (.sipush 400, 3) := by decide +kernel
theorem d_TankArena_dieIfSpent_58 : decode b_TankArena_dieIfSpent 58 = .ok (.iadd, 1) := by decide +kernel
theorem d_TankArena_dieIfSpent_59 : decode b_TankArena_dieIfSpent 59 = .ok (.putfield 271, 3) := by decide +kernel
theorem d_TankArena_dieIfSpent_62 : decode b_TankArena_dieIfSpent 62 = .ok (.iinc 2 1, 3) := by decide +kernel
theorem d_TankArena_dieIfSpent_65 : decode b_TankArena_dieIfSpent 65 = .ok (.goto (-40), 3) := by decide +kernel
theorem d_TankArena_dieIfSpent_68 : decode b_TankArena_dieIfSpent 68 = .ok (.return_, 1) := by decide +kernel
theorem d_TankArena_drive_0 : decode b_TankArena_drive 0 = .ok (.aload_n 0, 1) := by decide +kernel
theorem d_TankArena_drive_1 : decode b_TankArena_drive 1 = .ok (.getfield 11, 3) := by decide +kernel
theorem d_TankArena_drive_4 : decode b_TankArena_drive 4 = .ok (.iload_n 1, 1) := by decide +kernel
theorem d_TankArena_drive_5 : decode b_TankArena_drive 5 = .ok (.aaload, 1) := by decide +kernel
theorem d_TankArena_drive_6 : decode b_TankArena_drive 6 = .ok (.astore_n 2, 1) := by decide +kernel
theorem d_TankArena_drive_7 : decode b_TankArena_drive 7 = .ok (.aload_n 2, 1) := by decide +kernel
theorem d_TankArena_drive_8 : decode b_TankArena_drive 8 = .ok (.getfield 110, 3) := by decide +kernel
theorem d_TankArena_drive_11 : decode b_TankArena_drive 11 = .ok (.istore_n 3, 1) := by decide +kernel
theorem d_TankArena_drive_12 : decode b_TankArena_drive 12 = .ok (.aload_n 2, 1) := by decide +kernel
theorem d_TankArena_drive_13 : decode b_TankArena_drive 13 = .ok (.getfield 113, 3) := by decide +kernel
theorem d_TankArena_drive_16 : decode b_TankArena_drive 16 = .ok (.istore 4, 2) := by decide +kernel
theorem d_TankArena_drive_18 : decode b_TankArena_drive 18 = .ok (.aload_n 2, 1) := by decide +kernel
theorem d_TankArena_drive_19 : decode b_TankArena_drive 19 = .ok (.invokevirtual 280, 3) := by decide +kernel
theorem d_TankArena_drive_22 : decode b_TankArena_drive 22 = .ok (.aload_n 2, 1) := by decide +kernel
theorem d_TankArena_drive_23 : decode b_TankArena_drive 23 = .ok (.invokevirtual 283, 3) := by decide +kernel
theorem d_TankArena_drive_26 : decode b_TankArena_drive 26 = .ok (.aload_n 2, 1) := by decide +kernel
theorem d_TankArena_drive_27 : decode b_TankArena_drive 27 = .ok (.invokevirtual 286, 3) := by decide +kernel
theorem d_TankArena_drive_30 : decode b_TankArena_drive 30 = .ok (.aload_n 0, 1) := by decide +kernel
theorem d_TankArena_drive_31 : decode b_TankArena_drive 31 = .ok (.iload_n 1, 1) := by decide +kernel
theorem d_TankArena_drive_32 : decode b_TankArena_drive 32 = .ok (.aload_n 2, 1) := by decide +kernel
theorem d_TankArena_drive_33 : decode b_TankArena_drive 33 = .ok (.getfield 110, 3) := by decide +kernel
theorem d_TankArena_drive_36 : decode b_TankArena_drive 36 = .ok (.aload_n 2, 1) := by decide +kernel
theorem d_TankArena_drive_37 : decode b_TankArena_drive 37 = .ok (.getfield 113, 3) := by decide +kernel
theorem d_TankArena_drive_40 : decode b_TankArena_drive 40 = .ok (.invokevirtual 35, 3) := by decide +kernel
theorem d_TankArena_drive_43 : decode b_TankArena_drive 43 = .ok (.istore 5, 2) := by decide +kernel
theorem d_TankArena_drive_45 : decode b_TankArena_drive 45 = .ok (.iload 5, 2) := by decide +kernel
theorem d_TankArena_drive_47 : decode b_TankArena_drive 47 = .ok (.iconst 4, 1) := by decide +kernel
theorem d_TankArena_drive_48 : decode b_TankArena_drive 48 = .ok (.if_icmp .eq 48, 3) := by decide +kernel
theorem d_TankArena_drive_51 : decode b_TankArena_drive 51 = .ok (.aload_n 2, 1) := by decide +kernel
theorem d_TankArena_drive_52 : decode b_TankArena_drive 52 = .ok (.iload_n 3, 1) := by decide +kernel
theorem d_TankArena_drive_53 : decode b_TankArena_drive 53 = .ok (.putfield 110, 3) := by decide +kernel
theorem d_TankArena_drive_56 : decode b_TankArena_drive 56 = .ok (.aload_n 2, 1) := by decide +kernel
theorem d_TankArena_drive_57 : decode b_TankArena_drive 57 = .ok (.iload 4, 2) := by decide +kernel
theorem d_TankArena_drive_59 : decode b_TankArena_drive 59 = .ok (.putfield 113, 3) := by decide +kernel
theorem d_TankArena_drive_62 : decode b_TankArena_drive 62 = .ok (.aload_n 2, 1) := by decide +kernel
theorem d_TankArena_drive_63 : decode b_TankArena_drive 63 = .ok (.getfield 197, 3) := by decide +kernel
theorem d_TankArena_drive_66 : decode b_TankArena_drive 66 = .ok (.iconst 1, 1) := by decide +kernel
theorem d_TankArena_drive_67 : decode b_TankArena_drive 67 = .ok (.putfield 206, 3) := by decide +kernel
theorem d_TankArena_drive_70 : decode b_TankArena_drive 70 = .ok (.aload_n 2, 1) := by decide +kernel
theorem d_TankArena_drive_71 : decode b_TankArena_drive 71 = .ok (.dup, 1) := by decide +kernel
theorem d_TankArena_drive_72 : decode b_TankArena_drive 72 = .ok (.getfield 231, 3) := by decide +kernel
theorem d_TankArena_drive_75 : decode b_TankArena_drive 75 = .ok (.iconst 4, 1) := by decide +kernel
theorem d_TankArena_drive_76 : decode b_TankArena_drive 76 = .ok (.isub, 1) := by decide +kernel
theorem d_TankArena_drive_77 : decode b_TankArena_drive 77 = .ok (.putfield 231, 3) := by decide +kernel
theorem d_TankArena_drive_80 : decode b_TankArena_drive 80 = .ok (.aload_n 0, 1) := by decide +kernel
theorem d_TankArena_drive_81 : decode b_TankArena_drive 81 = .ok (.getfield 11, 3) := by decide +kernel
theorem d_TankArena_drive_84 : decode b_TankArena_drive 84 = .ok (.iload 5, 2) := by decide +kernel
theorem d_TankArena_drive_86 : decode b_TankArena_drive 86 = .ok (.aaload, 1) := by decide +kernel
theorem d_TankArena_drive_87 : decode b_TankArena_drive 87 = .ok (.dup, 1) := by decide +kernel
theorem d_TankArena_drive_88 : decode b_TankArena_drive 88 = .ok (.getfield 231, 3) := by decide +kernel
theorem d_TankArena_drive_91 : decode b_TankArena_drive 91 = .ok (.iconst 4, 1) := by decide +kernel
theorem d_TankArena_drive_92 : decode b_TankArena_drive 92 = .ok (.isub, 1) := by decide +kernel
theorem d_TankArena_drive_93 : decode b_TankArena_drive 93 = .ok (.putfield 231, 3) := by decide +kernel
theorem d_TankArena_drive_96 : decode b_TankArena_drive 96 = .ok (.aload_n 2, 1) := by decide +kernel
theorem d_TankArena_drive_97 : decode b_TankArena_drive 97 = .ok (.getfield 197, 3) := by decide +kernel
theorem d_TankArena_drive_100 : decode b_TankArena_drive 100 = .ok (.getfield 206, 3) := by decide +kernel
theorem d_TankArena_drive_103 : decode b_TankArena_drive 103 = .ok (.ifCond .eq 8, 3) := by decide +kernel
theorem d_TankArena_drive_106 : decode b_TankArena_drive 106 = .ok (.aload_n 2, 1) := by decide +kernel
theorem d_TankArena_drive_107 : decode b_TankArena_drive 107 = .ok (.iconst 0, 1) := by decide +kernel
theorem d_TankArena_drive_108 : decode b_TankArena_drive 108 = .ok (.putfield 287, 3) := by decide +kernel
theorem d_TankArena_drive_111 : decode b_TankArena_drive 111 = .ok (.iload 5, 2) := by decide +kernel
theorem d_TankArena_drive_113 : decode b_TankArena_drive 113 = .ok (.iconst 4, 1) := by decide +kernel
theorem d_TankArena_drive_114 : decode b_TankArena_drive 114 = .ok (.if_icmp .eq 9, 3) := by decide +kernel
theorem d_TankArena_drive_117 : decode b_TankArena_drive 117 = .ok (.aload_n 0, 1) := by decide +kernel
theorem d_TankArena_drive_118 : decode b_TankArena_drive 118 = .ok (.iload 5, 2) := by decide +kernel
theorem d_TankArena_drive_120 : decode b_TankArena_drive 120 = .ok (.invokevirtual 274, 3) := by decide +kernel
theorem d_TankArena_drive_123 : decode b_TankArena_drive 123 = .ok (.aload_n 0, 1) := by decide +kernel
theorem d_TankArena_drive_124 : decode b_TankArena_drive 124 = .ok (.iload_n 1, 1) := by decide +kernel
theorem d_TankArena_drive_125 : decode b_TankArena_drive 125 = .ok (.invokevirtual 274, 3) := by decide +kernel
theorem d_TankArena_drive_128 : decode b_TankArena_drive 128 = .ok (.aload_n 2, 1) := by decide +kernel
theorem d_TankArena_drive_129 : decode b_TankArena_drive 129 = .ok (.invokevirtual 290, 3) := by decide +kernel
theorem d_TankArena_drive_132 : decode b_TankArena_drive 132 = .ok (.return_, 1) := by decide +kernel
theorem d_TankArena_driveTanks_0 : decode b_TankArena_driveTanks 0 = .ok (.iconst 0, 1) := by decide +kernel
theorem d_TankArena_driveTanks_1 : decode b_TankArena_driveTanks 1 = .ok (.istore_n 1, 1) := by decide +kernel
theorem d_TankArena_driveTanks_2 : decode b_TankArena_driveTanks 2 = .ok (.iload_n 1, 1) := by decide +kernel
theorem d_TankArena_driveTanks_3 : decode b_TankArena_driveTanks 3 = .ok (.aload_n 0, 1) := by decide +kernel
theorem d_TankArena_driveTanks_4 : decode b_TankArena_driveTanks 4 = .ok (.getfield 27, 3) := by decide +kernel
theorem d_TankArena_driveTanks_7 : decode b_TankArena_driveTanks 7 = .ok (.if_icmp .ge 26, 3) := by decide +kernel
theorem d_TankArena_driveTanks_10 : decode b_TankArena_driveTanks 10 = .ok (.aload_n 0, 1) := by decide +kernel
theorem d_TankArena_driveTanks_11 : decode b_TankArena_driveTanks 11 = .ok (.getfield 11, 3) := by decide +kernel
theorem d_TankArena_driveTanks_14 : decode b_TankArena_driveTanks 14 = .ok (.iload_n 1, 1) := by decide +kernel
theorem d_TankArena_driveTanks_15 : decode b_TankArena_driveTanks 15 = .ok (.aaload, 1) := by decide +kernel
theorem d_TankArena_driveTanks_16 : decode b_TankArena_driveTanks 16 = .ok (.getfield 125, 3) := by decide +kernel
theorem d_TankArena_driveTanks_19 : decode b_TankArena_driveTanks 19 = .ok (.ifCond .eq 8, 3) := by decide +kernel
theorem d_TankArena_driveTanks_22 : decode b_TankArena_driveTanks 22 = .ok (.aload_n 0, 1) := by decide +kernel
theorem d_TankArena_driveTanks_23 : decode b_TankArena_driveTanks 23 = .ok (.iload_n 1, 1) := by decide +kernel
theorem d_TankArena_driveTanks_24 : decode b_TankArena_driveTanks 24 = .ok (.invokevirtual 277, 3) := by decide +kernel
theorem d_TankArena_driveTanks_27 : decode b_TankArena_driveTanks 27 = .ok (.iinc 1 1, 3) := by decide +kernel
theorem d_TankArena_driveTanks_30 : decode b_TankArena_driveTanks 30 = .ok (.goto (-28), 3) := by decide +kernel
theorem d_TankArena_driveTanks_33 : decode b_TankArena_driveTanks 33 = .ok (.return_, 1) := by decide +kernel
theorem d_TankArena_enter_0 : decode b_TankArena_enter 0 = .ok (.aload_n 0, 1) := by decide +kernel
theorem d_TankArena_enter_1 : decode b_TankArena_enter 1 = .ok (.getfield 23, 3) := by decide +kernel
theorem d_TankArena_enter_4 : decode b_TankArena_enter 4 = .ok (.ifCond .gt 21, 3) := by decide +kernel
theorem d_TankArena_enter_7 : decode b_TankArena_enter 7 = .ok (.aload_n 0, 1) := by decide +kernel
theorem d_TankArena_enter_8 : decode b_TankArena_enter 8 = .ok (.getfield 27, 3) := by decide +kernel
theorem d_TankArena_enter_11 : decode b_TankArena_enter 11 = .ok (.iconst 4, 1) := by decide +kernel
theorem d_TankArena_enter_12 : decode b_TankArena_enter 12 = .ok (.if_icmp .ge 13, 3) := by decide +kernel
theorem d_TankArena_enter_15 : decode b_TankArena_enter 15 = .ok (.iload_n 3, 1) := by decide +kernel
theorem d_TankArena_enter_16 : decode b_TankArena_enter 16 = .ok (.iconst 0, 1) := by decide +kernel
theorem d_TankArena_enter_17 : decode b_TankArena_enter 17 = .ok (.bipush 7, 2) := by decide +kernel
theorem d_TankArena_enter_19 : decode b_TankArena_enter 19 = .ok (.invokestatic 30, 3) := by decide +kernel
theorem d_TankArena_enter_22 : decode b_TankArena_enter 22 = .ok (.ifCond .ne 6, 3) := by decide +kernel
theorem d_TankArena_enter_25 : decode b_TankArena_enter 25 = .ok (.ldc 34, 2) := by decide +kernel
theorem d_TankArena_enter_27 : decode b_TankArena_enter 27 = .ok (.ireturn, 1) := by decide +kernel
theorem d_TankArena_enter_28 : decode b_TankArena_enter 28 = .ok (.iload_n 1, 1) := by decide +kernel
theorem d_TankArena_enter_29 : decode b_TankArena_enter 29 = .ok (.iconst 2, 1) := by decide +kernel
theorem d_TankArena_enter_30 : decode b_TankArena_enter 30 = .ok (.bipush 62, 2) := by decide +kernel
theorem d_TankArena_enter_32 : decode b_TankArena_enter 32 = .ok (.invokestatic 30, 3) := by decide +kernel
theorem d_TankArena_enter_35 : decode b_TankArena_enter 35 = .ok (.ifCond .eq 13, 3) := by decide +kernel
theorem d_TankArena_enter_38 : decode b_TankArena_enter 38 = .ok (.iload_n 2, 1) := by decide +kernel
theorem d_TankArena_enter_39 : decode b_TankArena_enter 39 = .ok (.iconst 2, 1) := by decide +kernel
theorem d_TankArena_enter_40 : decode b_TankArena_enter 40 = .ok (.bipush 62, 2) := by decide +kernel
theorem d_TankArena_enter_42 : decode b_TankArena_enter 42 = .ok (.invokestatic 30, 3) := by decide +kernel
theorem d_TankArena_enter_45 : decode b_TankArena_enter 45 = .ok (.ifCond .ne 6, 3) := by decide +kernel
theorem d_TankArena_enter_48 : decode b_TankArena_enter 48 = .ok (.ldc 34, 2) := by decide +kernel
theorem d_TankArena_enter_50 : decode b_TankArena_enter 50 = .ok (.ireturn, 1) := by decide +kernel
theorem d_TankArena_enter_51 : decode b_TankArena_enter 51 = .ok (.aload_n 0, 1) := by decide +kernel
theorem d_TankArena_enter_52 : decode b_TankArena_enter 52 = .ok (.aload_n 0, 1) := by decide +kernel
theorem d_TankArena_enter_53 : decode b_TankArena_enter 53 = .ok (.getfield 27, 3) := by decide +kernel
theorem d_TankArena_enter_56 : decode b_TankArena_enter 56 = .ok (.iload_n 1, 1) := by decide +kernel
theorem d_TankArena_enter_57 : decode b_TankArena_enter 57 = .ok (.bipush 8, 2) := by decide +kernel
theorem d_TankArena_enter_59 : decode b_TankArena_enter 59 = .ok (.imul, 1) := by decide +kernel
theorem d_TankArena_enter_60 : decode b_TankArena_enter 60 = .ok (.iload_n 2, 1) := by decide +kernel
theorem d_TankArena_enter_61 : decode b_TankArena_enter 61 = .ok (.bipush 8, 2) := by decide +kernel
theorem d_TankArena_enter_63 : decode b_TankArena_enter 63 = .ok (.imul, 1) := by decide +kernel
theorem d_TankArena_enter_64 : decode b_TankArena_enter 64 = .ok (.invokevirtual 35, 3) := by decide +kernel
theorem d_TankArena_enter_67 : decode b_TankArena_enter 67 = .ok (.iconst 4, 1) := by decide +kernel
theorem d_TankArena_enter_68 : decode b_TankArena_enter 68 = .ok (.if_icmp .eq 6, 3) := by decide +kernel
theorem d_TankArena_enter_71 : decode b_TankArena_enter 71 = .ok (.ldc 34, 2) := by decide +kernel
theorem d_TankArena_enter_73 : decode b_TankArena_enter 73 = .ok (.ireturn, 1) := by decide +kernel
theorem d_TankArena_enter_74 : decode b_TankArena_enter 74 = .ok (.aload_n 0, 1) := by decide +kernel
theorem d_TankArena_enter_75 : decode b_TankArena_enter 75 = .ok (.getfield 11, 3) := by decide +kernel
theorem d_TankArena_enter_78 : decode b_TankArena_enter 78 = .ok (.aload_n 0, 1) := by decide +kernel
theorem d_TankArena_enter_79 : decode b_TankArena_enter 79 = .ok (.getfield 27, 3) := by decide +kernel
theorem d_TankArena_enter_82 : decode b_TankArena_enter 82 = .ok (.aaload, 1) := by decide +kernel
theorem d_TankArena_enter_83 : decode b_TankArena_enter 83 = .ok (.iload_n 1, 1) := by decide +kernel
theorem d_TankArena_enter_84 : decode b_TankArena_enter 84 = .ok (.bipush 8, 2) := by decide +kernel
theorem d_TankArena_enter_86 : decode b_TankArena_enter 86 = .ok (.imul, 1) := by decide +kernel
theorem d_TankArena_enter_87 : decode b_TankArena_enter 87 = .ok (.iload_n 2, 1) := by decide +kernel
theorem d_TankArena_enter_88 : decode b_TankArena_enter 88 = .ok (.bipush 8, 2) := by decide +kernel
theorem d_TankArena_enter_90 : decode b_TankArena_enter 90 = .ok (.imul, 1) := by decide +kernel
theorem d_TankArena_enter_91 : decode b_TankArena_enter 91 = .ok (.iload_n 3, 1) := by decide +kernel
theorem d_TankArena_enter_92 : decode b_TankArena_enter 92 = .ok (.invokevirtual 39, 3) := by decide +kernel
theorem d_TankArena_enter_95 : decode b_TankArena_enter 95 = .ok (.aload_n 0, 1) := by decide +kernel
theorem d_TankArena_enter_96 : decode b_TankArena_enter 96 = .ok (.dup, 1) := by decide +kernel
theorem d_TankArena_enter_97 : decode b_TankArena_enter 97 = .ok (.getfield 27, 3) := by decide +kernel
theorem d_TankArena_enter_100 : decode b_TankArena_enter 100 = .ok (.iconst 1, 1) := by decide +kernel
theorem d_TankArena_enter_101 : decode b_TankArena_enter 101 = .ok (.iadd, 1) := by decide +kernel
theorem d_TankArena_enter_102 : decode b_TankArena_enter 102 = .ok (.putfield 27, 3) := by decide +kernel
theorem d_TankArena_enter_105 : decode b_TankArena_enter 105 = .ok (.aload_n 0, 1) := by decide +kernel
theorem d_TankArena_enter_106 : decode b_TankArena_enter 106 = .ok (.getfield 27, 3) := by decide +kernel
theorem d_TankArena_enter_109 : decode b_TankArena_enter 109 = .ok (.iconst 1, 1) := by decide +kernel
theorem d_TankArena_enter_110 : decode b_TankArena_enter 110 = .ok (.isub, 1) := by decide +kernel
theorem d_TankArena_enter_111 : decode b_TankArena_enter 111 = .ok (.ireturn, 1) := by decide +kernel
theorem d_TankArena_fire_0 : decode b_TankArena_fire 0 = .ok (.aload_n 0, 1) := by decide +kernel
theorem d_TankArena_fire_1 : decode b_TankArena_fire 1 = .ok (.getfield 11, 3) := by decide +kernel
theorem d_TankArena_fire_4 : decode b_TankArena_fire 4 = .ok (.iload_n 1, 1) := by decide +kernel
theorem d_TankArena_fire_5 : decode b_TankArena_fire 5 = .ok (.aaload, 1) := by decide +kernel
theorem d_TankArena_fire_6 : decode b_TankArena_fire 6 = .ok (.astore_n 2, 1) := by decide +kernel
theorem d_TankArena_fire_7 : decode b_TankArena_fire 7 = .ok (.aload_n 2, 1) := by decide +kernel
theorem d_TankArena_fire_8 : decode b_TankArena_fire 8 = .ok (.getfield 129, 3) := by decide +kernel
theorem d_TankArena_fire_11 : decode b_TankArena_fire 11 = .ok (.getfield 191, 3) := by decide +kernel
theorem d_TankArena_fire_14 : decode b_TankArena_fire 14 = .ok (.istore_n 3, 1) := by decide +kernel
theorem d_TankArena_fire_15 : decode b_TankArena_fire 15 = .ok (.aload_n 2, 1) := by decide +kernel
theorem d_TankArena_fire_16 : decode b_TankArena_fire 16 = .ok (.dup, 1) := by decide +kernel
theorem d_TankArena_fire_17 : decode b_TankArena_fire 17 = .ok (.getfield 231, 3) := by decide +kernel
theorem d_TankArena_fire_20 : decode b_TankArena_fire 20 = .ok (.iload_n 3, 1) := by decide +kernel
theorem d_TankArena_fire_21 : decode b_TankArena_fire 21 = .ok (.bipush 8, 2) := by decide +kernel
theorem d_TankArena_fire_23 : decode b_TankArena_fire 23 = .ok (.imul, 1) := by decide +kernel
theorem d_TankArena_fire_24 : decode b_TankArena_fire 24 = .ok (.isub, 1) := by decide +kernel
theorem d_TankArena_fire_25 : decode b_TankArena_fire 25 = .ok (.putfield 231, 3) := by decide +kernel
theorem d_TankArena_fire_28 : decode b_TankArena_fire 28 = .ok (.aload_n 2, 1) := by decide +kernel
theorem d_TankArena_fire_29 : decode b_TankArena_fire 29 = .ok (.bipush 8, 2) := by decide +kernel
theorem d_TankArena_fire_31 : decode b_TankArena_fire 31 = .ok (.iload_n 3, 1) := by decide +kernel
theorem d_TankArena_fire_32 : decode b_TankArena_fire 32 = .ok (.iconst 2, 1) := by decide +kernel
theorem d_TankArena_fire_33 : decode b_TankArena_fire 33 = .ok (.imul, 1) := by decide +kernel
theorem d_TankArena_fire_34 : decode b_TankArena_fire 34 = .ok (.iadd, 1) := by decide +kernel
theorem d_TankArena_fire_35 : decode b_TankArena_fire 35 = .ok (.putfield 234, 3) := by decide +kernel
theorem d_TankArena_fire_38 : decode b_TankArena_fire 38 = .ok (.aload_n 0, 1) := by decide +kernel
theorem d_TankArena_fire_39 : decode b_TankArena_fire 39 = .ok (.getfield 18, 3) := by decide +kernel
theorem d_TankArena_fire_42 : decode b_TankArena_fire 42 = .ok (.aload_n 0, 1) := by decide +kernel
theorem d_TankArena_fire_43 : decode b_TankArena_fire 43 = .ok (.getfield 91, 3) := by decide +kernel
theorem d_TankArena_fire_46 : decode b_TankArena_fire 46 = .ok (.aaload, 1) := by decide +kernel
theorem d_TankArena_fire_47 : decode b_TankArena_fire 47 = .ok (.aload_n 2, 1) := by decide +kernel
theorem d_TankArena_fire_48 : decode b_TankArena_fire 48 = .ok (.iload_n 1, 1) := by decide +kernel
theorem d_TankArena_fire_49 : decode b_TankArena_fire 49 = .ok (.invokevirtual 237, 3) := by decide +kernel
theorem d_TankArena_fire_52 : decode b_TankArena_fire 52 = .ok (.aload_n 0, 1) := by decide +kernel
theorem d_TankArena_fire_53 : decode b_TankArena_fire 53 = .ok (.dup, 1) := by decide +kernel
theorem d_TankArena_fire_54 : decode b_TankArena_fire 54 = .ok (.getfield 91, 3) := by decide +kernel
theorem d_TankArena_fire_57 : decode b_TankArena_fire 57 = .ok (.iconst 1, 1) := by decide +kernel
theorem d_TankArena_fire_58 : decode b_TankArena_fire 58 = .ok (.iadd, 1) := by decide +kernel
theorem d_TankArena_fire_59 : decode b_TankArena_fire 59 = .ok (.putfield 91, 3) := by decide +kernel
theorem d_TankArena_fire_62 : decode b_TankArena_fire 62 = .ok (.aload_n 0, 1) := by decide +kernel
theorem d_TankArena_fire_63 : decode b_TankArena_fire 63 = .ok (.dup, 1) := by decide +kernel
theorem d_TankArena_fire_64 : decode b_TankArena_fire 64 = .ok (.getfield 94, 3) := by decide +kernel
theorem d_TankArena_fire_67 : decode b_TankArena_fire 67 = .ok (.iconst 1, 1) := by decide +kernel
theorem d_TankArena_fire_68 : decode b_TankArena_fire 68 = .ok (.iadd, 1) := by decide +kernel
theorem d_TankArena_fire_69 : decode b_TankArena_fire 69 = .ok (.putfield 94, 3) := by decide +kernel
theorem d_TankArena_fire_72 : decode b_TankArena_fire 72 = .ok (.return_, 1) := by decide +kernel
theorem d_TankArena_fireGuns_0 : decode b_TankArena_fireGuns 0 = .ok (.iconst 0, 1) := by decide +kernel
theorem d_TankArena_fireGuns_1 : decode b_TankArena_fireGuns 1 = .ok (.istore_n 1, 1) := by decide +kernel
theorem d_TankArena_fireGuns_2 : decode b_TankArena_fireGuns 2 = .ok (.iload_n 1, 1) := by decide +kernel
theorem d_TankArena_fireGuns_3 : decode b_TankArena_fireGuns 3 = .ok (.aload_n 0, 1) := by decide +kernel
theorem d_TankArena_fireGuns_4 : decode b_TankArena_fireGuns 4 = .ok (.getfield 27, 3) := by decide +kernel
theorem d_TankArena_fireGuns_7 : decode b_TankArena_fireGuns 7 = .ok (.if_icmp .ge 47, 3) := by decide +kernel
theorem d_TankArena_fireGuns_10 : decode b_TankArena_fireGuns 10 = .ok (.aload_n 0, 1) := by decide +kernel
theorem d_TankArena_fireGuns_11 : decode b_TankArena_fireGuns 11 = .ok (.getfield 11, 3) := by decide +kernel
theorem d_TankArena_fireGuns_14 : decode b_TankArena_fireGuns 14 = .ok (.iload_n 1, 1) := by decide +kernel
theorem d_TankArena_fireGuns_15 : decode b_TankArena_fireGuns 15 = .ok (.aaload, 1) := by decide +kernel
theorem d_TankArena_fireGuns_16 : decode b_TankArena_fireGuns 16 = .ok (.getfield 125, 3) := by decide +kernel
theorem d_TankArena_fireGuns_19 : decode b_TankArena_fireGuns 19 = .ok (.ifCond .eq 29, 3) := by decide +kernel
theorem d_TankArena_fireGuns_22 : decode b_TankArena_fireGuns 22 = .ok (.aload_n 0, 1) := by decide +kernel
theorem d_TankArena_fireGuns_23 : decode b_TankArena_fireGuns 23 = .ok (.getfield 11, 3) := by decide +kernel
theorem d_TankArena_fireGuns_26 : decode b_TankArena_fireGuns 26 = .ok (.iload_n 1, 1) := by decide +kernel
theorem d_TankArena_fireGuns_27 : decode b_TankArena_fireGuns 27 = .ok (.aaload, 1) := by decide +kernel
theorem d_TankArena_fireGuns_28 : decode b_TankArena_fireGuns 28 = .ok (.invokevirtual 224, 3) := by decide +kernel
theorem d_TankArena_fireGuns_31 : decode b_TankArena_fireGuns 31 = .ok (.ifCond .eq 17, 3) := by decide +kernel
theorem d_TankArena_fireGuns_34 : decode b_TankArena_fireGuns 34 = .ok (.aload_n 0, 1) := by decide +kernel
theorem d_TankArena_fireGuns_35 : decode b_TankArena_fireGuns 35 = .ok (.getfield 91, 3) := by decide +kernel
theorem d_TankArena_fireGuns_38 : decode b_TankArena_fireGuns 38 = .ok (.bipush 16, 2) := by decide +kernel
theorem d_TankArena_fireGuns_40 : decode b_TankArena_fireGuns 40 = .ok (.if_icmp .ge 8, 3) := by decide +kernel
theorem d_TankArena_fireGuns_43 : decode b_TankArena_fireGuns 43 = .ok (.aload_n 0, 1) := by decide +kernel
theorem d_TankArena_fireGuns_44 : decode b_TankArena_fireGuns 44 = .ok (.iload_n 1, 1) := by decide +kernel
theorem d_TankArena_fireGuns_45 : decode b_TankArena_fireGuns 45 = .ok (.invokevirtual 227, 3) := by decide +kernel
theorem d_TankArena_fireGuns_48 : decode b_TankArena_fireGuns 48 = .ok (.iinc 1 1, 3) := by decide +kernel
theorem d_TankArena_fireGuns_51 : decode b_TankArena_fireGuns 51 = .ok (.goto (-49), 3) := by decide +kernel
theorem d_TankArena_fireGuns_54 : decode b_TankArena_fireGuns 54 = .ok (.return_, 1) := by decide +kernel
theorem d_TankArena_flyBullets_0 : decode b_TankArena_flyBullets 0 = .ok (.iconst 0, 1) := by decide +kernel
theorem d_TankArena_flyBullets_1 : decode b_TankArena_flyBullets 1 = .ok (.istore_n 1, 1) := by decide +kernel
theorem d_TankArena_flyBullets_2 : decode b_TankArena_flyBullets 2 = .ok (.iconst 0, 1) := by decide +kernel
theorem d_TankArena_flyBullets_3 : decode b_TankArena_flyBullets 3 = .ok (.istore_n 2, 1) := by decide +kernel
theorem d_TankArena_flyBullets_4 : decode b_TankArena_flyBullets 4 = .ok (.iload_n 2, 1) := by decide +kernel
theorem d_TankArena_flyBullets_5 : decode b_TankArena_flyBullets 5 = .ok (.aload_n 0, 1) := by decide +kernel
theorem d_TankArena_flyBullets_6 : decode b_TankArena_flyBullets 6 = .ok (.getfield 91, 3) := by decide +kernel
theorem d_TankArena_flyBullets_9 : decode b_TankArena_flyBullets 9 = .ok (.if_icmp .ge 46, 3) := by decide +kernel
theorem d_TankArena_flyBullets_12 : decode b_TankArena_flyBullets 12 = .ok (.aload_n 0, 1) := by decide +kernel
theorem d_TankArena_flyBullets_13 : decode b_TankArena_flyBullets 13 = .ok (.getfield 18, 3) := by decide +kernel
theorem d_TankArena_flyBullets_16 : decode b_TankArena_flyBullets 16 = .ok (.iload_n 2, 1) := by decide +kernel
theorem d_TankArena_flyBullets_17 : decode b_TankArena_flyBullets 17 = .ok (.aaload, 1) := by decide +kernel
theorem d_TankArena_flyBullets_18 : decode b_TankArena_flyBullets 18 = .ok (.astore_n 3, 1) := by decide +kernel
theorem d_TankArena_flyBullets_19 : decode b_TankArena_flyBullets 19 = .ok (.aload_n 0, 1) := by decide +kernel
theorem d_TankArena_flyBullets_20 : decode b_TankArena_flyBullets 20 = .ok (.aload_n 3, 1) := by decide +kernel
theorem d_TankArena_flyBullets_21 : decode b_TankArena_flyBullets 21 = .ok (.invokevirtual 241, 3) := by decide +kernel
theorem d_TankArena_flyBullets_24 : decode b_TankArena_flyBullets 24 = .ok (.ifCond .eq 25, 3) := by decide +kernel
theorem d_TankArena_flyBullets_27 : decode b_TankArena_flyBullets 27 = .ok (.aload_n 0, 1) := by decide +kernel
theorem d_TankArena_flyBullets_28 : decode b_TankArena_flyBullets 28 = .ok (.getfield 18, 3) := by decide +kernel
theorem d_TankArena_flyBullets_31 : decode b_TankArena_flyBullets 31 = .ok (.iload_n 2, 1) := by decide +kernel
theorem d_TankArena_flyBullets_32 : decode b_TankArena_flyBullets 32 = .ok (.aload_n 0, 1) := by decide +kernel
theorem d_TankArena_flyBullets_33 : decode b_TankArena_flyBullets 33 = .ok (.getfield 18, 3) := by decide +kernel
theorem d_TankArena_flyBullets_36 : decode b_TankArena_flyBullets 36 = .ok (.iload_n 1, 1) := by decide +kernel
theorem d_TankArena_flyBullets_37 : decode b_TankArena_flyBullets 37 = .ok (.aaload, 1) := by decide +kernel
theorem d_TankArena_flyBullets_38 : decode b_TankArena_flyBullets 38 = .ok (.aastore, 1) := by decide +kernel
theorem d_TankArena_flyBullets_39 : decode b_TankArena_flyBullets 39 = .ok (.aload_n 0, 1) := by decide +kernel
theorem d_TankArena_flyBullets_40 : decode b_TankArena_flyBullets 40 = .ok (.getfield 18, 3) := by decide +kernel
theorem d_TankArena_flyBullets_43 : decode b_TankArena_flyBullets 43 = .ok (.iload_n 1, 1) := by decide +kernel
theorem d_TankArena_flyBullets_44 : decode b_TankArena_flyBullets 44 = .ok (.aload_n 3, 1) := by decide +kernel
theorem d_TankArena_flyBullets_45 : decode b_TankArena_flyBullets 45 = .ok (.aastore, 1) := by decide +kernel
theorem d_TankArena_flyBullets_46 : decode b_TankArena_flyBullets 46 = .ok (.iinc 1 1, 3) := by decide +kernel
theorem d_TankArena_flyBullets_49 : decode b_TankArena_flyBullets 49 = .ok (.iinc 2 1, 3) := by decide +kernel
theorem d_TankArena_flyBullets_52 : decode b_TankArena_flyBullets 52 = .ok (.goto (-48), 3) := by decide +kernel
theorem d_TankArena_flyBullets_55 : decode b_TankArena_flyBullets 55 = .ok (.aload_n 0, 1) := by decide +kernel
theorem d_TankArena_flyBullets_56 : decode b_TankArena_flyBullets 56 = .ok (.iload_n 1, 1) := by decide +kernel
theorem d_TankArena_flyBullets_57 : decode b_TankArena_flyBullets 57 = .ok (.putfield 91, 3) := by decide +kernel
theorem d_TankArena_flyBullets_60 : decode b_TankArena_flyBullets 60 = .ok (.return_, 1) := by decide +kernel
theorem d_TankArena_forgetLastTurn_0 : decode b_TankArena_forgetLastTurn 0 = .ok (.iconst 0, 1) := by decide +kernel
theorem d_TankArena_forgetLastTurn_1 : decode b_TankArena_forgetLastTurn 1 = .ok (.istore_n 1, 1) := by decide +kernel
