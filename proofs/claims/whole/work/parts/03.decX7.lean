theorem dX7_init_0 : decode cX7_init 0 = .ok (.aload_n 0, 1) := by decide +kernel
theorem dX7_init_1 : decode cX7_init 1 = .ok (.invokespecial 1, 3) := by decide +kernel
theorem dX7_init_4 : decode cX7_init 4 = .ok (.aload_n 0, 1) := by decide +kernel
theorem dX7_init_5 : decode cX7_init 5 = .ok (.sipush 182, 3) := by decide +kernel
theorem dX7_init_8 : decode cX7_init 8 = .ok (.newarray .int, 2) := by decide +kernel
theorem dX7_init_10 : decode cX7_init 10 = .ok (.putfield 7, 3) := by decide +kernel
theorem dX7_init_13 : decode cX7_init 13 = .ok (.aload_n 0, 1) := by decide +kernel
theorem dX7_init_14 : decode cX7_init 14 = .ok (.sipush 182, 3) := by decide +kernel
theorem dX7_init_17 : decode cX7_init 17 = .ok (.newarray .int, 2) := by decide +kernel
theorem dX7_init_19 : decode cX7_init 19 = .ok (.putfield 13, 3) := by decide +kernel
theorem dX7_init_22 : decode cX7_init 22 = .ok (.aload_n 0, 1) := by decide +kernel
theorem dX7_init_23 : decode cX7_init 23 = .ok (.sipush 182, 3) := by decide +kernel
theorem dX7_init_26 : decode cX7_init 26 = .ok (.newarray .int, 2) := by decide +kernel
theorem dX7_init_28 : decode cX7_init 28 = .ok (.putfield 16, 3) := by decide +kernel
theorem dX7_init_31 : decode cX7_init 31 = .ok (.aload_n 0, 1) := by decide +kernel
theorem dX7_init_32 : decode cX7_init 32 = .ok (.sipush 182, 3) := by decide +kernel
theorem dX7_init_35 : decode cX7_init 35 = .ok (.newarray .int, 2) := by decide +kernel
theorem dX7_init_37 : decode cX7_init 37 = .ok (.putfield 19, 3) := by decide +kernel
theorem dX7_init_40 : decode cX7_init 40 = .ok (.aload_n 0, 1) := by decide +kernel
theorem dX7_init_41 : decode cX7_init 41 = .ok (.sipush 1456, 3) := by decide +kernel
theorem dX7_init_44 : decode cX7_init 44 = .ok (.newarray .int, 2) := by decide +kernel
theorem dX7_init_46 : decode cX7_init 46 = .ok (.putfield 22, 3) := by decide +kernel
theorem dX7_init_49 : decode cX7_init 49 = .ok (.aload_n 0, 1) := by decide +kernel
theorem dX7_init_50 : decode cX7_init 50 = .ok (.bipush 60, 2) := by decide +kernel
theorem dX7_init_52 : decode cX7_init 52 = .ok (.newarray .int, 2) := by decide +kernel
theorem dX7_init_54 : decode cX7_init 54 = .ok (.putfield 25, 3) := by decide +kernel
theorem dX7_init_57 : decode cX7_init 57 = .ok (.aload_n 0, 1) := by decide +kernel
theorem dX7_init_58 : decode cX7_init 58 = .ok (.bipush 120, 2) := by decide +kernel
theorem dX7_init_60 : decode cX7_init 60 = .ok (.newarray .int, 2) := by decide +kernel
theorem dX7_init_62 : decode cX7_init 62 = .ok (.putfield 28, 3) := by decide +kernel
theorem dX7_init_65 : decode cX7_init 65 = .ok (.return_, 1) := by decide +kernel
theorem dX7_fail_0 : decode cX7_fail 0 = .ok (.aload_n 0, 1) := by decide +kernel
theorem dX7_fail_1 : decode cX7_fail 1 = .ok (.iload_n 1, 1) := by decide +kernel
theorem dX7_fail_2 : decode cX7_fail 2 = .ok (.putfield 31, 3) := by decide +kernel
theorem dX7_fail_5 : decode cX7_fail 5 = .ok (.iload_n 1, 1) := by decide +kernel
theorem dX7_fail_6 : decode cX7_fail 6 = .ok (.ireturn, 1) := by decide +kernel
theorem dX7_refuses_0 : decode cX7_refuses 0 = .ok (.aload_n 0, 1) := by decide +kernel
theorem dX7_refuses_1 : decode cX7_refuses 1 = .ok (.iload_n 1, 1) := by decide +kernel
theorem dX7_refuses_2 : decode cX7_refuses 2 = .ok (.putfield 35, 3) := by decide +kernel
theorem dX7_refuses_5 : decode cX7_refuses 5 = .ok (.aload_n 0, 1) := by decide +kernel
theorem dX7_refuses_6 : decode cX7_refuses 6 = .ok (.iload_n 2, 1) := by decide +kernel
theorem dX7_refuses_7 : decode cX7_refuses 7 = .ok (.putfield 38, 3) := by decide +kernel
theorem dX7_refuses_10 : decode cX7_refuses 10 = .ok (.aload_n 0, 1) := by decide +kernel
theorem dX7_refuses_11 : decode cX7_refuses 11 = .ok (.sipush (-1014), 3) := by decide +kernel
theorem dX7_refuses_14 : decode cX7_refuses 14 = .ok (.invokevirtual 41, 3) := by decide +kernel
theorem dX7_refuses_17 : decode cX7_refuses 17 = .ok (.ireturn, 1) := by decide +kernel
theorem dX7_isIn_0 : decode cX7_isIn 0 = .ok (.iload_n 0, 1) := by decide +kernel
theorem dX7_isIn_1 : decode cX7_isIn 1 = .ok (.iload_n 1, 1) := by decide +kernel
theorem dX7_isIn_2 : decode cX7_isIn 2 = .ok (.if_icmp .lt 12, 3) := by decide +kernel
theorem dX7_isIn_5 : decode cX7_isIn 5 = .ok (.iload_n 0, 1) := by decide +kernel
theorem dX7_isIn_6 : decode cX7_isIn 6 = .ok (.iload_n 2, 1) := by decide +kernel
theorem dX7_isIn_7 : decode cX7_isIn 7 = .ok (.if_icmp .gt 7, 3) := by decide +kernel
theorem dX7_isIn_10 : decode cX7_isIn 10 = .ok (.iconst 1, 1) := by decide +kernel
theorem dX7_isIn_11 : decode cX7_isIn 11 = .ok (.goto 4, 3) := by decide +kernel
theorem dX7_isIn_14 : decode cX7_isIn 14 = .ok (.iconst 0, 1) := by decide +kernel
theorem dX7_isIn_15 : decode cX7_isIn 15 = .ok (.ireturn, 1) := by decide +kernel
theorem dX7_lays_0 : decode cX7_lays 0 = .ok (.iconst 0, 1) := by decide +kernel
theorem dX7_lays_1 : decode cX7_lays 1 = .ok (.istore_n 2, 1) := by decide +kernel
theorem dX7_lays_2 : decode cX7_lays 2 = .ok (.iload_n 2, 1) := by decide +kernel
theorem dX7_lays_3 : decode cX7_lays 3 = .ok (.sipush 182, 3) := by decide +kernel
theorem dX7_lays_6 : decode cX7_lays 6 = .ok (.if_icmp .ge 15, 3) := by decide +kernel
theorem dX7_lays_9 : decode cX7_lays 9 = .ok (.aload_n 0, 1) := by decide +kernel
theorem dX7_lays_10 : decode cX7_lays 10 = .ok (.iload_n 2, 1) := by decide +kernel
theorem dX7_lays_11 : decode cX7_lays 11 = .ok (.aload_n 1, 1) := by decide +kernel
theorem dX7_lays_12 : decode cX7_lays 12 = .ok (.iload_n 2, 1) := by decide +kernel
theorem dX7_lays_13 : decode cX7_lays 13 = .ok (.iaload, 1) := by decide +kernel
theorem dX7_lays_14 : decode cX7_lays 14 = .ok (.iastore, 1) := by decide +kernel
theorem dX7_lays_15 : decode cX7_lays 15 = .ok (.iinc 2 1, 3) := by decide +kernel
theorem dX7_lays_18 : decode cX7_lays 18 = .ok (.goto (-16), 3) := by decide +kernel
theorem dX7_lays_21 : decode cX7_lays 21 = .ok (.return_, 1) := by decide +kernel
theorem dX7_begins_0 : decode cX7_begins 0 = .ok (.aload_n 0, 1) := by decide +kernel
theorem dX7_begins_1 : decode cX7_begins 1 = .ok (.iconst 0, 1) := by decide +kernel
theorem dX7_begins_2 : decode cX7_begins 2 = .ok (.putfield 31, 3) := by decide +kernel
theorem dX7_begins_5 : decode cX7_begins 5 = .ok (.aload_n 0, 1) := by decide +kernel
theorem dX7_begins_6 : decode cX7_begins 6 = .ok (.getfield 13, 3) := by decide +kernel
theorem dX7_begins_9 : decode cX7_begins 9 = .ok (.aload_n 0, 1) := by decide +kernel
theorem dX7_begins_10 : decode cX7_begins 10 = .ok (.getfield 7, 3) := by decide +kernel
theorem dX7_begins_13 : decode cX7_begins 13 = .ok (.invokestatic 45, 3) := by decide +kernel
theorem dX7_begins_16 : decode cX7_begins 16 = .ok (.return_, 1) := by decide +kernel
theorem dX7_closes_0 : decode cX7_closes 0 = .ok (.aload_n 0, 1) := by decide +kernel
theorem dX7_closes_1 : decode cX7_closes 1 = .ok (.getfield 31, 3) := by decide +kernel
theorem dX7_closes_4 : decode cX7_closes 4 = .ok (.ifCond .eq 19, 3) := by decide +kernel
theorem dX7_closes_7 : decode cX7_closes 7 = .ok (.aload_n 0, 1) := by decide +kernel
theorem dX7_closes_8 : decode cX7_closes 8 = .ok (.getfield 7, 3) := by decide +kernel
theorem dX7_closes_11 : decode cX7_closes 11 = .ok (.aload_n 0, 1) := by decide +kernel
theorem dX7_closes_12 : decode cX7_closes 12 = .ok (.getfield 13, 3) := by decide +kernel
theorem dX7_closes_15 : decode cX7_closes 15 = .ok (.invokestatic 45, 3) := by decide +kernel
theorem dX7_closes_18 : decode cX7_closes 18 = .ok (.aload_n 0, 1) := by decide +kernel
theorem dX7_closes_19 : decode cX7_closes 19 = .ok (.getfield 31, 3) := by decide +kernel
theorem dX7_closes_22 : decode cX7_closes 22 = .ok (.ireturn, 1) := by decide +kernel
theorem dX7_closes_23 : decode cX7_closes 23 = .ok (.aload_n 0, 1) := by decide +kernel
theorem dX7_closes_24 : decode cX7_closes 24 = .ok (.getfield 49, 3) := by decide +kernel
theorem dX7_closes_27 : decode cX7_closes 27 = .ok (.bipush 8, 2) := by decide +kernel
theorem dX7_closes_29 : decode cX7_closes 29 = .ok (.if_icmp .ne 44, 3) := by decide +kernel
theorem dX7_closes_32 : decode cX7_closes 32 = .ok (.iconst 0, 1) := by decide +kernel
theorem dX7_closes_33 : decode cX7_closes 33 = .ok (.istore_n 2, 1) := by decide +kernel
theorem dX7_closes_34 : decode cX7_closes 34 = .ok (.iload_n 2, 1) := by decide +kernel
theorem dX7_closes_35 : decode cX7_closes 35 = .ok (.sipush 1274, 3) := by decide +kernel
theorem dX7_closes_38 : decode cX7_closes 38 = .ok (.if_icmp .ge 25, 3) := by decide +kernel
theorem dX7_closes_41 : decode cX7_closes 41 = .ok (.aload_n 0, 1) := by decide +kernel
theorem dX7_closes_42 : decode cX7_closes 42 = .ok (.getfield 22, 3) := by decide +kernel
theorem dX7_closes_45 : decode cX7_closes 45 = .ok (.iload_n 2, 1) := by decide +kernel
theorem dX7_closes_46 : decode cX7_closes 46 = .ok (.aload_n 0, 1) := by decide +kernel
theorem dX7_closes_47 : decode cX7_closes 47 = .ok (.getfield 22, 3) := by decide +kernel
theorem dX7_closes_50 : decode cX7_closes 50 = .ok (.iload_n 2, 1) := by decide +kernel
theorem dX7_closes_51 : decode cX7_closes 51 = .ok (.sipush 182, 3) := by decide +kernel
theorem dX7_closes_54 : decode cX7_closes 54 = .ok (.iadd, 1) := by decide +kernel
theorem dX7_closes_55 : decode cX7_closes 55 = .ok (.iaload, 1) := by decide +kernel
theorem dX7_closes_56 : decode cX7_closes 56 = .ok (.iastore, 1) := by decide +kernel
theorem dX7_closes_57 : decode cX7_closes 57 = .ok (.iinc 2 1, 3) := by decide +kernel
theorem dX7_closes_60 : decode cX7_closes 60 = .ok (.goto (-26), 3) := by decide +kernel
theorem dX7_closes_63 : decode cX7_closes 63 = .ok (.aload_n 0, 1) := by decide +kernel
theorem dX7_closes_64 : decode cX7_closes 64 = .ok (.dup, 1) := by decide +kernel
theorem dX7_closes_65 : decode cX7_closes 65 = .ok (.getfield 49, 3) := by decide +kernel
theorem dX7_closes_68 : decode cX7_closes 68 = .ok (.iconst 1, 1) := by decide +kernel
theorem dX7_closes_69 : decode cX7_closes 69 = .ok (.isub, 1) := by decide +kernel
theorem dX7_closes_70 : decode cX7_closes 70 = .ok (.putfield 49, 3) := by decide +kernel
theorem dX7_closes_73 : decode cX7_closes 73 = .ok (.iconst 0, 1) := by decide +kernel
theorem dX7_closes_74 : decode cX7_closes 74 = .ok (.istore_n 2, 1) := by decide +kernel
theorem dX7_closes_75 : decode cX7_closes 75 = .ok (.iload_n 2, 1) := by decide +kernel
theorem dX7_closes_76 : decode cX7_closes 76 = .ok (.sipush 182, 3) := by decide +kernel
theorem dX7_closes_79 : decode cX7_closes 79 = .ok (.if_icmp .ge 30, 3) := by decide +kernel
theorem dX7_closes_82 : decode cX7_closes 82 = .ok (.aload_n 0, 1) := by decide +kernel
theorem dX7_closes_83 : decode cX7_closes 83 = .ok (.getfield 22, 3) := by decide +kernel
theorem dX7_closes_86 : decode cX7_closes 86 = .ok (.aload_n 0, 1) := by decide +kernel
theorem dX7_closes_87 : decode cX7_closes 87 = .ok (.getfield 49, 3) := by decide +kernel
theorem dX7_closes_90 : decode cX7_closes 90 = .ok (.sipush 182, 3) := by decide +kernel
theorem dX7_closes_93 : decode cX7_closes 93 = .ok (.imul, 1) := by decide +kernel
theorem dX7_closes_94 : decode cX7_closes 94 = .ok (.iload_n 2, 1) := by decide +kernel
theorem dX7_closes_95 : decode cX7_closes 95 = .ok (.iadd, 1) := by decide +kernel
theorem dX7_closes_96 : decode cX7_closes 96 = .ok (.aload_n 0, 1) := by decide +kernel
theorem dX7_closes_97 : decode cX7_closes 97 = .ok (.getfield 13, 3) := by decide +kernel
theorem dX7_closes_100 : decode cX7_closes 100 = .ok (.iload_n 2, 1) := by decide +kernel
theorem dX7_closes_101 : decode cX7_closes 101 = .ok (.iaload, 1) := by decide +kernel
theorem dX7_closes_102 : decode cX7_closes 102 = .ok (.iastore, 1) := by decide +kernel
theorem dX7_closes_103 : decode cX7_closes 103 = .ok (.iinc 2 1, 3) := by decide +kernel
theorem dX7_closes_106 : decode cX7_closes 106 = .ok (.goto (-31), 3) := by decide +kernel
theorem dX7_closes_109 : decode cX7_closes 109 = .ok (.aload_n 0, 1) := by decide +kernel
theorem dX7_closes_110 : decode cX7_closes 110 = .ok (.dup, 1) := by decide +kernel
theorem dX7_closes_111 : decode cX7_closes 111 = .ok (.getfield 49, 3) := by decide +kernel
theorem dX7_closes_114 : decode cX7_closes 114 = .ok (.iconst 1, 1) := by decide +kernel
theorem dX7_closes_115 : decode cX7_closes 115 = .ok (.iadd, 1) := by decide +kernel
theorem dX7_closes_116 : decode cX7_closes 116 = .ok (.putfield 49, 3) := by decide +kernel
theorem dX7_closes_119 : decode cX7_closes 119 = .ok (.iload_n 1, 1) := by decide +kernel
theorem dX7_closes_120 : decode cX7_closes 120 = .ok (.ireturn, 1) := by decide +kernel
theorem dX7_at_0 : decode cX7_at 0 = .ok (.bipush 10, 2) := by decide +kernel
theorem dX7_at_2 : decode cX7_at 2 = .ok (.bipush 6, 2) := by decide +kernel
theorem dX7_at_4 : decode cX7_at 4 = .ok (.iload_n 0, 1) := by decide +kernel
theorem dX7_at_5 : decode cX7_at 5 = .ok (.imul, 1) := by decide +kernel
theorem dX7_at_6 : decode cX7_at 6 = .ok (.iadd, 1) := by decide +kernel
theorem dX7_at_7 : decode cX7_at 7 = .ok (.iload_n 1, 1) := by decide +kernel
theorem dX7_at_8 : decode cX7_at 8 = .ok (.iadd, 1) := by decide +kernel
theorem dX7_at_9 : decode cX7_at 9 = .ok (.ireturn, 1) := by decide +kernel
theorem dX7_in_0 : decode cX7_in 0 = .ok (.bipush 46, 2) := by decide +kernel
theorem dX7_in_2 : decode cX7_in 2 = .ok (.iconst 3, 1) := by decide +kernel
theorem dX7_in_3 : decode cX7_in 3 = .ok (.iload_n 0, 1) := by decide +kernel
theorem dX7_in_4 : decode cX7_in 4 = .ok (.imul, 1) := by decide +kernel
theorem dX7_in_5 : decode cX7_in 5 = .ok (.iadd, 1) := by decide +kernel
theorem dX7_in_6 : decode cX7_in 6 = .ok (.iload_n 1, 1) := by decide +kernel
theorem dX7_in_7 : decode cX7_in 7 = .ok (.iadd, 1) := by decide +kernel
theorem dX7_in_8 : decode cX7_in 8 = .ok (.ireturn, 1) := by decide +kernel
theorem dX7_of_0 : decode cX7_of 0 = .ok (.bipush 82, 2) := by decide +kernel
theorem dX7_of_2 : decode cX7_of 2 = .ok (.iconst 3, 1) := by decide +kernel
theorem dX7_of_3 : decode cX7_of 3 = .ok (.iload_n 0, 1) := by decide +kernel
theorem dX7_of_4 : decode cX7_of 4 = .ok (.imul, 1) := by decide +kernel
theorem dX7_of_5 : decode cX7_of 5 = .ok (.iadd, 1) := by decide +kernel
theorem dX7_of_6 : decode cX7_of 6 = .ok (.iload_n 1, 1) := by decide +kernel
theorem dX7_of_7 : decode cX7_of 7 = .ok (.iadd, 1) := by decide +kernel
theorem dX7_of_8 : decode cX7_of 8 = .ok (.ireturn, 1) := by decide +kernel
theorem dX7_booked_0 : decode cX7_booked 0 = .ok (.aload_n 0, 1) := by decide +kernel
theorem dX7_booked_1 : decode cX7_booked 1 = .ok (.getfield 7, 3) := by decide +kernel
theorem dX7_booked_4 : decode cX7_booked 4 = .ok (.sipush 142, 3) := by decide +kernel
theorem dX7_booked_7 : decode cX7_booked 7 = .ok (.iconst 4, 1) := by decide +kernel
theorem dX7_booked_8 : decode cX7_booked 8 = .ok (.iload_n 1, 1) := by decide +kernel
theorem dX7_booked_9 : decode cX7_booked 9 = .ok (.imul, 1) := by decide +kernel
theorem dX7_booked_10 : decode cX7_booked 10 = .ok (.iadd, 1) := by decide +kernel
theorem dX7_booked_11 : decode cX7_booked 11 = .ok (.iload_n 2, 1) := by decide +kernel
theorem dX7_booked_12 : decode cX7_booked 12 = .ok (.iadd, 1) := by decide +kernel
theorem dX7_booked_13 : decode cX7_booked 13 = .ok (.iaload, 1) := by decide +kernel
theorem dX7_booked_14 : decode cX7_booked 14 = .ok (.ireturn, 1) := by decide +kernel
theorem dX7_isFool_0 : decode cX7_isFool 0 = .ok (.iload_n 1, 1) := by decide +kernel
theorem dX7_isFool_1 : decode cX7_isFool 1 = .ok (.iconst 0, 1) := by decide +kernel
theorem dX7_isFool_2 : decode cX7_isFool 2 = .ok (.aload_n 0, 1) := by decide +kernel
theorem dX7_isFool_3 : decode cX7_isFool 3 = .ok (.getfield 7, 3) := by decide +kernel
theorem dX7_isFool_6 : decode cX7_isFool 6 = .ok (.iconst 0, 1) := by decide +kernel
theorem dX7_isFool_7 : decode cX7_isFool 7 = .ok (.iaload, 1) := by decide +kernel
theorem dX7_isFool_8 : decode cX7_isFool 8 = .ok (.iconst 1, 1) := by decide +kernel
theorem dX7_isFool_9 : decode cX7_isFool 9 = .ok (.isub, 1) := by decide +kernel
theorem dX7_isFool_10 : decode cX7_isFool 10 = .ok (.invokestatic 52, 3) := by decide +kernel
theorem dX7_isFool_13 : decode cX7_isFool 13 = .ok (.ireturn, 1) := by decide +kernel
theorem dX7_isJoke_0 : decode cX7_isJoke 0 = .ok (.iload_n 1, 1) := by decide +kernel
theorem dX7_isJoke_1 : decode cX7_isJoke 1 = .ok (.iconst 0, 1) := by decide +kernel
theorem dX7_isJoke_2 : decode cX7_isJoke 2 = .ok (.aload_n 0, 1) := by decide +kernel
theorem dX7_isJoke_3 : decode cX7_isJoke 3 = .ok (.getfield 7, 3) := by decide +kernel
theorem dX7_isJoke_6 : decode cX7_isJoke 6 = .ok (.iconst 1, 1) := by decide +kernel
theorem dX7_isJoke_7 : decode cX7_isJoke 7 = .ok (.iaload, 1) := by decide +kernel
theorem dX7_isJoke_8 : decode cX7_isJoke 8 = .ok (.iconst 1, 1) := by decide +kernel
theorem dX7_isJoke_9 : decode cX7_isJoke 9 = .ok (.isub, 1) := by decide +kernel
theorem dX7_isJoke_10 : decode cX7_isJoke 10 = .ok (.invokestatic 52, 3) := by decide +kernel
theorem dX7_isJoke_13 : decode cX7_isJoke 13 = .ok (.ireturn, 1) := by decide +kernel
theorem dX7_isThrone_0 : decode cX7_isThrone 0 = .ok (.iload_n 0, 1) := by decide +kernel
theorem dX7_isThrone_1 : decode cX7_isThrone 1 = .ok (.iconst 0, 1) := by decide +kernel
theorem dX7_isThrone_2 : decode cX7_isThrone 2 = .ok (.iconst 3, 1) := by decide +kernel
theorem dX7_isThrone_3 : decode cX7_isThrone 3 = .ok (.invokestatic 52, 3) := by decide +kernel
theorem dX7_isThrone_6 : decode cX7_isThrone 6 = .ok (.ireturn, 1) := by decide +kernel
theorem dX7_owner_0 : decode cX7_owner 0 = .ok (.aload_n 0, 1) := by decide +kernel
theorem dX7_owner_1 : decode cX7_owner 1 = .ok (.getfield 7, 3) := by decide +kernel
theorem dX7_owner_4 : decode cX7_owner 4 = .ok (.iload_n 1, 1) := by decide +kernel
theorem dX7_owner_5 : decode cX7_owner 5 = .ok (.iconst 2, 1) := by decide +kernel
theorem dX7_owner_6 : decode cX7_owner 6 = .ok (.invokestatic 56, 3) := by decide +kernel
theorem dX7_owner_9 : decode cX7_owner 9 = .ok (.iaload, 1) := by decide +kernel
theorem dX7_owner_10 : decode cX7_owner 10 = .ok (.aload_n 0, 1) := by decide +kernel
theorem dX7_owner_11 : decode cX7_owner 11 = .ok (.getfield 7, 3) := by decide +kernel
theorem dX7_owner_14 : decode cX7_owner 14 = .ok (.iconst 3, 1) := by decide +kernel
theorem dX7_owner_15 : decode cX7_owner 15 = .ok (.iaload, 1) := by decide +kernel
theorem dX7_owner_16 : decode cX7_owner 16 = .ok (.if_icmp .le 16, 3) := by decide +kernel
theorem dX7_owner_19 : decode cX7_owner 19 = .ok (.aload_n 0, 1) := by decide +kernel
theorem dX7_owner_20 : decode cX7_owner 20 = .ok (.getfield 7, 3) := by decide +kernel
theorem dX7_owner_23 : decode cX7_owner 23 = .ok (.iload_n 1, 1) := by decide +kernel
theorem dX7_owner_24 : decode cX7_owner 24 = .ok (.iconst 1, 1) := by decide +kernel
theorem dX7_owner_25 : decode cX7_owner 25 = .ok (.invokestatic 56, 3) := by decide +kernel
theorem dX7_owner_28 : decode cX7_owner 28 = .ok (.iaload, 1) := by decide +kernel
theorem dX7_owner_29 : decode cX7_owner 29 = .ok (.goto 4, 3) := by decide +kernel
theorem dX7_owner_32 : decode cX7_owner 32 = .ok (.iconst (-1), 1) := by decide +kernel
theorem dX7_owner_33 : decode cX7_owner 33 = .ok (.ireturn, 1) := by decide +kernel
theorem dX7_isBarred_0 : decode cX7_isBarred 0 = .ok (.aload_n 0, 1) := by decide +kernel
theorem dX7_isBarred_1 : decode cX7_isBarred 1 = .ok (.iload_n 2, 1) := by decide +kernel
theorem dX7_isBarred_2 : decode cX7_isBarred 2 = .ok (.invokevirtual 60, 3) := by decide +kernel
theorem dX7_isBarred_5 : decode cX7_isBarred 5 = .ok (.istore_n 3, 1) := by decide +kernel
theorem dX7_isBarred_6 : decode cX7_isBarred 6 = .ok (.iload_n 3, 1) := by decide +kernel
theorem dX7_isBarred_7 : decode cX7_isBarred 7 = .ok (.ifCond .lt 12, 3) := by decide +kernel
theorem dX7_isBarred_10 : decode cX7_isBarred 10 = .ok (.iload_n 3, 1) := by decide +kernel
theorem dX7_isBarred_11 : decode cX7_isBarred 11 = .ok (.iload_n 1, 1) := by decide +kernel
theorem dX7_isBarred_12 : decode cX7_isBarred 12 = .ok (.if_icmp .eq 7, 3) := by decide +kernel
theorem dX7_isBarred_15 : decode cX7_isBarred 15 = .ok (.iconst 1, 1) := by decide +kernel
theorem dX7_isBarred_16 : decode cX7_isBarred 16 = .ok (.goto 4, 3) := by decide +kernel
theorem dX7_isBarred_19 : decode cX7_isBarred 19 = .ok (.iconst 0, 1) := by decide +kernel
theorem dX7_isBarred_20 : decode cX7_isBarred 20 = .ok (.ireturn, 1) := by decide +kernel
theorem dX7_earns_0 : decode cX7_earns 0 = .ok (.aload_n 0, 1) := by decide +kernel
theorem dX7_earns_1 : decode cX7_earns 1 = .ok (.getfield 7, 3) := by decide +kernel
theorem dX7_earns_4 : decode cX7_earns 4 = .ok (.iload_n 1, 1) := by decide +kernel
theorem dX7_earns_5 : decode cX7_earns 5 = .ok (.iconst 1, 1) := by decide +kernel
theorem dX7_earns_6 : decode cX7_earns 6 = .ok (.invokestatic 63, 3) := by decide +kernel
theorem dX7_earns_9 : decode cX7_earns 9 = .ok (.dup2, 1) := by decide +kernel
theorem dX7_earns_10 : decode cX7_earns 10 = .ok (.iaload, 1) := by decide +kernel
theorem dX7_earns_11 : decode cX7_earns 11 = .ok (.iload_n 2, 1) := by decide +kernel
theorem dX7_earns_12 : decode cX7_earns 12 = .ok (.iadd, 1) := by decide +kernel
theorem dX7_earns_13 : decode cX7_earns 13 = .ok (.iastore, 1) := by decide +kernel
theorem dX7_earns_14 : decode cX7_earns 14 = .ok (.aload_n 0, 1) := by decide +kernel
theorem dX7_earns_15 : decode cX7_earns 15 = .ok (.getfield 7, 3) := by decide +kernel
theorem dX7_earns_18 : decode cX7_earns 18 = .ok (.iload_n 1, 1) := by decide +kernel
theorem dX7_earns_19 : decode cX7_earns 19 = .ok (.iconst 1, 1) := by decide +kernel
theorem dX7_earns_20 : decode cX7_earns 20 = .ok (.invokestatic 63, 3) := by decide +kernel
theorem dX7_earns_23 : decode cX7_earns 23 = .ok (.iaload, 1) := by decide +kernel
theorem dX7_earns_24 : decode cX7_earns 24 = .ok (.bipush 99, 2) := by decide +kernel
theorem dX7_earns_26 : decode cX7_earns 26 = .ok (.isub, 1) := by decide +kernel
theorem dX7_earns_27 : decode cX7_earns 27 = .ok (.istore_n 3, 1) := by decide +kernel
theorem dX7_earns_28 : decode cX7_earns 28 = .ok (.iload_n 3, 1) := by decide +kernel
theorem dX7_earns_29 : decode cX7_earns 29 = .ok (.ifCond .gt 4, 3) := by decide +kernel
theorem dX7_earns_32 : decode cX7_earns 32 = .ok (.return_, 1) := by decide +kernel
theorem dX7_earns_33 : decode cX7_earns 33 = .ok (.aload_n 0, 1) := by decide +kernel
theorem dX7_earns_34 : decode cX7_earns 34 = .ok (.getfield 7, 3) := by decide +kernel
theorem dX7_earns_37 : decode cX7_earns 37 = .ok (.iload_n 1, 1) := by decide +kernel
theorem dX7_earns_38 : decode cX7_earns 38 = .ok (.iconst 1, 1) := by decide +kernel
theorem dX7_earns_39 : decode cX7_earns 39 = .ok (.invokestatic 63, 3) := by decide +kernel
theorem dX7_earns_42 : decode cX7_earns 42 = .ok (.bipush 99, 2) := by decide +kernel
theorem dX7_earns_44 : decode cX7_earns 44 = .ok (.iastore, 1) := by decide +kernel
theorem dX7_earns_45 : decode cX7_earns 45 = .ok (.aload_n 0, 1) := by decide +kernel
theorem dX7_earns_46 : decode cX7_earns 46 = .ok (.getfield 7, 3) := by decide +kernel
theorem dX7_earns_49 : decode cX7_earns 49 = .ok (.bipush 6, 2) := by decide +kernel
theorem dX7_earns_51 : decode cX7_earns 51 = .ok (.dup2, 1) := by decide +kernel
theorem dX7_earns_52 : decode cX7_earns 52 = .ok (.iaload, 1) := by decide +kernel
theorem dX7_earns_53 : decode cX7_earns 53 = .ok (.iload_n 3, 1) := by decide +kernel
theorem dX7_earns_54 : decode cX7_earns 54 = .ok (.iadd, 1) := by decide +kernel
theorem dX7_earns_55 : decode cX7_earns 55 = .ok (.iastore, 1) := by decide +kernel
theorem dX7_earns_56 : decode cX7_earns 56 = .ok (.return_, 1) := by decide +kernel
theorem dX7_pays_0 : decode cX7_pays 0 = .ok (.aload_n 0, 1) := by decide +kernel
theorem dX7_pays_1 : decode cX7_pays 1 = .ok (.getfield 7, 3) := by decide +kernel
theorem dX7_pays_4 : decode cX7_pays 4 = .ok (.iload_n 1, 1) := by decide +kernel
theorem dX7_pays_5 : decode cX7_pays 5 = .ok (.iconst 1, 1) := by decide +kernel
theorem dX7_pays_6 : decode cX7_pays 6 = .ok (.invokestatic 63, 3) := by decide +kernel
theorem dX7_pays_9 : decode cX7_pays 9 = .ok (.iaload, 1) := by decide +kernel
theorem dX7_pays_10 : decode cX7_pays 10 = .ok (.iload_n 2, 1) := by decide +kernel
theorem dX7_pays_11 : decode cX7_pays 11 = .ok (.if_icmp .ge 16, 3) := by decide +kernel
theorem dX7_pays_14 : decode cX7_pays 14 = .ok (.aload_n 0, 1) := by decide +kernel
theorem dX7_pays_15 : decode cX7_pays 15 = .ok (.getfield 7, 3) := by decide +kernel
theorem dX7_pays_18 : decode cX7_pays 18 = .ok (.iload_n 1, 1) := by decide +kernel
theorem dX7_pays_19 : decode cX7_pays 19 = .ok (.iconst 1, 1) := by decide +kernel
theorem dX7_pays_20 : decode cX7_pays 20 = .ok (.invokestatic 63, 3) := by decide +kernel
theorem dX7_pays_23 : decode cX7_pays 23 = .ok (.iaload, 1) := by decide +kernel
theorem dX7_pays_24 : decode cX7_pays 24 = .ok (.goto 4, 3) := by decide +kernel
theorem dX7_pays_27 : decode cX7_pays 27 = .ok (.iload_n 2, 1) := by decide +kernel
theorem dX7_pays_28 : decode cX7_pays 28 = .ok (.istore_n 3, 1) := by decide +kernel
theorem dX7_pays_29 : decode cX7_pays 29 = .ok (.aload_n 0, 1) := by decide +kernel
theorem dX7_pays_30 : decode cX7_pays 30 = .ok (.getfield 7, 3) := by decide +kernel
theorem dX7_pays_33 : decode cX7_pays 33 = .ok (.iload_n 1, 1) := by decide +kernel
theorem dX7_pays_34 : decode cX7_pays 34 = .ok (.iconst 1, 1) := by decide +kernel
theorem dX7_pays_35 : decode cX7_pays 35 = .ok (.invokestatic 63, 3) := by decide +kernel
theorem dX7_pays_38 : decode cX7_pays 38 = .ok (.dup2, 1) := by decide +kernel
theorem dX7_pays_39 : decode cX7_pays 39 = .ok (.iaload, 1) := by decide +kernel
theorem dX7_pays_40 : decode cX7_pays 40 = .ok (.iload_n 3, 1) := by decide +kernel
theorem dX7_pays_41 : decode cX7_pays 41 = .ok (.isub, 1) := by decide +kernel
theorem dX7_pays_42 : decode cX7_pays 42 = .ok (.iastore, 1) := by decide +kernel
theorem dX7_pays_43 : decode cX7_pays 43 = .ok (.iload_n 3, 1) := by decide +kernel
theorem dX7_pays_44 : decode cX7_pays 44 = .ok (.ireturn, 1) := by decide +kernel
theorem dX7_comes_0 : decode cX7_comes 0 = .ok (.iload_n 1, 1) := by decide +kernel
theorem dX7_comes_1 : decode cX7_comes 1 = .ok (.iconst 1, 1) := by decide +kernel
theorem dX7_comes_2 : decode cX7_comes 2 = .ok (.bipush 9, 2) := by decide +kernel
theorem dX7_comes_4 : decode cX7_comes 4 = .ok (.invokestatic 52, 3) := by decide +kernel
theorem dX7_comes_7 : decode cX7_comes 7 = .ok (.ifCond .ne 11, 3) := by decide +kernel
theorem dX7_comes_10 : decode cX7_comes 10 = .ok (.aload_n 0, 1) := by decide +kernel
theorem dX7_comes_11 : decode cX7_comes 11 = .ok (.sipush (-1012), 3) := by decide +kernel
theorem dX7_comes_14 : decode cX7_comes 14 = .ok (.invokevirtual 41, 3) := by decide +kernel
theorem dX7_comes_17 : decode cX7_comes 17 = .ok (.ireturn, 1) := by decide +kernel
theorem dX7_comes_18 : decode cX7_comes 18 = .ok (.aload_n 0, 1) := by decide +kernel
theorem dX7_comes_19 : decode cX7_comes 19 = .ok (.getfield 7, 3) := by decide +kernel
theorem dX7_comes_22 : decode cX7_comes 22 = .ok (.iconst 0, 1) := by decide +kernel
theorem dX7_comes_23 : decode cX7_comes 23 = .ok (.iaload, 1) := by decide +kernel
theorem dX7_comes_24 : decode cX7_comes 24 = .ok (.istore_n 2, 1) := by decide +kernel
theorem dX7_comes_25 : decode cX7_comes 25 = .ok (.iload_n 2, 1) := by decide +kernel
theorem dX7_comes_26 : decode cX7_comes 26 = .ok (.bipush 6, 2) := by decide +kernel
theorem dX7_comes_28 : decode cX7_comes 28 = .ok (.if_icmp .ne 11, 3) := by decide +kernel
theorem dX7_comes_31 : decode cX7_comes 31 = .ok (.aload_n 0, 1) := by decide +kernel
theorem dX7_comes_32 : decode cX7_comes 32 = .ok (.iconst 1, 1) := by decide +kernel
theorem dX7_comes_33 : decode cX7_comes 33 = .ok (.bipush 6, 2) := by decide +kernel
theorem dX7_comes_35 : decode cX7_comes 35 = .ok (.invokevirtual 66, 3) := by decide +kernel
theorem dX7_comes_38 : decode cX7_comes 38 = .ok (.ireturn, 1) := by decide +kernel
theorem dX7_comes_39 : decode cX7_comes 39 = .ok (.aload_n 0, 1) := by decide +kernel
theorem dX7_comes_40 : decode cX7_comes 40 = .ok (.getfield 7, 3) := by decide +kernel
theorem dX7_comes_43 : decode cX7_comes 43 = .ok (.iload_n 2, 1) := by decide +kernel
theorem dX7_comes_44 : decode cX7_comes 44 = .ok (.iconst 0, 1) := by decide +kernel
theorem dX7_comes_45 : decode cX7_comes 45 = .ok (.invokestatic 63, 3) := by decide +kernel
theorem dX7_comes_48 : decode cX7_comes 48 = .ok (.iload_n 1, 1) := by decide +kernel
theorem dX7_comes_49 : decode cX7_comes 49 = .ok (.iastore, 1) := by decide +kernel
theorem dX7_comes_50 : decode cX7_comes 50 = .ok (.aload_n 0, 1) := by decide +kernel
theorem dX7_comes_51 : decode cX7_comes 51 = .ok (.getfield 7, 3) := by decide +kernel
theorem dX7_comes_54 : decode cX7_comes 54 = .ok (.iload_n 2, 1) := by decide +kernel
theorem dX7_comes_55 : decode cX7_comes 55 = .ok (.iconst 1, 1) := by decide +kernel
theorem dX7_comes_56 : decode cX7_comes 56 = .ok (.invokestatic 63, 3) := by decide +kernel
theorem dX7_comes_59 : decode cX7_comes 59 = .ok (.bipush 10, 2) := by decide +kernel
theorem dX7_comes_61 : decode cX7_comes 61 = .ok (.iastore, 1) := by decide +kernel
theorem dX7_comes_62 : decode cX7_comes 62 = .ok (.aload_n 0, 1) := by decide +kernel
theorem dX7_comes_63 : decode cX7_comes 63 = .ok (.getfield 7, 3) := by decide +kernel
theorem dX7_comes_66 : decode cX7_comes 66 = .ok (.iconst 0, 1) := by decide +kernel
theorem dX7_comes_67 : decode cX7_comes 67 = .ok (.dup2, 1) := by decide +kernel
theorem dX7_comes_68 : decode cX7_comes 68 = .ok (.iaload, 1) := by decide +kernel
theorem dX7_comes_69 : decode cX7_comes 69 = .ok (.iconst 1, 1) := by decide +kernel
theorem dX7_comes_70 : decode cX7_comes 70 = .ok (.iadd, 1) := by decide +kernel
theorem dX7_comes_71 : decode cX7_comes 71 = .ok (.iastore, 1) := by decide +kernel
theorem dX7_comes_72 : decode cX7_comes 72 = .ok (.iload_n 2, 1) := by decide +kernel
theorem dX7_comes_73 : decode cX7_comes 73 = .ok (.ireturn, 1) := by decide +kernel
theorem dX7_fool_0 : decode cX7_fool 0 = .ok (.aload_n 0, 1) := by decide +kernel
theorem dX7_fool_1 : decode cX7_fool 1 = .ok (.invokevirtual 69, 3) := by decide +kernel
theorem dX7_fool_4 : decode cX7_fool 4 = .ok (.aload_n 0, 1) := by decide +kernel
theorem dX7_fool_5 : decode cX7_fool 5 = .ok (.aload_n 0, 1) := by decide +kernel
theorem dX7_fool_6 : decode cX7_fool 6 = .ok (.iload_n 1, 1) := by decide +kernel
theorem dX7_fool_7 : decode cX7_fool 7 = .ok (.invokevirtual 72, 3) := by decide +kernel
theorem dX7_fool_10 : decode cX7_fool 10 = .ok (.invokevirtual 75, 3) := by decide +kernel
theorem dX7_fool_13 : decode cX7_fool 13 = .ok (.ireturn, 1) := by decide +kernel
theorem dX7_jokes_0 : decode cX7_jokes 0 = .ok (.iload_n 1, 1) := by decide +kernel
theorem dX7_jokes_1 : decode cX7_jokes 1 = .ok (.iconst 1, 1) := by decide +kernel
theorem dX7_jokes_2 : decode cX7_jokes 2 = .ok (.bipush 9, 2) := by decide +kernel
theorem dX7_jokes_4 : decode cX7_jokes 4 = .ok (.invokestatic 52, 3) := by decide +kernel
theorem dX7_jokes_7 : decode cX7_jokes 7 = .ok (.ifCond .ne 11, 3) := by decide +kernel
theorem dX7_jokes_10 : decode cX7_jokes 10 = .ok (.aload_n 0, 1) := by decide +kernel
theorem dX7_jokes_11 : decode cX7_jokes 11 = .ok (.sipush (-1012), 3) := by decide +kernel
theorem dX7_jokes_14 : decode cX7_jokes 14 = .ok (.invokevirtual 41, 3) := by decide +kernel
theorem dX7_jokes_17 : decode cX7_jokes 17 = .ok (.ireturn, 1) := by decide +kernel
theorem dX7_jokes_18 : decode cX7_jokes 18 = .ok (.aload_n 0, 1) := by decide +kernel
theorem dX7_jokes_19 : decode cX7_jokes 19 = .ok (.getfield 7, 3) := by decide +kernel
theorem dX7_jokes_22 : decode cX7_jokes 22 = .ok (.iconst 1, 1) := by decide +kernel
theorem dX7_jokes_23 : decode cX7_jokes 23 = .ok (.iaload, 1) := by decide +kernel
theorem dX7_jokes_24 : decode cX7_jokes 24 = .ok (.istore_n 2, 1) := by decide +kernel
theorem dX7_jokes_25 : decode cX7_jokes 25 = .ok (.iload_n 2, 1) := by decide +kernel
theorem dX7_jokes_26 : decode cX7_jokes 26 = .ok (.bipush 12, 2) := by decide +kernel
theorem dX7_jokes_28 : decode cX7_jokes 28 = .ok (.if_icmp .ne 11, 3) := by decide +kernel
theorem dX7_jokes_31 : decode cX7_jokes 31 = .ok (.aload_n 0, 1) := by decide +kernel
theorem dX7_jokes_32 : decode cX7_jokes 32 = .ok (.iconst 1, 1) := by decide +kernel
theorem dX7_jokes_33 : decode cX7_jokes 33 = .ok (.bipush 12, 2) := by decide +kernel
theorem dX7_jokes_35 : decode cX7_jokes 35 = .ok (.invokevirtual 66, 3) := by decide +kernel
theorem dX7_jokes_38 : decode cX7_jokes 38 = .ok (.ireturn, 1) := by decide +kernel
theorem dX7_jokes_39 : decode cX7_jokes 39 = .ok (.aload_n 0, 1) := by decide +kernel
theorem dX7_jokes_40 : decode cX7_jokes 40 = .ok (.getfield 7, 3) := by decide +kernel
theorem dX7_jokes_43 : decode cX7_jokes 43 = .ok (.iload_n 2, 1) := by decide +kernel
theorem dX7_jokes_44 : decode cX7_jokes 44 = .ok (.iconst 0, 1) := by decide +kernel
theorem dX7_jokes_45 : decode cX7_jokes 45 = .ok (.invokestatic 56, 3) := by decide +kernel
theorem dX7_jokes_48 : decode cX7_jokes 48 = .ok (.iload_n 1, 1) := by decide +kernel
theorem dX7_jokes_49 : decode cX7_jokes 49 = .ok (.iastore, 1) := by decide +kernel
theorem dX7_jokes_50 : decode cX7_jokes 50 = .ok (.aload_n 0, 1) := by decide +kernel
theorem dX7_jokes_51 : decode cX7_jokes 51 = .ok (.getfield 7, 3) := by decide +kernel
theorem dX7_jokes_54 : decode cX7_jokes 54 = .ok (.iconst 1, 1) := by decide +kernel
theorem dX7_jokes_55 : decode cX7_jokes 55 = .ok (.dup2, 1) := by decide +kernel
theorem dX7_jokes_56 : decode cX7_jokes 56 = .ok (.iaload, 1) := by decide +kernel
theorem dX7_jokes_57 : decode cX7_jokes 57 = .ok (.iconst 1, 1) := by decide +kernel
theorem dX7_jokes_58 : decode cX7_jokes 58 = .ok (.iadd, 1) := by decide +kernel
theorem dX7_jokes_59 : decode cX7_jokes 59 = .ok (.iastore, 1) := by decide +kernel
theorem dX7_jokes_60 : decode cX7_jokes 60 = .ok (.iload_n 2, 1) := by decide +kernel
theorem dX7_jokes_61 : decode cX7_jokes 61 = .ok (.ireturn, 1) := by decide +kernel
theorem dX7_joke_0 : decode cX7_joke 0 = .ok (.aload_n 0, 1) := by decide +kernel
theorem dX7_joke_1 : decode cX7_joke 1 = .ok (.invokevirtual 69, 3) := by decide +kernel
theorem dX7_joke_4 : decode cX7_joke 4 = .ok (.aload_n 0, 1) := by decide +kernel
theorem dX7_joke_5 : decode cX7_joke 5 = .ok (.aload_n 0, 1) := by decide +kernel
theorem dX7_joke_6 : decode cX7_joke 6 = .ok (.iload_n 1, 1) := by decide +kernel
theorem dX7_joke_7 : decode cX7_joke 7 = .ok (.invokevirtual 78, 3) := by decide +kernel
theorem dX7_joke_10 : decode cX7_joke 10 = .ok (.invokevirtual 75, 3) := by decide +kernel
theorem dX7_joke_13 : decode cX7_joke 13 = .ok (.ireturn, 1) := by decide +kernel
theorem dX7_patents_0 : decode cX7_patents 0 = .ok (.aload_n 0, 1) := by decide +kernel
theorem dX7_patents_1 : decode cX7_patents 1 = .ok (.iload_n 1, 1) := by decide +kernel
theorem dX7_patents_2 : decode cX7_patents 2 = .ok (.invokevirtual 81, 3) := by decide +kernel
theorem dX7_patents_5 : decode cX7_patents 5 = .ok (.ifCond .eq 11, 3) := by decide +kernel
theorem dX7_patents_8 : decode cX7_patents 8 = .ok (.aload_n 0, 1) := by decide +kernel
theorem dX7_patents_9 : decode cX7_patents 9 = .ok (.iload_n 2, 1) := by decide +kernel
theorem dX7_patents_10 : decode cX7_patents 10 = .ok (.invokevirtual 85, 3) := by decide +kernel
theorem dX7_patents_13 : decode cX7_patents 13 = .ok (.ifCond .ne 11, 3) := by decide +kernel
theorem dX7_patents_16 : decode cX7_patents 16 = .ok (.aload_n 0, 1) := by decide +kernel
theorem dX7_patents_17 : decode cX7_patents 17 = .ok (.sipush (-1011), 3) := by decide +kernel
theorem dX7_patents_20 : decode cX7_patents 20 = .ok (.invokevirtual 41, 3) := by decide +kernel
theorem dX7_patents_23 : decode cX7_patents 23 = .ok (.ireturn, 1) := by decide +kernel
theorem dX7_patents_24 : decode cX7_patents 24 = .ok (.iload_n 3, 1) := by decide +kernel
theorem dX7_patents_25 : decode cX7_patents 25 = .ok (.iconst 1, 1) := by decide +kernel
theorem dX7_patents_26 : decode cX7_patents 26 = .ok (.bipush 48, 2) := by decide +kernel
theorem dX7_patents_28 : decode cX7_patents 28 = .ok (.invokestatic 52, 3) := by decide +kernel
theorem dX7_patents_31 : decode cX7_patents 31 = .ok (.ifCond .ne 11, 3) := by decide +kernel
theorem dX7_patents_34 : decode cX7_patents 34 = .ok (.aload_n 0, 1) := by decide +kernel
theorem dX7_patents_35 : decode cX7_patents 35 = .ok (.sipush (-1012), 3) := by decide +kernel
theorem dX7_patents_38 : decode cX7_patents 38 = .ok (.invokevirtual 41, 3) := by decide +kernel
theorem dX7_patents_41 : decode cX7_patents 41 = .ok (.ireturn, 1) := by decide +kernel
theorem dX7_patents_42 : decode cX7_patents 42 = .ok (.iload_n 3, 1) := by decide +kernel
theorem dX7_patents_43 : decode cX7_patents 43 = .ok (.iconst 1, 1) := by decide +kernel
theorem dX7_patents_44 : decode cX7_patents 44 = .ok (.iadd, 1) := by decide +kernel
theorem dX7_patents_45 : decode cX7_patents 45 = .ok (.iconst 2, 1) := by decide +kernel
theorem dX7_patents_46 : decode cX7_patents 46 = .ok (.idiv, 1) := by decide +kernel
theorem dX7_patents_47 : decode cX7_patents 47 = .ok (.istore 4, 2) := by decide +kernel
theorem dX7_patents_49 : decode cX7_patents 49 = .ok (.aload_n 0, 1) := by decide +kernel
theorem dX7_patents_50 : decode cX7_patents 50 = .ok (.iload_n 2, 1) := by decide +kernel
theorem dX7_patents_51 : decode cX7_patents 51 = .ok (.invokevirtual 60, 3) := by decide +kernel
theorem dX7_patents_54 : decode cX7_patents 54 = .ok (.ifCond .lt 15, 3) := by decide +kernel
theorem dX7_patents_57 : decode cX7_patents 57 = .ok (.aload_n 0, 1) := by decide +kernel
theorem dX7_patents_58 : decode cX7_patents 58 = .ok (.bipush 6, 2) := by decide +kernel
theorem dX7_patents_60 : decode cX7_patents 60 = .ok (.aload_n 0, 1) := by decide +kernel
theorem dX7_patents_61 : decode cX7_patents 61 = .ok (.iload_n 2, 1) := by decide +kernel
theorem dX7_patents_62 : decode cX7_patents 62 = .ok (.invokevirtual 60, 3) := by decide +kernel
theorem dX7_patents_65 : decode cX7_patents 65 = .ok (.invokevirtual 66, 3) := by decide +kernel
theorem dX7_patents_68 : decode cX7_patents 68 = .ok (.ireturn, 1) := by decide +kernel
theorem dX7_patents_69 : decode cX7_patents 69 = .ok (.aload_n 0, 1) := by decide +kernel
theorem dX7_patents_70 : decode cX7_patents 70 = .ok (.getfield 7, 3) := by decide +kernel
theorem dX7_patents_73 : decode cX7_patents 73 = .ok (.iload_n 1, 1) := by decide +kernel
theorem dX7_patents_74 : decode cX7_patents 74 = .ok (.iconst 1, 1) := by decide +kernel
theorem dX7_patents_75 : decode cX7_patents 75 = .ok (.invokestatic 63, 3) := by decide +kernel
theorem dX7_patents_78 : decode cX7_patents 78 = .ok (.iaload, 1) := by decide +kernel
theorem dX7_patents_79 : decode cX7_patents 79 = .ok (.iload 4, 2) := by decide +kernel
theorem dX7_patents_81 : decode cX7_patents 81 = .ok (.if_icmp .ge 20, 3) := by decide +kernel
theorem dX7_patents_84 : decode cX7_patents 84 = .ok (.aload_n 0, 1) := by decide +kernel
theorem dX7_patents_85 : decode cX7_patents 85 = .ok (.bipush 7, 2) := by decide +kernel
theorem dX7_patents_87 : decode cX7_patents 87 = .ok (.aload_n 0, 1) := by decide +kernel
theorem dX7_patents_88 : decode cX7_patents 88 = .ok (.getfield 7, 3) := by decide +kernel
theorem dX7_patents_91 : decode cX7_patents 91 = .ok (.iload_n 1, 1) := by decide +kernel
theorem dX7_patents_92 : decode cX7_patents 92 = .ok (.iconst 1, 1) := by decide +kernel
theorem dX7_patents_93 : decode cX7_patents 93 = .ok (.invokestatic 63, 3) := by decide +kernel
theorem dX7_patents_96 : decode cX7_patents 96 = .ok (.iaload, 1) := by decide +kernel
theorem dX7_patents_97 : decode cX7_patents 97 = .ok (.invokevirtual 66, 3) := by decide +kernel
theorem dX7_patents_100 : decode cX7_patents 100 = .ok (.ireturn, 1) := by decide +kernel
theorem dX7_patents_101 : decode cX7_patents 101 = .ok (.aload_n 0, 1) := by decide +kernel
theorem dX7_patents_102 : decode cX7_patents 102 = .ok (.getfield 7, 3) := by decide +kernel
theorem dX7_patents_105 : decode cX7_patents 105 = .ok (.iconst 5, 1) := by decide +kernel
theorem dX7_patents_106 : decode cX7_patents 106 = .ok (.dup2, 1) := by decide +kernel
theorem dX7_patents_107 : decode cX7_patents 107 = .ok (.iaload, 1) := by decide +kernel
theorem dX7_patents_108 : decode cX7_patents 108 = .ok (.aload_n 0, 1) := by decide +kernel
theorem dX7_patents_109 : decode cX7_patents 109 = .ok (.iload_n 1, 1) := by decide +kernel
theorem dX7_patents_110 : decode cX7_patents 110 = .ok (.iload 4, 2) := by decide +kernel
theorem dX7_patents_112 : decode cX7_patents 112 = .ok (.invokevirtual 88, 3) := by decide +kernel
theorem dX7_patents_115 : decode cX7_patents 115 = .ok (.iadd, 1) := by decide +kernel
theorem dX7_patents_116 : decode cX7_patents 116 = .ok (.iastore, 1) := by decide +kernel
theorem dX7_patents_117 : decode cX7_patents 117 = .ok (.aload_n 0, 1) := by decide +kernel
theorem dX7_patents_118 : decode cX7_patents 118 = .ok (.getfield 7, 3) := by decide +kernel
theorem dX7_patents_121 : decode cX7_patents 121 = .ok (.iload_n 2, 1) := by decide +kernel
theorem dX7_patents_122 : decode cX7_patents 122 = .ok (.iconst 1, 1) := by decide +kernel
theorem dX7_patents_123 : decode cX7_patents 123 = .ok (.invokestatic 56, 3) := by decide +kernel
theorem dX7_patents_126 : decode cX7_patents 126 = .ok (.iload_n 1, 1) := by decide +kernel
theorem dX7_patents_127 : decode cX7_patents 127 = .ok (.iastore, 1) := by decide +kernel
theorem dX7_patents_128 : decode cX7_patents 128 = .ok (.aload_n 0, 1) := by decide +kernel
theorem dX7_patents_129 : decode cX7_patents 129 = .ok (.getfield 7, 3) := by decide +kernel
theorem dX7_patents_132 : decode cX7_patents 132 = .ok (.iload_n 2, 1) := by decide +kernel
theorem dX7_patents_133 : decode cX7_patents 133 = .ok (.iconst 2, 1) := by decide +kernel
theorem dX7_patents_134 : decode cX7_patents 134 = .ok (.invokestatic 56, 3) := by decide +kernel
theorem dX7_patents_137 : decode cX7_patents 137 = .ok (.aload_n 0, 1) := by decide +kernel
theorem dX7_patents_138 : decode cX7_patents 138 = .ok (.getfield 7, 3) := by decide +kernel
theorem dX7_patents_141 : decode cX7_patents 141 = .ok (.iconst 3, 1) := by decide +kernel
theorem dX7_patents_142 : decode cX7_patents 142 = .ok (.iaload, 1) := by decide +kernel
theorem dX7_patents_143 : decode cX7_patents 143 = .ok (.iload_n 3, 1) := by decide +kernel
theorem dX7_patents_144 : decode cX7_patents 144 = .ok (.iadd, 1) := by decide +kernel
theorem dX7_patents_145 : decode cX7_patents 145 = .ok (.iastore, 1) := by decide +kernel
theorem dX7_patents_146 : decode cX7_patents 146 = .ok (.aload_n 0, 1) := by decide +kernel
theorem dX7_patents_147 : decode cX7_patents 147 = .ok (.getfield 7, 3) := by decide +kernel
theorem dX7_patents_150 : decode cX7_patents 150 = .ok (.iload_n 2, 1) := by decide +kernel
theorem dX7_patents_151 : decode cX7_patents 151 = .ok (.iconst 2, 1) := by decide +kernel
theorem dX7_patents_152 : decode cX7_patents 152 = .ok (.invokestatic 56, 3) := by decide +kernel
theorem dX7_patents_155 : decode cX7_patents 155 = .ok (.iaload, 1) := by decide +kernel
theorem dX7_patents_156 : decode cX7_patents 156 = .ok (.ireturn, 1) := by decide +kernel
theorem dX7_patent_0 : decode cX7_patent 0 = .ok (.aload_n 0, 1) := by decide +kernel
theorem dX7_patent_1 : decode cX7_patent 1 = .ok (.invokevirtual 69, 3) := by decide +kernel
theorem dX7_patent_4 : decode cX7_patent 4 = .ok (.aload_n 0, 1) := by decide +kernel
theorem dX7_patent_5 : decode cX7_patent 5 = .ok (.aload_n 0, 1) := by decide +kernel
theorem dX7_patent_6 : decode cX7_patent 6 = .ok (.iload_n 1, 1) := by decide +kernel
theorem dX7_patent_7 : decode cX7_patent 7 = .ok (.iload_n 2, 1) := by decide +kernel
theorem dX7_patent_8 : decode cX7_patent 8 = .ok (.iload_n 3, 1) := by decide +kernel
theorem dX7_patent_9 : decode cX7_patent 9 = .ok (.invokevirtual 91, 3) := by decide +kernel
theorem dX7_patent_12 : decode cX7_patent 12 = .ok (.invokevirtual 75, 3) := by decide +kernel
theorem dX7_patent_15 : decode cX7_patent 15 = .ok (.ireturn, 1) := by decide +kernel
theorem dX7_insures_0 : decode cX7_insures 0 = .ok (.aload_n 0, 1) := by decide +kernel
theorem dX7_insures_1 : decode cX7_insures 1 = .ok (.iload_n 1, 1) := by decide +kernel
theorem dX7_insures_2 : decode cX7_insures 2 = .ok (.invokevirtual 81, 3) := by decide +kernel
theorem dX7_insures_5 : decode cX7_insures 5 = .ok (.ifCond .ne 11, 3) := by decide +kernel
theorem dX7_insures_8 : decode cX7_insures 8 = .ok (.aload_n 0, 1) := by decide +kernel
theorem dX7_insures_9 : decode cX7_insures 9 = .ok (.sipush (-1011), 3) := by decide +kernel
theorem dX7_insures_12 : decode cX7_insures 12 = .ok (.invokevirtual 41, 3) := by decide +kernel
theorem dX7_insures_15 : decode cX7_insures 15 = .ok (.ireturn, 1) := by decide +kernel
theorem dX7_insures_16 : decode cX7_insures 16 = .ok (.aload_n 0, 1) := by decide +kernel
theorem dX7_insures_17 : decode cX7_insures 17 = .ok (.getfield 7, 3) := by decide +kernel
theorem dX7_insures_20 : decode cX7_insures 20 = .ok (.iload_n 1, 1) := by decide +kernel
theorem dX7_insures_21 : decode cX7_insures 21 = .ok (.iconst 3, 1) := by decide +kernel
theorem dX7_insures_22 : decode cX7_insures 22 = .ok (.invokestatic 63, 3) := by decide +kernel
theorem dX7_insures_25 : decode cX7_insures 25 = .ok (.iaload, 1) := by decide +kernel
theorem dX7_insures_26 : decode cX7_insures 26 = .ok (.iconst 3, 1) := by decide +kernel
theorem dX7_insures_27 : decode cX7_insures 27 = .ok (.if_icmp .ne 11, 3) := by decide +kernel
theorem dX7_insures_30 : decode cX7_insures 30 = .ok (.aload_n 0, 1) := by decide +kernel
theorem dX7_insures_31 : decode cX7_insures 31 = .ok (.bipush 8, 2) := by decide +kernel
theorem dX7_insures_33 : decode cX7_insures 33 = .ok (.iconst 3, 1) := by decide +kernel
theorem dX7_insures_34 : decode cX7_insures 34 = .ok (.invokevirtual 66, 3) := by decide +kernel
theorem dX7_insures_37 : decode cX7_insures 37 = .ok (.ireturn, 1) := by decide +kernel
theorem dX7_insures_38 : decode cX7_insures 38 = .ok (.aload_n 0, 1) := by decide +kernel
theorem dX7_insures_39 : decode cX7_insures 39 = .ok (.getfield 7, 3) := by decide +kernel
theorem dX7_insures_42 : decode cX7_insures 42 = .ok (.iload_n 1, 1) := by decide +kernel
theorem dX7_insures_43 : decode cX7_insures 43 = .ok (.iconst 1, 1) := by decide +kernel
theorem dX7_insures_44 : decode cX7_insures 44 = .ok (.invokestatic 63, 3) := by decide +kernel
theorem dX7_insures_47 : decode cX7_insures 47 = .ok (.iaload, 1) := by decide +kernel
theorem dX7_insures_48 : decode cX7_insures 48 = .ok (.iconst 2, 1) := by decide +kernel
theorem dX7_insures_49 : decode cX7_insures 49 = .ok (.if_icmp .ge 20, 3) := by decide +kernel
theorem dX7_insures_52 : decode cX7_insures 52 = .ok (.aload_n 0, 1) := by decide +kernel
theorem dX7_insures_53 : decode cX7_insures 53 = .ok (.bipush 7, 2) := by decide +kernel
theorem dX7_insures_55 : decode cX7_insures 55 = .ok (.aload_n 0, 1) := by decide +kernel
theorem dX7_insures_56 : decode cX7_insures 56 = .ok (.getfield 7, 3) := by decide +kernel
theorem dX7_insures_59 : decode cX7_insures 59 = .ok (.iload_n 1, 1) := by decide +kernel
theorem dX7_insures_60 : decode cX7_insures 60 = .ok (.iconst 1, 1) := by decide +kernel
theorem dX7_insures_61 : decode cX7_insures 61 = .ok (.invokestatic 63, 3) := by decide +kernel
theorem dX7_insures_64 : decode cX7_insures 64 = .ok (.iaload, 1) := by decide +kernel
theorem dX7_insures_65 : decode cX7_insures 65 = .ok (.invokevirtual 66, 3) := by decide +kernel
theorem dX7_insures_68 : decode cX7_insures 68 = .ok (.ireturn, 1) := by decide +kernel
theorem dX7_insures_69 : decode cX7_insures 69 = .ok (.aload_n 0, 1) := by decide +kernel
theorem dX7_insures_70 : decode cX7_insures 70 = .ok (.getfield 7, 3) := by decide +kernel
theorem dX7_insures_73 : decode cX7_insures 73 = .ok (.iconst 5, 1) := by decide +kernel
theorem dX7_insures_74 : decode cX7_insures 74 = .ok (.dup2, 1) := by decide +kernel
theorem dX7_insures_75 : decode cX7_insures 75 = .ok (.iaload, 1) := by decide +kernel
theorem dX7_insures_76 : decode cX7_insures 76 = .ok (.aload_n 0, 1) := by decide +kernel
theorem dX7_insures_77 : decode cX7_insures 77 = .ok (.iload_n 1, 1) := by decide +kernel
theorem dX7_insures_78 : decode cX7_insures 78 = .ok (.iconst 2, 1) := by decide +kernel
theorem dX7_insures_79 : decode cX7_insures 79 = .ok (.invokevirtual 88, 3) := by decide +kernel
theorem dX7_insures_82 : decode cX7_insures 82 = .ok (.iadd, 1) := by decide +kernel
theorem dX7_insures_83 : decode cX7_insures 83 = .ok (.iastore, 1) := by decide +kernel
theorem dX7_insures_84 : decode cX7_insures 84 = .ok (.aload_n 0, 1) := by decide +kernel
theorem dX7_insures_85 : decode cX7_insures 85 = .ok (.getfield 7, 3) := by decide +kernel
theorem dX7_insures_88 : decode cX7_insures 88 = .ok (.iload_n 1, 1) := by decide +kernel
theorem dX7_insures_89 : decode cX7_insures 89 = .ok (.iconst 3, 1) := by decide +kernel
theorem dX7_insures_90 : decode cX7_insures 90 = .ok (.invokestatic 63, 3) := by decide +kernel
theorem dX7_insures_93 : decode cX7_insures 93 = .ok (.dup2, 1) := by decide +kernel
theorem dX7_insures_94 : decode cX7_insures 94 = .ok (.iaload, 1) := by decide +kernel
theorem dX7_insures_95 : decode cX7_insures 95 = .ok (.iconst 1, 1) := by decide +kernel
theorem dX7_insures_96 : decode cX7_insures 96 = .ok (.iadd, 1) := by decide +kernel
theorem dX7_insures_97 : decode cX7_insures 97 = .ok (.iastore, 1) := by decide +kernel
theorem dX7_insures_98 : decode cX7_insures 98 = .ok (.aload_n 0, 1) := by decide +kernel
theorem dX7_insures_99 : decode cX7_insures 99 = .ok (.getfield 7, 3) := by decide +kernel
theorem dX7_insures_102 : decode cX7_insures 102 = .ok (.iload_n 1, 1) := by decide +kernel
theorem dX7_insures_103 : decode cX7_insures 103 = .ok (.iconst 3, 1) := by decide +kernel
theorem dX7_insures_104 : decode cX7_insures 104 = .ok (.invokestatic 63, 3) := by decide +kernel
theorem dX7_insures_107 : decode cX7_insures 107 = .ok (.iaload, 1) := by decide +kernel
theorem dX7_insures_108 : decode cX7_insures 108 = .ok (.ireturn, 1) := by decide +kernel
theorem dX7_insure_0 : decode cX7_insure 0 = .ok (.aload_n 0, 1) := by decide +kernel
theorem dX7_insure_1 : decode cX7_insure 1 = .ok (.invokevirtual 69, 3) := by decide +kernel
theorem dX7_insure_4 : decode cX7_insure 4 = .ok (.aload_n 0, 1) := by decide +kernel
theorem dX7_insure_5 : decode cX7_insure 5 = .ok (.aload_n 0, 1) := by decide +kernel
theorem dX7_insure_6 : decode cX7_insure 6 = .ok (.iload_n 1, 1) := by decide +kernel
theorem dX7_insure_7 : decode cX7_insure 7 = .ok (.invokevirtual 95, 3) := by decide +kernel
theorem dX7_insure_10 : decode cX7_insure 10 = .ok (.invokevirtual 75, 3) := by decide +kernel
theorem dX7_insure_13 : decode cX7_insure 13 = .ok (.ireturn, 1) := by decide +kernel
theorem dX7_audits_0 : decode cX7_audits 0 = .ok (.aload_n 0, 1) := by decide +kernel
theorem dX7_audits_1 : decode cX7_audits 1 = .ok (.iload_n 1, 1) := by decide +kernel
theorem dX7_audits_2 : decode cX7_audits 2 = .ok (.invokevirtual 81, 3) := by decide +kernel
theorem dX7_audits_5 : decode cX7_audits 5 = .ok (.ifCond .ne 11, 3) := by decide +kernel
theorem dX7_audits_8 : decode cX7_audits 8 = .ok (.aload_n 0, 1) := by decide +kernel
theorem dX7_audits_9 : decode cX7_audits 9 = .ok (.sipush (-1011), 3) := by decide +kernel
theorem dX7_audits_12 : decode cX7_audits 12 = .ok (.invokevirtual 41, 3) := by decide +kernel
theorem dX7_audits_15 : decode cX7_audits 15 = .ok (.ireturn, 1) := by decide +kernel
theorem dX7_audits_16 : decode cX7_audits 16 = .ok (.aload_n 0, 1) := by decide +kernel
theorem dX7_audits_17 : decode cX7_audits 17 = .ok (.getfield 7, 3) := by decide +kernel
theorem dX7_audits_20 : decode cX7_audits 20 = .ok (.iload_n 1, 1) := by decide +kernel
theorem dX7_audits_21 : decode cX7_audits 21 = .ok (.iconst 2, 1) := by decide +kernel
theorem dX7_audits_22 : decode cX7_audits 22 = .ok (.invokestatic 63, 3) := by decide +kernel
theorem dX7_audits_25 : decode cX7_audits 25 = .ok (.iaload, 1) := by decide +kernel
theorem dX7_audits_26 : decode cX7_audits 26 = .ok (.istore_n 2, 1) := by decide +kernel
theorem dX7_audits_27 : decode cX7_audits 27 = .ok (.iload_n 2, 1) := by decide +kernel
theorem dX7_audits_28 : decode cX7_audits 28 = .ok (.iconst 3, 1) := by decide +kernel
theorem dX7_audits_29 : decode cX7_audits 29 = .ok (.if_icmp .ge 11, 3) := by decide +kernel
theorem dX7_audits_32 : decode cX7_audits 32 = .ok (.aload_n 0, 1) := by decide +kernel
theorem dX7_audits_33 : decode cX7_audits 33 = .ok (.bipush 10, 2) := by decide +kernel
theorem dX7_audits_35 : decode cX7_audits 35 = .ok (.iload_n 2, 1) := by decide +kernel
theorem dX7_audits_36 : decode cX7_audits 36 = .ok (.invokevirtual 66, 3) := by decide +kernel
theorem dX7_audits_39 : decode cX7_audits 39 = .ok (.ireturn, 1) := by decide +kernel
theorem dX7_audits_40 : decode cX7_audits 40 = .ok (.aload_n 0, 1) := by decide +kernel
theorem dX7_audits_41 : decode cX7_audits 41 = .ok (.getfield 7, 3) := by decide +kernel
theorem dX7_audits_44 : decode cX7_audits 44 = .ok (.iload_n 1, 1) := by decide +kernel
theorem dX7_audits_45 : decode cX7_audits 45 = .ok (.iconst 1, 1) := by decide +kernel
theorem dX7_audits_46 : decode cX7_audits 46 = .ok (.invokestatic 63, 3) := by decide +kernel
theorem dX7_audits_49 : decode cX7_audits 49 = .ok (.iaload, 1) := by decide +kernel
theorem dX7_audits_50 : decode cX7_audits 50 = .ok (.ifCond .ne 11, 3) := by decide +kernel
theorem dX7_audits_53 : decode cX7_audits 53 = .ok (.aload_n 0, 1) := by decide +kernel
theorem dX7_audits_54 : decode cX7_audits 54 = .ok (.bipush 7, 2) := by decide +kernel
theorem dX7_audits_56 : decode cX7_audits 56 = .ok (.iconst 0, 1) := by decide +kernel
theorem dX7_audits_57 : decode cX7_audits 57 = .ok (.invokevirtual 66, 3) := by decide +kernel
theorem dX7_audits_60 : decode cX7_audits 60 = .ok (.ireturn, 1) := by decide +kernel
theorem dX7_audits_61 : decode cX7_audits 61 = .ok (.aload_n 0, 1) := by decide +kernel
theorem dX7_audits_62 : decode cX7_audits 62 = .ok (.iload_n 1, 1) := by decide +kernel
theorem dX7_audits_63 : decode cX7_audits 63 = .ok (.iload_n 2, 1) := by decide +kernel
theorem dX7_audits_64 : decode cX7_audits 64 = .ok (.iconst 3, 1) := by decide +kernel
theorem dX7_audits_65 : decode cX7_audits 65 = .ok (.idiv, 1) := by decide +kernel
theorem dX7_audits_66 : decode cX7_audits 66 = .ok (.invokevirtual 88, 3) := by decide +kernel
theorem dX7_audits_69 : decode cX7_audits 69 = .ok (.istore_n 3, 1) := by decide +kernel
theorem dX7_audits_70 : decode cX7_audits 70 = .ok (.aload_n 0, 1) := by decide +kernel
theorem dX7_audits_71 : decode cX7_audits 71 = .ok (.getfield 7, 3) := by decide +kernel
theorem dX7_audits_74 : decode cX7_audits 74 = .ok (.iconst 5, 1) := by decide +kernel
theorem dX7_audits_75 : decode cX7_audits 75 = .ok (.dup2, 1) := by decide +kernel
theorem dX7_audits_76 : decode cX7_audits 76 = .ok (.iaload, 1) := by decide +kernel
theorem dX7_audits_77 : decode cX7_audits 77 = .ok (.iload_n 3, 1) := by decide +kernel
theorem dX7_audits_78 : decode cX7_audits 78 = .ok (.iadd, 1) := by decide +kernel
theorem dX7_audits_79 : decode cX7_audits 79 = .ok (.iastore, 1) := by decide +kernel
theorem dX7_audits_80 : decode cX7_audits 80 = .ok (.aload_n 0, 1) := by decide +kernel
theorem dX7_audits_81 : decode cX7_audits 81 = .ok (.getfield 7, 3) := by decide +kernel
theorem dX7_audits_84 : decode cX7_audits 84 = .ok (.iload_n 1, 1) := by decide +kernel
theorem dX7_audits_85 : decode cX7_audits 85 = .ok (.iconst 2, 1) := by decide +kernel
theorem dX7_audits_86 : decode cX7_audits 86 = .ok (.invokestatic 63, 3) := by decide +kernel
theorem dX7_audits_89 : decode cX7_audits 89 = .ok (.dup2, 1) := by decide +kernel
theorem dX7_audits_90 : decode cX7_audits 90 = .ok (.iaload, 1) := by decide +kernel
theorem dX7_audits_91 : decode cX7_audits 91 = .ok (.iconst 3, 1) := by decide +kernel
theorem dX7_audits_92 : decode cX7_audits 92 = .ok (.iload_n 3, 1) := by decide +kernel
theorem dX7_audits_93 : decode cX7_audits 93 = .ok (.imul, 1) := by decide +kernel
theorem dX7_audits_94 : decode cX7_audits 94 = .ok (.isub, 1) := by decide +kernel
theorem dX7_audits_95 : decode cX7_audits 95 = .ok (.iastore, 1) := by decide +kernel
theorem dX7_audits_96 : decode cX7_audits 96 = .ok (.iload_n 3, 1) := by decide +kernel
theorem dX7_audits_97 : decode cX7_audits 97 = .ok (.ireturn, 1) := by decide +kernel
theorem dX7_audit_0 : decode cX7_audit 0 = .ok (.aload_n 0, 1) := by decide +kernel
theorem dX7_audit_1 : decode cX7_audit 1 = .ok (.invokevirtual 69, 3) := by decide +kernel
theorem dX7_audit_4 : decode cX7_audit 4 = .ok (.aload_n 0, 1) := by decide +kernel
theorem dX7_audit_5 : decode cX7_audit 5 = .ok (.aload_n 0, 1) := by decide +kernel
theorem dX7_audit_6 : decode cX7_audit 6 = .ok (.iload_n 1, 1) := by decide +kernel
theorem dX7_audit_7 : decode cX7_audit 7 = .ok (.invokevirtual 98, 3) := by decide +kernel
theorem dX7_audit_10 : decode cX7_audit 10 = .ok (.invokevirtual 75, 3) := by decide +kernel
theorem dX7_audit_13 : decode cX7_audit 13 = .ok (.ireturn, 1) := by decide +kernel
theorem dX7_bookings_0 : decode cX7_bookings 0 = .ok (.iconst 0, 1) := by decide +kernel
theorem dX7_bookings_1 : decode cX7_bookings 1 = .ok (.istore_n 3, 1) := by decide +kernel
theorem dX7_bookings_2 : decode cX7_bookings 2 = .ok (.iconst 0, 1) := by decide +kernel
theorem dX7_bookings_3 : decode cX7_bookings 3 = .ok (.istore 4, 2) := by decide +kernel
theorem dX7_bookings_5 : decode cX7_bookings 5 = .ok (.iload 4, 2) := by decide +kernel
theorem dX7_bookings_7 : decode cX7_bookings 7 = .ok (.aload_n 0, 1) := by decide +kernel
theorem dX7_bookings_8 : decode cX7_bookings 8 = .ok (.getfield 7, 3) := by decide +kernel
theorem dX7_bookings_11 : decode cX7_bookings 11 = .ok (.iconst 2, 1) := by decide +kernel
theorem dX7_bookings_12 : decode cX7_bookings 12 = .ok (.iaload, 1) := by decide +kernel
theorem dX7_bookings_13 : decode cX7_bookings 13 = .ok (.if_icmp .ge 28, 3) := by decide +kernel
theorem dX7_bookings_16 : decode cX7_bookings 16 = .ok (.iload_n 3, 1) := by decide +kernel
theorem dX7_bookings_17 : decode cX7_bookings 17 = .ok (.aload_n 0, 1) := by decide +kernel
theorem dX7_bookings_18 : decode cX7_bookings 18 = .ok (.iload 4, 2) := by decide +kernel
theorem dX7_bookings_20 : decode cX7_bookings 20 = .ok (.iload_n 1, 1) := by decide +kernel
theorem dX7_bookings_21 : decode cX7_bookings 21 = .ok (.invokevirtual 101, 3) := by decide +kernel
theorem dX7_bookings_24 : decode cX7_bookings 24 = .ok (.iload_n 2, 1) := by decide +kernel
theorem dX7_bookings_25 : decode cX7_bookings 25 = .ok (.if_icmp .ne 7, 3) := by decide +kernel
theorem dX7_bookings_28 : decode cX7_bookings 28 = .ok (.iconst 1, 1) := by decide +kernel
theorem dX7_bookings_29 : decode cX7_bookings 29 = .ok (.goto 4, 3) := by decide +kernel
theorem dX7_bookings_32 : decode cX7_bookings 32 = .ok (.iconst 0, 1) := by decide +kernel
theorem dX7_bookings_33 : decode cX7_bookings 33 = .ok (.iadd, 1) := by decide +kernel
theorem dX7_bookings_34 : decode cX7_bookings 34 = .ok (.istore_n 3, 1) := by decide +kernel
theorem dX7_bookings_35 : decode cX7_bookings 35 = .ok (.iinc 4 1, 3) := by decide +kernel
theorem dX7_bookings_38 : decode cX7_bookings 38 = .ok (.goto (-33), 3) := by decide +kernel
theorem dX7_bookings_41 : decode cX7_bookings 41 = .ok (.iload_n 3, 1) := by decide +kernel
theorem dX7_bookings_42 : decode cX7_bookings 42 = .ok (.ireturn, 1) := by decide +kernel
theorem dX7_patentsOf_0 : decode cX7_patentsOf 0 = .ok (.iconst 0, 1) := by decide +kernel
theorem dX7_patentsOf_1 : decode cX7_patentsOf 1 = .ok (.istore_n 2, 1) := by decide +kernel
theorem dX7_patentsOf_2 : decode cX7_patentsOf 2 = .ok (.iconst 0, 1) := by decide +kernel
theorem dX7_patentsOf_3 : decode cX7_patentsOf 3 = .ok (.istore_n 3, 1) := by decide +kernel
theorem dX7_patentsOf_4 : decode cX7_patentsOf 4 = .ok (.iload_n 3, 1) := by decide +kernel
theorem dX7_patentsOf_5 : decode cX7_patentsOf 5 = .ok (.aload_n 0, 1) := by decide +kernel
theorem dX7_patentsOf_6 : decode cX7_patentsOf 6 = .ok (.getfield 7, 3) := by decide +kernel
theorem dX7_patentsOf_9 : decode cX7_patentsOf 9 = .ok (.iconst 1, 1) := by decide +kernel
theorem dX7_patentsOf_10 : decode cX7_patentsOf 10 = .ok (.iaload, 1) := by decide +kernel
theorem dX7_patentsOf_11 : decode cX7_patentsOf 11 = .ok (.if_icmp .ge 38, 3) := by decide +kernel
theorem dX7_patentsOf_14 : decode cX7_patentsOf 14 = .ok (.iload_n 2, 1) := by decide +kernel
theorem dX7_patentsOf_15 : decode cX7_patentsOf 15 = .ok (.aload_n 0, 1) := by decide +kernel
theorem dX7_patentsOf_16 : decode cX7_patentsOf 16 = .ok (.iload_n 3, 1) := by decide +kernel
theorem dX7_patentsOf_17 : decode cX7_patentsOf 17 = .ok (.invokevirtual 60, 3) := by decide +kernel
theorem dX7_patentsOf_20 : decode cX7_patentsOf 20 = .ok (.ifCond .lt 20, 3) := by decide +kernel
theorem dX7_patentsOf_23 : decode cX7_patentsOf 23 = .ok (.iload_n 1, 1) := by decide +kernel
theorem dX7_patentsOf_24 : decode cX7_patentsOf 24 = .ok (.ifCond .lt 12, 3) := by decide +kernel
theorem dX7_patentsOf_27 : decode cX7_patentsOf 27 = .ok (.aload_n 0, 1) := by decide +kernel
theorem dX7_patentsOf_28 : decode cX7_patentsOf 28 = .ok (.iload_n 3, 1) := by decide +kernel
theorem dX7_patentsOf_29 : decode cX7_patentsOf 29 = .ok (.invokevirtual 60, 3) := by decide +kernel
theorem dX7_patentsOf_32 : decode cX7_patentsOf 32 = .ok (.iload_n 1, 1) := by decide +kernel
theorem dX7_patentsOf_33 : decode cX7_patentsOf 33 = .ok (.if_icmp .ne 7, 3) := by decide +kernel
theorem dX7_patentsOf_36 : decode cX7_patentsOf 36 = .ok (.iconst 1, 1) := by decide +kernel
theorem dX7_patentsOf_37 : decode cX7_patentsOf 37 = .ok (.goto 4, 3) := by decide +kernel
theorem dX7_patentsOf_40 : decode cX7_patentsOf 40 = .ok (.iconst 0, 1) := by decide +kernel
theorem dX7_patentsOf_41 : decode cX7_patentsOf 41 = .ok (.iadd, 1) := by decide +kernel
theorem dX7_patentsOf_42 : decode cX7_patentsOf 42 = .ok (.istore_n 2, 1) := by decide +kernel
theorem dX7_patentsOf_43 : decode cX7_patentsOf 43 = .ok (.iinc 3 1, 3) := by decide +kernel
theorem dX7_patentsOf_46 : decode cX7_patentsOf 46 = .ok (.goto (-42), 3) := by decide +kernel
theorem dX7_patentsOf_49 : decode cX7_patentsOf 49 = .ok (.iload_n 2, 1) := by decide +kernel
theorem dX7_patentsOf_50 : decode cX7_patentsOf 50 = .ok (.ireturn, 1) := by decide +kernel
theorem dX7_foolOf_0 : decode cX7_foolOf 0 = .ok (.aload_n 0, 1) := by decide +kernel
theorem dX7_foolOf_1 : decode cX7_foolOf 1 = .ok (.iload_n 1, 1) := by decide +kernel
theorem dX7_foolOf_2 : decode cX7_foolOf 2 = .ok (.invokevirtual 81, 3) := by decide +kernel
theorem dX7_foolOf_5 : decode cX7_foolOf 5 = .ok (.ifCond .ne 7, 3) := by decide +kernel
theorem dX7_foolOf_8 : decode cX7_foolOf 8 = .ok (.sipush (-1011), 3) := by decide +kernel
theorem dX7_foolOf_11 : decode cX7_foolOf 11 = .ok (.ireturn, 1) := by decide +kernel
theorem dX7_foolOf_12 : decode cX7_foolOf 12 = .ok (.iload_n 2, 1) := by decide +kernel
theorem dX7_foolOf_13 : decode cX7_foolOf 13 = .ok (.tableswitch 84 0 7 #[47, 47, 47, 47, 58, 64, 71, 71], 47) := by decide +kernel
theorem dX7_foolOf_60 : decode cX7_foolOf 60 = .ok (.aload_n 0, 1) := by decide +kernel
theorem dX7_foolOf_61 : decode cX7_foolOf 61 = .ok (.getfield 7, 3) := by decide +kernel
theorem dX7_foolOf_64 : decode cX7_foolOf 64 = .ok (.iload_n 1, 1) := by decide +kernel
theorem dX7_foolOf_65 : decode cX7_foolOf 65 = .ok (.iload_n 2, 1) := by decide +kernel
theorem dX7_foolOf_66 : decode cX7_foolOf 66 = .ok (.invokestatic 63, 3) := by decide +kernel
theorem dX7_foolOf_69 : decode cX7_foolOf 69 = .ok (.iaload, 1) := by decide +kernel
theorem dX7_foolOf_70 : decode cX7_foolOf 70 = .ok (.ireturn, 1) := by decide +kernel
theorem dX7_foolOf_71 : decode cX7_foolOf 71 = .ok (.aload_n 0, 1) := by decide +kernel
theorem dX7_foolOf_72 : decode cX7_foolOf 72 = .ok (.iload_n 1, 1) := by decide +kernel
theorem dX7_foolOf_73 : decode cX7_foolOf 73 = .ok (.invokevirtual 104, 3) := by decide +kernel
theorem dX7_foolOf_76 : decode cX7_foolOf 76 = .ok (.ireturn, 1) := by decide +kernel
theorem dX7_foolOf_77 : decode cX7_foolOf 77 = .ok (.aload_n 0, 1) := by decide +kernel
theorem dX7_foolOf_78 : decode cX7_foolOf 78 = .ok (.iconst 0, 1) := by decide +kernel
theorem dX7_foolOf_79 : decode cX7_foolOf 79 = .ok (.iload_n 1, 1) := by decide +kernel
theorem dX7_foolOf_80 : decode cX7_foolOf 80 = .ok (.invokevirtual 107, 3) := by decide +kernel
theorem dX7_foolOf_83 : decode cX7_foolOf 83 = .ok (.ireturn, 1) := by decide +kernel
theorem dX7_foolOf_84 : decode cX7_foolOf 84 = .ok (.aload_n 0, 1) := by decide +kernel
theorem dX7_foolOf_85 : decode cX7_foolOf 85 = .ok (.getfield 7, 3) := by decide +kernel
theorem dX7_foolOf_88 : decode cX7_foolOf 88 = .ok (.iload_n 1, 1) := by decide +kernel
theorem dX7_foolOf_89 : decode cX7_foolOf 89 = .ok (.iload_n 2, 1) := by decide +kernel
theorem dX7_foolOf_90 : decode cX7_foolOf 90 = .ok (.iconst 2, 1) := by decide +kernel
theorem dX7_foolOf_91 : decode cX7_foolOf 91 = .ok (.isub, 1) := by decide +kernel
theorem dX7_foolOf_92 : decode cX7_foolOf 92 = .ok (.invokestatic 63, 3) := by decide +kernel
theorem dX7_foolOf_95 : decode cX7_foolOf 95 = .ok (.iaload, 1) := by decide +kernel
theorem dX7_foolOf_96 : decode cX7_foolOf 96 = .ok (.ireturn, 1) := by decide +kernel
theorem dX7_foolOf_97 : decode cX7_foolOf 97 = .ok (.sipush (-1012), 3) := by decide +kernel
theorem dX7_foolOf_100 : decode cX7_foolOf 100 = .ok (.ireturn, 1) := by decide +kernel
theorem dX7_tellings_0 : decode cX7_tellings 0 = .ok (.iconst 0, 1) := by decide +kernel
theorem dX7_tellings_1 : decode cX7_tellings 1 = .ok (.istore_n 2, 1) := by decide +kernel
theorem dX7_tellings_2 : decode cX7_tellings 2 = .ok (.iconst 0, 1) := by decide +kernel
theorem dX7_tellings_3 : decode cX7_tellings 3 = .ok (.istore_n 3, 1) := by decide +kernel
theorem dX7_tellings_4 : decode cX7_tellings 4 = .ok (.iload_n 3, 1) := by decide +kernel
theorem dX7_tellings_5 : decode cX7_tellings 5 = .ok (.iconst 4, 1) := by decide +kernel
theorem dX7_tellings_6 : decode cX7_tellings 6 = .ok (.if_icmp .ge 25, 3) := by decide +kernel
theorem dX7_tellings_9 : decode cX7_tellings 9 = .ok (.iload_n 2, 1) := by decide +kernel
theorem dX7_tellings_10 : decode cX7_tellings 10 = .ok (.aload_n 0, 1) := by decide +kernel
theorem dX7_tellings_11 : decode cX7_tellings 11 = .ok (.getfield 7, 3) := by decide +kernel
theorem dX7_tellings_14 : decode cX7_tellings 14 = .ok (.bipush 94, 2) := by decide +kernel
theorem dX7_tellings_16 : decode cX7_tellings 16 = .ok (.iconst 4, 1) := by decide +kernel
theorem dX7_tellings_17 : decode cX7_tellings 17 = .ok (.iload_n 1, 1) := by decide +kernel
theorem dX7_tellings_18 : decode cX7_tellings 18 = .ok (.imul, 1) := by decide +kernel
theorem dX7_tellings_19 : decode cX7_tellings 19 = .ok (.iadd, 1) := by decide +kernel
theorem dX7_tellings_20 : decode cX7_tellings 20 = .ok (.iload_n 3, 1) := by decide +kernel
theorem dX7_tellings_21 : decode cX7_tellings 21 = .ok (.iadd, 1) := by decide +kernel
theorem dX7_tellings_22 : decode cX7_tellings 22 = .ok (.iaload, 1) := by decide +kernel
theorem dX7_tellings_23 : decode cX7_tellings 23 = .ok (.iadd, 1) := by decide +kernel
theorem dX7_tellings_24 : decode cX7_tellings 24 = .ok (.istore_n 2, 1) := by decide +kernel
theorem dX7_tellings_25 : decode cX7_tellings 25 = .ok (.iinc 3 1, 3) := by decide +kernel
theorem dX7_tellings_28 : decode cX7_tellings 28 = .ok (.goto (-24), 3) := by decide +kernel
theorem dX7_tellings_31 : decode cX7_tellings 31 = .ok (.iload_n 2, 1) := by decide +kernel
theorem dX7_tellings_32 : decode cX7_tellings 32 = .ok (.ireturn, 1) := by decide +kernel
theorem dX7_jokeOf_0 : decode cX7_jokeOf 0 = .ok (.aload_n 0, 1) := by decide +kernel
theorem dX7_jokeOf_1 : decode cX7_jokeOf 1 = .ok (.iload_n 1, 1) := by decide +kernel
theorem dX7_jokeOf_2 : decode cX7_jokeOf 2 = .ok (.invokevirtual 85, 3) := by decide +kernel
theorem dX7_jokeOf_5 : decode cX7_jokeOf 5 = .ok (.ifCond .ne 7, 3) := by decide +kernel
theorem dX7_jokeOf_8 : decode cX7_jokeOf 8 = .ok (.sipush (-1011), 3) := by decide +kernel
theorem dX7_jokeOf_11 : decode cX7_jokeOf 11 = .ok (.ireturn, 1) := by decide +kernel
theorem dX7_jokeOf_12 : decode cX7_jokeOf 12 = .ok (.aload_n 0, 1) := by decide +kernel
theorem dX7_jokeOf_13 : decode cX7_jokeOf 13 = .ok (.iload_n 1, 1) := by decide +kernel
theorem dX7_jokeOf_14 : decode cX7_jokeOf 14 = .ok (.invokevirtual 60, 3) := by decide +kernel
theorem dX7_jokeOf_17 : decode cX7_jokeOf 17 = .ok (.istore_n 3, 1) := by decide +kernel
theorem dX7_jokeOf_18 : decode cX7_jokeOf 18 = .ok (.iload_n 2, 1) := by decide +kernel
theorem dX7_jokeOf_19 : decode cX7_jokeOf 19 = .ok (.tableswitch 95 0 4 #[33, 44, 56, 82, 88], 33) := by decide +kernel
theorem dX7_jokeOf_52 : decode cX7_jokeOf 52 = .ok (.aload_n 0, 1) := by decide +kernel
theorem dX7_jokeOf_53 : decode cX7_jokeOf 53 = .ok (.getfield 7, 3) := by decide +kernel
theorem dX7_jokeOf_56 : decode cX7_jokeOf 56 = .ok (.iload_n 1, 1) := by decide +kernel
theorem dX7_jokeOf_57 : decode cX7_jokeOf 57 = .ok (.iconst 0, 1) := by decide +kernel
theorem dX7_jokeOf_58 : decode cX7_jokeOf 58 = .ok (.invokestatic 56, 3) := by decide +kernel
theorem dX7_jokeOf_61 : decode cX7_jokeOf 61 = .ok (.iaload, 1) := by decide +kernel
theorem dX7_jokeOf_62 : decode cX7_jokeOf 62 = .ok (.ireturn, 1) := by decide +kernel
theorem dX7_jokeOf_63 : decode cX7_jokeOf 63 = .ok (.iload_n 3, 1) := by decide +kernel
theorem dX7_jokeOf_64 : decode cX7_jokeOf 64 = .ok (.ifCond .ge 9, 3) := by decide +kernel
theorem dX7_jokeOf_67 : decode cX7_jokeOf 67 = .ok (.sipush (-1015), 3) := by decide +kernel
theorem dX7_jokeOf_70 : decode cX7_jokeOf 70 = .ok (.goto 4, 3) := by decide +kernel
theorem dX7_jokeOf_73 : decode cX7_jokeOf 73 = .ok (.iload_n 3, 1) := by decide +kernel
theorem dX7_jokeOf_74 : decode cX7_jokeOf 74 = .ok (.ireturn, 1) := by decide +kernel
theorem dX7_jokeOf_75 : decode cX7_jokeOf 75 = .ok (.iload_n 3, 1) := by decide +kernel
theorem dX7_jokeOf_76 : decode cX7_jokeOf 76 = .ok (.ifCond .ge 7, 3) := by decide +kernel
theorem dX7_jokeOf_79 : decode cX7_jokeOf 79 = .ok (.iconst 0, 1) := by decide +kernel
theorem dX7_jokeOf_80 : decode cX7_jokeOf 80 = .ok (.goto 20, 3) := by decide +kernel
theorem dX7_jokeOf_83 : decode cX7_jokeOf 83 = .ok (.aload_n 0, 1) := by decide +kernel
theorem dX7_jokeOf_84 : decode cX7_jokeOf 84 = .ok (.getfield 7, 3) := by decide +kernel
theorem dX7_jokeOf_87 : decode cX7_jokeOf 87 = .ok (.iload_n 1, 1) := by decide +kernel
theorem dX7_jokeOf_88 : decode cX7_jokeOf 88 = .ok (.iconst 2, 1) := by decide +kernel
theorem dX7_jokeOf_89 : decode cX7_jokeOf 89 = .ok (.invokestatic 56, 3) := by decide +kernel
theorem dX7_jokeOf_92 : decode cX7_jokeOf 92 = .ok (.iaload, 1) := by decide +kernel
theorem dX7_jokeOf_93 : decode cX7_jokeOf 93 = .ok (.aload_n 0, 1) := by decide +kernel
theorem dX7_jokeOf_94 : decode cX7_jokeOf 94 = .ok (.getfield 7, 3) := by decide +kernel
theorem dX7_jokeOf_97 : decode cX7_jokeOf 97 = .ok (.iconst 3, 1) := by decide +kernel
theorem dX7_jokeOf_98 : decode cX7_jokeOf 98 = .ok (.iaload, 1) := by decide +kernel
theorem dX7_jokeOf_99 : decode cX7_jokeOf 99 = .ok (.isub, 1) := by decide +kernel
theorem dX7_jokeOf_100 : decode cX7_jokeOf 100 = .ok (.ireturn, 1) := by decide +kernel
theorem dX7_jokeOf_101 : decode cX7_jokeOf 101 = .ok (.aload_n 0, 1) := by decide +kernel
theorem dX7_jokeOf_102 : decode cX7_jokeOf 102 = .ok (.iload_n 1, 1) := by decide +kernel
theorem dX7_jokeOf_103 : decode cX7_jokeOf 103 = .ok (.invokevirtual 110, 3) := by decide +kernel
theorem dX7_jokeOf_106 : decode cX7_jokeOf 106 = .ok (.ireturn, 1) := by decide +kernel
theorem dX7_jokeOf_107 : decode cX7_jokeOf 107 = .ok (.aload_n 0, 1) := by decide +kernel
theorem dX7_jokeOf_108 : decode cX7_jokeOf 108 = .ok (.iconst 1, 1) := by decide +kernel
theorem dX7_jokeOf_109 : decode cX7_jokeOf 109 = .ok (.iload_n 1, 1) := by decide +kernel
theorem dX7_jokeOf_110 : decode cX7_jokeOf 110 = .ok (.invokevirtual 107, 3) := by decide +kernel
theorem dX7_jokeOf_113 : decode cX7_jokeOf 113 = .ok (.ireturn, 1) := by decide +kernel
theorem dX7_jokeOf_114 : decode cX7_jokeOf 114 = .ok (.sipush (-1012), 3) := by decide +kernel
theorem dX7_jokeOf_117 : decode cX7_jokeOf 117 = .ok (.ireturn, 1) := by decide +kernel
theorem dX7_exempts_0 : decode cX7_exempts 0 = .ok (.iload_n 1, 1) := by decide +kernel
theorem dX7_exempts_1 : decode cX7_exempts 1 = .ok (.invokestatic 113, 3) := by decide +kernel
theorem dX7_exempts_4 : decode cX7_exempts 4 = .ok (.ifCond .ne 11, 3) := by decide +kernel
theorem dX7_exempts_7 : decode cX7_exempts 7 = .ok (.aload_n 0, 1) := by decide +kernel
theorem dX7_exempts_8 : decode cX7_exempts 8 = .ok (.sipush (-1011), 3) := by decide +kernel
theorem dX7_exempts_11 : decode cX7_exempts 11 = .ok (.invokevirtual 41, 3) := by decide +kernel
theorem dX7_exempts_14 : decode cX7_exempts 14 = .ok (.ireturn, 1) := by decide +kernel
theorem dX7_exempts_15 : decode cX7_exempts 15 = .ok (.iload_n 2, 1) := by decide +kernel
theorem dX7_exempts_16 : decode cX7_exempts 16 = .ok (.iconst 0, 1) := by decide +kernel
theorem dX7_exempts_17 : decode cX7_exempts 17 = .ok (.iconst 1, 1) := by decide +kernel
theorem dX7_exempts_18 : decode cX7_exempts 18 = .ok (.invokestatic 52, 3) := by decide +kernel
theorem dX7_exempts_21 : decode cX7_exempts 21 = .ok (.ifCond .ne 11, 3) := by decide +kernel
theorem dX7_exempts_24 : decode cX7_exempts 24 = .ok (.aload_n 0, 1) := by decide +kernel
theorem dX7_exempts_25 : decode cX7_exempts 25 = .ok (.sipush (-1012), 3) := by decide +kernel
theorem dX7_exempts_28 : decode cX7_exempts 28 = .ok (.invokevirtual 41, 3) := by decide +kernel
theorem dX7_exempts_31 : decode cX7_exempts 31 = .ok (.ireturn, 1) := by decide +kernel
theorem dX7_exempts_32 : decode cX7_exempts 32 = .ok (.aload_n 0, 1) := by decide +kernel
theorem dX7_exempts_33 : decode cX7_exempts 33 = .ok (.getfield 7, 3) := by decide +kernel
theorem dX7_exempts_36 : decode cX7_exempts 36 = .ok (.iload_n 1, 1) := by decide +kernel
theorem dX7_exempts_37 : decode cX7_exempts 37 = .ok (.iconst 0, 1) := by decide +kernel
theorem dX7_exempts_38 : decode cX7_exempts 38 = .ok (.invokestatic 116, 3) := by decide +kernel
theorem dX7_exempts_41 : decode cX7_exempts 41 = .ok (.iaload, 1) := by decide +kernel
theorem dX7_exempts_42 : decode cX7_exempts 42 = .ok (.iload_n 2, 1) := by decide +kernel
theorem dX7_exempts_43 : decode cX7_exempts 43 = .ok (.if_icmp .ne 11, 3) := by decide +kernel
theorem dX7_exempts_46 : decode cX7_exempts 46 = .ok (.aload_n 0, 1) := by decide +kernel
theorem dX7_exempts_47 : decode cX7_exempts 47 = .ok (.bipush 9, 2) := by decide +kernel
theorem dX7_exempts_49 : decode cX7_exempts 49 = .ok (.iload_n 2, 1) := by decide +kernel
theorem dX7_exempts_50 : decode cX7_exempts 50 = .ok (.invokevirtual 66, 3) := by decide +kernel
theorem dX7_exempts_53 : decode cX7_exempts 53 = .ok (.ireturn, 1) := by decide +kernel
theorem dX7_exempts_54 : decode cX7_exempts 54 = .ok (.aload_n 0, 1) := by decide +kernel
theorem dX7_exempts_55 : decode cX7_exempts 55 = .ok (.getfield 7, 3) := by decide +kernel
theorem dX7_exempts_58 : decode cX7_exempts 58 = .ok (.iload_n 1, 1) := by decide +kernel
theorem dX7_exempts_59 : decode cX7_exempts 59 = .ok (.iconst 0, 1) := by decide +kernel
theorem dX7_exempts_60 : decode cX7_exempts 60 = .ok (.invokestatic 116, 3) := by decide +kernel
theorem dX7_exempts_63 : decode cX7_exempts 63 = .ok (.iload_n 2, 1) := by decide +kernel
theorem dX7_exempts_64 : decode cX7_exempts 64 = .ok (.iastore, 1) := by decide +kernel
theorem dX7_exempts_65 : decode cX7_exempts 65 = .ok (.iconst 0, 1) := by decide +kernel
theorem dX7_exempts_66 : decode cX7_exempts 66 = .ok (.istore_n 3, 1) := by decide +kernel
theorem dX7_exempts_67 : decode cX7_exempts 67 = .ok (.iconst 0, 1) := by decide +kernel
theorem dX7_exempts_68 : decode cX7_exempts 68 = .ok (.istore 4, 2) := by decide +kernel
theorem dX7_exempts_70 : decode cX7_exempts 70 = .ok (.iload 4, 2) := by decide +kernel
theorem dX7_exempts_72 : decode cX7_exempts 72 = .ok (.iconst 4, 1) := by decide +kernel
theorem dX7_exempts_73 : decode cX7_exempts 73 = .ok (.if_icmp .ge 23, 3) := by decide +kernel
theorem dX7_exempts_76 : decode cX7_exempts 76 = .ok (.iload_n 3, 1) := by decide +kernel
theorem dX7_exempts_77 : decode cX7_exempts 77 = .ok (.aload_n 0, 1) := by decide +kernel
theorem dX7_exempts_78 : decode cX7_exempts 78 = .ok (.getfield 7, 3) := by decide +kernel
theorem dX7_exempts_81 : decode cX7_exempts 81 = .ok (.iload 4, 2) := by decide +kernel
theorem dX7_exempts_83 : decode cX7_exempts 83 = .ok (.iconst 0, 1) := by decide +kernel
theorem dX7_exempts_84 : decode cX7_exempts 84 = .ok (.invokestatic 116, 3) := by decide +kernel
theorem dX7_exempts_87 : decode cX7_exempts 87 = .ok (.iaload, 1) := by decide +kernel
theorem dX7_exempts_88 : decode cX7_exempts 88 = .ok (.iadd, 1) := by decide +kernel
theorem dX7_exempts_89 : decode cX7_exempts 89 = .ok (.istore_n 3, 1) := by decide +kernel
theorem dX7_exempts_90 : decode cX7_exempts 90 = .ok (.iinc 4 1, 3) := by decide +kernel
theorem dX7_exempts_93 : decode cX7_exempts 93 = .ok (.goto (-23), 3) := by decide +kernel
theorem dX7_exempts_96 : decode cX7_exempts 96 = .ok (.iload_n 3, 1) := by decide +kernel
theorem dX7_exempts_97 : decode cX7_exempts 97 = .ok (.ireturn, 1) := by decide +kernel
theorem dX7_exempt_0 : decode cX7_exempt 0 = .ok (.aload_n 0, 1) := by decide +kernel
theorem dX7_exempt_1 : decode cX7_exempt 1 = .ok (.invokevirtual 69, 3) := by decide +kernel
theorem dX7_exempt_4 : decode cX7_exempt 4 = .ok (.aload_n 0, 1) := by decide +kernel
theorem dX7_exempt_5 : decode cX7_exempt 5 = .ok (.aload_n 0, 1) := by decide +kernel
theorem dX7_exempt_6 : decode cX7_exempt 6 = .ok (.iload_n 1, 1) := by decide +kernel
theorem dX7_exempt_7 : decode cX7_exempt 7 = .ok (.iload_n 2, 1) := by decide +kernel
theorem dX7_exempt_8 : decode cX7_exempt 8 = .ok (.invokevirtual 119, 3) := by decide +kernel
theorem dX7_exempt_11 : decode cX7_exempt 11 = .ok (.invokevirtual 75, 3) := by decide +kernel
theorem dX7_exempt_14 : decode cX7_exempt 14 = .ok (.ireturn, 1) := by decide +kernel
theorem dX7_throneOf_0 : decode cX7_throneOf 0 = .ok (.iload_n 1, 1) := by decide +kernel
theorem dX7_throneOf_1 : decode cX7_throneOf 1 = .ok (.invokestatic 113, 3) := by decide +kernel
theorem dX7_throneOf_4 : decode cX7_throneOf 4 = .ok (.ifCond .ne 7, 3) := by decide +kernel
theorem dX7_throneOf_7 : decode cX7_throneOf 7 = .ok (.sipush (-1011), 3) := by decide +kernel
theorem dX7_throneOf_10 : decode cX7_throneOf 10 = .ok (.ireturn, 1) := by decide +kernel
theorem dX7_throneOf_11 : decode cX7_throneOf 11 = .ok (.iload_n 2, 1) := by decide +kernel
theorem dX7_throneOf_12 : decode cX7_throneOf 12 = .ok (.iconst 0, 1) := by decide +kernel
theorem dX7_throneOf_13 : decode cX7_throneOf 13 = .ok (.iconst 2, 1) := by decide +kernel
theorem dX7_throneOf_14 : decode cX7_throneOf 14 = .ok (.invokestatic 52, 3) := by decide +kernel
theorem dX7_throneOf_17 : decode cX7_throneOf 17 = .ok (.ifCond .eq 16, 3) := by decide +kernel
theorem dX7_throneOf_20 : decode cX7_throneOf 20 = .ok (.aload_n 0, 1) := by decide +kernel
theorem dX7_throneOf_21 : decode cX7_throneOf 21 = .ok (.getfield 7, 3) := by decide +kernel
theorem dX7_throneOf_24 : decode cX7_throneOf 24 = .ok (.iload_n 1, 1) := by decide +kernel
theorem dX7_throneOf_25 : decode cX7_throneOf 25 = .ok (.iload_n 2, 1) := by decide +kernel
theorem dX7_throneOf_26 : decode cX7_throneOf 26 = .ok (.invokestatic 116, 3) := by decide +kernel
theorem dX7_throneOf_29 : decode cX7_throneOf 29 = .ok (.iaload, 1) := by decide +kernel
theorem dX7_throneOf_30 : decode cX7_throneOf 30 = .ok (.goto 20, 3) := by decide +kernel
theorem dX7_throneOf_33 : decode cX7_throneOf 33 = .ok (.iload_n 2, 1) := by decide +kernel
theorem dX7_throneOf_34 : decode cX7_throneOf 34 = .ok (.iconst 3, 1) := by decide +kernel
theorem dX7_throneOf_35 : decode cX7_throneOf 35 = .ok (.if_icmp .ne 12, 3) := by decide +kernel
theorem dX7_throneOf_38 : decode cX7_throneOf 38 = .ok (.aload_n 0, 1) := by decide +kernel
theorem dX7_throneOf_39 : decode cX7_throneOf 39 = .ok (.iconst 2, 1) := by decide +kernel
theorem dX7_throneOf_40 : decode cX7_throneOf 40 = .ok (.iload_n 1, 1) := by decide +kernel
theorem dX7_throneOf_41 : decode cX7_throneOf 41 = .ok (.invokevirtual 107, 3) := by decide +kernel
theorem dX7_throneOf_44 : decode cX7_throneOf 44 = .ok (.goto 6, 3) := by decide +kernel
theorem dX7_throneOf_47 : decode cX7_throneOf 47 = .ok (.sipush (-1012), 3) := by decide +kernel
theorem dX7_throneOf_50 : decode cX7_throneOf 50 = .ok (.ireturn, 1) := by decide +kernel
theorem dX7_told_0 : decode cX7_told 0 = .ok (.aload_n 0, 1) := by decide +kernel
theorem dX7_told_1 : decode cX7_told 1 = .ok (.iload_n 1, 1) := by decide +kernel
theorem dX7_told_2 : decode cX7_told 2 = .ok (.invokevirtual 85, 3) := by decide +kernel
theorem dX7_told_5 : decode cX7_told 5 = .ok (.ifCond .eq 26, 3) := by decide +kernel
theorem dX7_told_8 : decode cX7_told 8 = .ok (.iload_n 2, 1) := by decide +kernel
theorem dX7_told_9 : decode cX7_told 9 = .ok (.invokestatic 113, 3) := by decide +kernel
theorem dX7_told_12 : decode cX7_told 12 = .ok (.ifCond .eq 19, 3) := by decide +kernel
theorem dX7_told_15 : decode cX7_told 15 = .ok (.aload_n 0, 1) := by decide +kernel
theorem dX7_told_16 : decode cX7_told 16 = .ok (.getfield 7, 3) := by decide +kernel
theorem dX7_told_19 : decode cX7_told 19 = .ok (.bipush 94, 2) := by decide +kernel
theorem dX7_told_21 : decode cX7_told 21 = .ok (.iconst 4, 1) := by decide +kernel
theorem dX7_told_22 : decode cX7_told 22 = .ok (.iload_n 1, 1) := by decide +kernel
theorem dX7_told_23 : decode cX7_told 23 = .ok (.imul, 1) := by decide +kernel
theorem dX7_told_24 : decode cX7_told 24 = .ok (.iadd, 1) := by decide +kernel
theorem dX7_told_25 : decode cX7_told 25 = .ok (.iload_n 2, 1) := by decide +kernel
theorem dX7_told_26 : decode cX7_told 26 = .ok (.iadd, 1) := by decide +kernel
theorem dX7_told_27 : decode cX7_told 27 = .ok (.iaload, 1) := by decide +kernel
theorem dX7_told_28 : decode cX7_told 28 = .ok (.goto 6, 3) := by decide +kernel
theorem dX7_told_31 : decode cX7_told 31 = .ok (.sipush (-1011), 3) := by decide +kernel
theorem dX7_told_34 : decode cX7_told 34 = .ok (.ireturn, 1) := by decide +kernel
theorem dX7_isAhead_0 : decode cX7_isAhead 0 = .ok (.aload_n 0, 1) := by decide +kernel
theorem dX7_isAhead_1 : decode cX7_isAhead 1 = .ok (.iload_n 1, 1) := by decide +kernel
theorem dX7_isAhead_2 : decode cX7_isAhead 2 = .ok (.iconst 3, 1) := by decide +kernel
theorem dX7_isAhead_3 : decode cX7_isAhead 3 = .ok (.invokevirtual 101, 3) := by decide +kernel
theorem dX7_isAhead_6 : decode cX7_isAhead 6 = .ok (.iload 4, 2) := by decide +kernel
theorem dX7_isAhead_8 : decode cX7_isAhead 8 = .ok (.isub, 1) := by decide +kernel
theorem dX7_isAhead_9 : decode cX7_isAhead 9 = .ok (.istore 5, 2) := by decide +kernel
theorem dX7_isAhead_11 : decode cX7_isAhead 11 = .ok (.iload 5, 2) := by decide +kernel
theorem dX7_isAhead_13 : decode cX7_isAhead 13 = .ok (.ifCond .eq 8, 3) := by decide +kernel
theorem dX7_isAhead_16 : decode cX7_isAhead 16 = .ok (.iload 5, 2) := by decide +kernel
theorem dX7_isAhead_18 : decode cX7_isAhead 18 = .ok (.goto 29, 3) := by decide +kernel
theorem dX7_isAhead_21 : decode cX7_isAhead 21 = .ok (.aload_n 0, 1) := by decide +kernel
theorem dX7_isAhead_22 : decode cX7_isAhead 22 = .ok (.getfield 7, 3) := by decide +kernel
theorem dX7_isAhead_25 : decode cX7_isAhead 25 = .ok (.iload_n 3, 1) := by decide +kernel
theorem dX7_isAhead_26 : decode cX7_isAhead 26 = .ok (.iconst 0, 1) := by decide +kernel
theorem dX7_isAhead_27 : decode cX7_isAhead 27 = .ok (.invokestatic 56, 3) := by decide +kernel
theorem dX7_isAhead_30 : decode cX7_isAhead 30 = .ok (.iaload, 1) := by decide +kernel
theorem dX7_isAhead_31 : decode cX7_isAhead 31 = .ok (.aload_n 0, 1) := by decide +kernel
theorem dX7_isAhead_32 : decode cX7_isAhead 32 = .ok (.getfield 7, 3) := by decide +kernel
theorem dX7_isAhead_35 : decode cX7_isAhead 35 = .ok (.aload_n 0, 1) := by decide +kernel
theorem dX7_isAhead_36 : decode cX7_isAhead 36 = .ok (.iload_n 1, 1) := by decide +kernel
theorem dX7_isAhead_37 : decode cX7_isAhead 37 = .ok (.iconst 1, 1) := by decide +kernel
theorem dX7_isAhead_38 : decode cX7_isAhead 38 = .ok (.invokevirtual 101, 3) := by decide +kernel
theorem dX7_isAhead_41 : decode cX7_isAhead 41 = .ok (.iconst 0, 1) := by decide +kernel
theorem dX7_isAhead_42 : decode cX7_isAhead 42 = .ok (.invokestatic 56, 3) := by decide +kernel
theorem dX7_isAhead_45 : decode cX7_isAhead 45 = .ok (.iaload, 1) := by decide +kernel
theorem dX7_isAhead_46 : decode cX7_isAhead 46 = .ok (.isub, 1) := by decide +kernel
theorem dX7_isAhead_47 : decode cX7_isAhead 47 = .ok (.istore 5, 2) := by decide +kernel
theorem dX7_isAhead_49 : decode cX7_isAhead 49 = .ok (.iload 5, 2) := by decide +kernel
theorem dX7_isAhead_51 : decode cX7_isAhead 51 = .ok (.ifCond .eq 8, 3) := by decide +kernel
theorem dX7_isAhead_54 : decode cX7_isAhead 54 = .ok (.iload 5, 2) := by decide +kernel
theorem dX7_isAhead_56 : decode cX7_isAhead 56 = .ok (.goto 11, 3) := by decide +kernel
theorem dX7_isAhead_59 : decode cX7_isAhead 59 = .ok (.aload_n 0, 1) := by decide +kernel
theorem dX7_isAhead_60 : decode cX7_isAhead 60 = .ok (.iload_n 1, 1) := by decide +kernel
theorem dX7_isAhead_61 : decode cX7_isAhead 61 = .ok (.iconst 0, 1) := by decide +kernel
theorem dX7_isAhead_62 : decode cX7_isAhead 62 = .ok (.invokevirtual 101, 3) := by decide +kernel
theorem dX7_isAhead_65 : decode cX7_isAhead 65 = .ok (.iload_n 2, 1) := by decide +kernel
theorem dX7_isAhead_66 : decode cX7_isAhead 66 = .ok (.isub, 1) := by decide +kernel
theorem dX7_isAhead_67 : decode cX7_isAhead 67 = .ok (.istore 5, 2) := by decide +kernel
theorem dX7_isAhead_69 : decode cX7_isAhead 69 = .ok (.iload 5, 2) := by decide +kernel
theorem dX7_isAhead_71 : decode cX7_isAhead 71 = .ok (.ifCond .ge 7, 3) := by decide +kernel
theorem dX7_isAhead_74 : decode cX7_isAhead 74 = .ok (.iconst 1, 1) := by decide +kernel
theorem dX7_isAhead_75 : decode cX7_isAhead 75 = .ok (.goto 4, 3) := by decide +kernel
theorem dX7_isAhead_78 : decode cX7_isAhead 78 = .ok (.iconst 0, 1) := by decide +kernel
theorem dX7_isAhead_79 : decode cX7_isAhead 79 = .ok (.ireturn, 1) := by decide +kernel
theorem dX7_jokeFor_0 : decode cX7_jokeFor 0 = .ok (.iconst 0, 1) := by decide +kernel
theorem dX7_jokeFor_1 : decode cX7_jokeFor 1 = .ok (.istore_n 3, 1) := by decide +kernel
theorem dX7_jokeFor_2 : decode cX7_jokeFor 2 = .ok (.iload_n 3, 1) := by decide +kernel
theorem dX7_jokeFor_3 : decode cX7_jokeFor 3 = .ok (.aload_n 0, 1) := by decide +kernel
theorem dX7_jokeFor_4 : decode cX7_jokeFor 4 = .ok (.getfield 7, 3) := by decide +kernel
theorem dX7_jokeFor_7 : decode cX7_jokeFor 7 = .ok (.iconst 2, 1) := by decide +kernel
theorem dX7_jokeFor_8 : decode cX7_jokeFor 8 = .ok (.iaload, 1) := by decide +kernel
theorem dX7_jokeFor_9 : decode cX7_jokeFor 9 = .ok (.if_icmp .ge 36, 3) := by decide +kernel
theorem dX7_jokeFor_12 : decode cX7_jokeFor 12 = .ok (.aload_n 0, 1) := by decide +kernel
theorem dX7_jokeFor_13 : decode cX7_jokeFor 13 = .ok (.iload_n 3, 1) := by decide +kernel
theorem dX7_jokeFor_14 : decode cX7_jokeFor 14 = .ok (.iconst 0, 1) := by decide +kernel
theorem dX7_jokeFor_15 : decode cX7_jokeFor 15 = .ok (.invokevirtual 101, 3) := by decide +kernel
theorem dX7_jokeFor_18 : decode cX7_jokeFor 18 = .ok (.iload_n 1, 1) := by decide +kernel
theorem dX7_jokeFor_19 : decode cX7_jokeFor 19 = .ok (.if_icmp .ne 20, 3) := by decide +kernel
theorem dX7_jokeFor_22 : decode cX7_jokeFor 22 = .ok (.aload_n 0, 1) := by decide +kernel
theorem dX7_jokeFor_23 : decode cX7_jokeFor 23 = .ok (.iload_n 3, 1) := by decide +kernel
theorem dX7_jokeFor_24 : decode cX7_jokeFor 24 = .ok (.iconst 3, 1) := by decide +kernel
theorem dX7_jokeFor_25 : decode cX7_jokeFor 25 = .ok (.invokevirtual 101, 3) := by decide +kernel
theorem dX7_jokeFor_28 : decode cX7_jokeFor 28 = .ok (.iload_n 2, 1) := by decide +kernel
theorem dX7_jokeFor_29 : decode cX7_jokeFor 29 = .ok (.if_icmp .ne 10, 3) := by decide +kernel
theorem dX7_jokeFor_32 : decode cX7_jokeFor 32 = .ok (.aload_n 0, 1) := by decide +kernel
theorem dX7_jokeFor_33 : decode cX7_jokeFor 33 = .ok (.iload_n 3, 1) := by decide +kernel
theorem dX7_jokeFor_34 : decode cX7_jokeFor 34 = .ok (.iconst 1, 1) := by decide +kernel
theorem dX7_jokeFor_35 : decode cX7_jokeFor 35 = .ok (.invokevirtual 101, 3) := by decide +kernel
theorem dX7_jokeFor_38 : decode cX7_jokeFor 38 = .ok (.ireturn, 1) := by decide +kernel
theorem dX7_jokeFor_39 : decode cX7_jokeFor 39 = .ok (.iinc 3 1, 3) := by decide +kernel
theorem dX7_jokeFor_42 : decode cX7_jokeFor 42 = .ok (.goto (-40), 3) := by decide +kernel
theorem dX7_jokeFor_45 : decode cX7_jokeFor 45 = .ok (.iconst (-1), 1) := by decide +kernel
theorem dX7_jokeFor_46 : decode cX7_jokeFor 46 = .ok (.ireturn, 1) := by decide +kernel
theorem dX7_books_0 : decode cX7_books 0 = .ok (.aload_n 0, 1) := by decide +kernel
theorem dX7_books_1 : decode cX7_books 1 = .ok (.iload_n 1, 1) := by decide +kernel
theorem dX7_books_2 : decode cX7_books 2 = .ok (.invokevirtual 81, 3) := by decide +kernel
theorem dX7_books_5 : decode cX7_books 5 = .ok (.ifCond .eq 18, 3) := by decide +kernel
theorem dX7_books_8 : decode cX7_books 8 = .ok (.aload_n 0, 1) := by decide +kernel
theorem dX7_books_9 : decode cX7_books 9 = .ok (.iload_n 2, 1) := by decide +kernel
theorem dX7_books_10 : decode cX7_books 10 = .ok (.invokevirtual 85, 3) := by decide +kernel
theorem dX7_books_13 : decode cX7_books 13 = .ok (.ifCond .eq 10, 3) := by decide +kernel
theorem dX7_books_16 : decode cX7_books 16 = .ok (.iload_n 3, 1) := by decide +kernel
theorem dX7_books_17 : decode cX7_books 17 = .ok (.invokestatic 113, 3) := by decide +kernel
theorem dX7_books_20 : decode cX7_books 20 = .ok (.ifCond .ne 11, 3) := by decide +kernel
theorem dX7_books_23 : decode cX7_books 23 = .ok (.aload_n 0, 1) := by decide +kernel
theorem dX7_books_24 : decode cX7_books 24 = .ok (.sipush (-1011), 3) := by decide +kernel
theorem dX7_books_27 : decode cX7_books 27 = .ok (.invokevirtual 41, 3) := by decide +kernel
theorem dX7_books_30 : decode cX7_books 30 = .ok (.ireturn, 1) := by decide +kernel
theorem dX7_books_31 : decode cX7_books 31 = .ok (.iload 4, 2) := by decide +kernel
theorem dX7_books_33 : decode cX7_books 33 = .ok (.iconst 0, 1) := by decide +kernel
theorem dX7_books_34 : decode cX7_books 34 = .ok (.bipush 99, 2) := by decide +kernel
theorem dX7_books_36 : decode cX7_books 36 = .ok (.invokestatic 52, 3) := by decide +kernel
theorem dX7_books_39 : decode cX7_books 39 = .ok (.ifCond .ne 11, 3) := by decide +kernel
theorem dX7_books_42 : decode cX7_books 42 = .ok (.aload_n 0, 1) := by decide +kernel
theorem dX7_books_43 : decode cX7_books 43 = .ok (.sipush (-1012), 3) := by decide +kernel
theorem dX7_books_46 : decode cX7_books 46 = .ok (.invokevirtual 41, 3) := by decide +kernel
theorem dX7_books_49 : decode cX7_books 49 = .ok (.ireturn, 1) := by decide +kernel
theorem dX7_books_50 : decode cX7_books 50 = .ok (.aload_n 0, 1) := by decide +kernel
theorem dX7_books_51 : decode cX7_books 51 = .ok (.getfield 7, 3) := by decide +kernel
theorem dX7_books_54 : decode cX7_books 54 = .ok (.iconst 2, 1) := by decide +kernel
theorem dX7_books_55 : decode cX7_books 55 = .ok (.iaload, 1) := by decide +kernel
theorem dX7_books_56 : decode cX7_books 56 = .ok (.istore 5, 2) := by decide +kernel
theorem dX7_books_58 : decode cX7_books 58 = .ok (.aload_n 0, 1) := by decide +kernel
theorem dX7_books_59 : decode cX7_books 59 = .ok (.iload_n 1, 1) := by decide +kernel
theorem dX7_books_60 : decode cX7_books 60 = .ok (.iload 4, 2) := by decide +kernel
theorem dX7_books_62 : decode cX7_books 62 = .ok (.invokevirtual 122, 3) := by decide +kernel
theorem dX7_books_65 : decode cX7_books 65 = .ok (.istore 6, 2) := by decide +kernel
theorem dX7_books_67 : decode cX7_books 67 = .ok (.iload 4, 2) := by decide +kernel
theorem dX7_books_69 : decode cX7_books 69 = .ok (.aload_n 0, 1) := by decide +kernel
theorem dX7_books_70 : decode cX7_books 70 = .ok (.getfield 7, 3) := by decide +kernel
theorem dX7_books_73 : decode cX7_books 73 = .ok (.iconst 3, 1) := by decide +kernel
theorem dX7_books_74 : decode cX7_books 74 = .ok (.iaload, 1) := by decide +kernel
theorem dX7_books_75 : decode cX7_books 75 = .ok (.if_icmp .ge 15, 3) := by decide +kernel
theorem dX7_books_78 : decode cX7_books 78 = .ok (.aload_n 0, 1) := by decide +kernel
theorem dX7_books_79 : decode cX7_books 79 = .ok (.iconst 2, 1) := by decide +kernel
theorem dX7_books_80 : decode cX7_books 80 = .ok (.aload_n 0, 1) := by decide +kernel
theorem dX7_books_81 : decode cX7_books 81 = .ok (.getfield 7, 3) := by decide +kernel
theorem dX7_books_84 : decode cX7_books 84 = .ok (.iconst 3, 1) := by decide +kernel
theorem dX7_books_85 : decode cX7_books 85 = .ok (.iaload, 1) := by decide +kernel
theorem dX7_books_86 : decode cX7_books 86 = .ok (.invokevirtual 66, 3) := by decide +kernel
theorem dX7_books_89 : decode cX7_books 89 = .ok (.ireturn, 1) := by decide +kernel
theorem dX7_books_90 : decode cX7_books 90 = .ok (.aload_n 0, 1) := by decide +kernel
theorem dX7_books_91 : decode cX7_books 91 = .ok (.getfield 7, 3) := by decide +kernel
theorem dX7_books_94 : decode cX7_books 94 = .ok (.iload_n 3, 1) := by decide +kernel
theorem dX7_books_95 : decode cX7_books 95 = .ok (.iconst 0, 1) := by decide +kernel
theorem dX7_books_96 : decode cX7_books 96 = .ok (.invokestatic 116, 3) := by decide +kernel
theorem dX7_books_99 : decode cX7_books 99 = .ok (.iaload, 1) := by decide +kernel
theorem dX7_books_100 : decode cX7_books 100 = .ok (.iconst 1, 1) := by decide +kernel
theorem dX7_books_101 : decode cX7_books 101 = .ok (.if_icmp .ne 10, 3) := by decide +kernel
theorem dX7_books_104 : decode cX7_books 104 = .ok (.aload_n 0, 1) := by decide +kernel
theorem dX7_books_105 : decode cX7_books 105 = .ok (.iconst 4, 1) := by decide +kernel
theorem dX7_books_106 : decode cX7_books 106 = .ok (.iload_n 3, 1) := by decide +kernel
theorem dX7_books_107 : decode cX7_books 107 = .ok (.invokevirtual 66, 3) := by decide +kernel
theorem dX7_books_110 : decode cX7_books 110 = .ok (.ireturn, 1) := by decide +kernel
theorem dX7_books_111 : decode cX7_books 111 = .ok (.aload_n 0, 1) := by decide +kernel
theorem dX7_books_112 : decode cX7_books 112 = .ok (.iload_n 1, 1) := by decide +kernel
theorem dX7_books_113 : decode cX7_books 113 = .ok (.iload_n 2, 1) := by decide +kernel
theorem dX7_books_114 : decode cX7_books 114 = .ok (.invokevirtual 125, 3) := by decide +kernel
theorem dX7_books_117 : decode cX7_books 117 = .ok (.ifCond .eq 14, 3) := by decide +kernel
theorem dX7_books_120 : decode cX7_books 120 = .ok (.aload_n 0, 1) := by decide +kernel
theorem dX7_books_121 : decode cX7_books 121 = .ok (.iconst 3, 1) := by decide +kernel
theorem dX7_books_122 : decode cX7_books 122 = .ok (.aload_n 0, 1) := by decide +kernel
theorem dX7_books_123 : decode cX7_books 123 = .ok (.iload_n 2, 1) := by decide +kernel
theorem dX7_books_124 : decode cX7_books 124 = .ok (.invokevirtual 60, 3) := by decide +kernel
theorem dX7_books_127 : decode cX7_books 127 = .ok (.invokevirtual 66, 3) := by decide +kernel
theorem dX7_books_130 : decode cX7_books 130 = .ok (.ireturn, 1) := by decide +kernel
theorem dX7_books_131 : decode cX7_books 131 = .ok (.iload 6, 2) := by decide +kernel
theorem dX7_books_133 : decode cX7_books 133 = .ok (.ifCond .lt 11, 3) := by decide +kernel
theorem dX7_books_136 : decode cX7_books 136 = .ok (.aload_n 0, 1) := by decide +kernel
theorem dX7_books_137 : decode cX7_books 137 = .ok (.iconst 5, 1) := by decide +kernel
theorem dX7_books_138 : decode cX7_books 138 = .ok (.iload 6, 2) := by decide +kernel
theorem dX7_books_140 : decode cX7_books 140 = .ok (.invokevirtual 66, 3) := by decide +kernel
theorem dX7_books_143 : decode cX7_books 143 = .ok (.ireturn, 1) := by decide +kernel
theorem dX7_books_144 : decode cX7_books 144 = .ok (.iload 5, 2) := by decide +kernel
theorem dX7_books_146 : decode cX7_books 146 = .ok (.bipush 10, 2) := by decide +kernel
theorem dX7_books_148 : decode cX7_books 148 = .ok (.if_icmp .ne 11, 3) := by decide +kernel
theorem dX7_books_151 : decode cX7_books 151 = .ok (.aload_n 0, 1) := by decide +kernel
theorem dX7_books_152 : decode cX7_books 152 = .ok (.iconst 1, 1) := by decide +kernel
theorem dX7_books_153 : decode cX7_books 153 = .ok (.bipush 10, 2) := by decide +kernel
theorem dX7_books_155 : decode cX7_books 155 = .ok (.invokevirtual 66, 3) := by decide +kernel
theorem dX7_books_158 : decode cX7_books 158 = .ok (.ireturn, 1) := by decide +kernel
theorem dX7_books_159 : decode cX7_books 159 = .ok (.iload 5, 2) := by decide +kernel
theorem dX7_books_161 : decode cX7_books 161 = .ok (.ifCond .le 73, 3) := by decide +kernel
theorem dX7_books_164 : decode cX7_books 164 = .ok (.aload_n 0, 1) := by decide +kernel
theorem dX7_books_165 : decode cX7_books 165 = .ok (.iload 5, 2) := by decide +kernel
theorem dX7_books_167 : decode cX7_books 167 = .ok (.iconst 1, 1) := by decide +kernel
theorem dX7_books_168 : decode cX7_books 168 = .ok (.isub, 1) := by decide +kernel
theorem dX7_books_169 : decode cX7_books 169 = .ok (.iload_n 1, 1) := by decide +kernel
theorem dX7_books_170 : decode cX7_books 170 = .ok (.iload_n 2, 1) := by decide +kernel
theorem dX7_books_171 : decode cX7_books 171 = .ok (.iload 4, 2) := by decide +kernel
theorem dX7_books_173 : decode cX7_books 173 = .ok (.invokevirtual 129, 3) := by decide +kernel
theorem dX7_books_176 : decode cX7_books 176 = .ok (.ifCond .ne 58, 3) := by decide +kernel
theorem dX7_books_179 : decode cX7_books 179 = .ok (.iconst 0, 1) := by decide +kernel
theorem dX7_books_180 : decode cX7_books 180 = .ok (.istore 7, 2) := by decide +kernel
theorem dX7_books_182 : decode cX7_books 182 = .ok (.iload 7, 2) := by decide +kernel
theorem dX7_books_184 : decode cX7_books 184 = .ok (.iconst 4, 1) := by decide +kernel
theorem dX7_books_185 : decode cX7_books 185 = .ok (.if_icmp .ge 43, 3) := by decide +kernel
theorem dX7_books_188 : decode cX7_books 188 = .ok (.aload_n 0, 1) := by decide +kernel
theorem dX7_books_189 : decode cX7_books 189 = .ok (.getfield 7, 3) := by decide +kernel
theorem dX7_books_192 : decode cX7_books 192 = .ok (.sipush 142, 3) := by decide +kernel
theorem dX7_books_195 : decode cX7_books 195 = .ok (.iconst 4, 1) := by decide +kernel
theorem dX7_books_196 : decode cX7_books 196 = .ok (.iload 5, 2) := by decide +kernel
theorem dX7_books_198 : decode cX7_books 198 = .ok (.imul, 1) := by decide +kernel
theorem dX7_books_199 : decode cX7_books 199 = .ok (.iadd, 1) := by decide +kernel
theorem dX7_books_200 : decode cX7_books 200 = .ok (.iload 7, 2) := by decide +kernel
theorem dX7_books_202 : decode cX7_books 202 = .ok (.iadd, 1) := by decide +kernel
theorem dX7_books_203 : decode cX7_books 203 = .ok (.aload_n 0, 1) := by decide +kernel
theorem dX7_books_204 : decode cX7_books 204 = .ok (.getfield 7, 3) := by decide +kernel
theorem dX7_books_207 : decode cX7_books 207 = .ok (.sipush 142, 3) := by decide +kernel
theorem dX7_books_210 : decode cX7_books 210 = .ok (.iconst 4, 1) := by decide +kernel
theorem dX7_books_211 : decode cX7_books 211 = .ok (.iload 5, 2) := by decide +kernel
theorem dX7_books_213 : decode cX7_books 213 = .ok (.imul, 1) := by decide +kernel
theorem dX7_books_214 : decode cX7_books 214 = .ok (.iadd, 1) := by decide +kernel
theorem dX7_books_215 : decode cX7_books 215 = .ok (.iconst 4, 1) := by decide +kernel
theorem dX7_books_216 : decode cX7_books 216 = .ok (.isub, 1) := by decide +kernel
theorem dX7_books_217 : decode cX7_books 217 = .ok (.iload 7, 2) := by decide +kernel
theorem dX7_books_219 : decode cX7_books 219 = .ok (.iadd, 1) := by decide +kernel
theorem dX7_books_220 : decode cX7_books 220 = .ok (.iaload, 1) := by decide +kernel
theorem dX7_books_221 : decode cX7_books 221 = .ok (.iastore, 1) := by decide +kernel
theorem dX7_books_222 : decode cX7_books 222 = .ok (.iinc 7 1, 3) := by decide +kernel
theorem dX7_books_225 : decode cX7_books 225 = .ok (.goto (-43), 3) := by decide +kernel
theorem dX7_books_228 : decode cX7_books 228 = .ok (.iinc 5 (-1), 3) := by decide +kernel
theorem dX7_books_231 : decode cX7_books 231 = .ok (.goto (-72), 3) := by decide +kernel
theorem dX7_books_234 : decode cX7_books 234 = .ok (.aload_n 0, 1) := by decide +kernel
theorem dX7_books_235 : decode cX7_books 235 = .ok (.getfield 7, 3) := by decide +kernel
theorem dX7_books_238 : decode cX7_books 238 = .ok (.sipush 142, 3) := by decide +kernel
theorem dX7_books_241 : decode cX7_books 241 = .ok (.iconst 4, 1) := by decide +kernel
theorem dX7_books_242 : decode cX7_books 242 = .ok (.iload 5, 2) := by decide +kernel
theorem dX7_books_244 : decode cX7_books 244 = .ok (.imul, 1) := by decide +kernel
theorem dX7_books_245 : decode cX7_books 245 = .ok (.iadd, 1) := by decide +kernel
theorem dX7_books_246 : decode cX7_books 246 = .ok (.iload_n 1, 1) := by decide +kernel
theorem dX7_books_247 : decode cX7_books 247 = .ok (.iastore, 1) := by decide +kernel
theorem dX7_books_248 : decode cX7_books 248 = .ok (.aload_n 0, 1) := by decide +kernel
theorem dX7_books_249 : decode cX7_books 249 = .ok (.getfield 7, 3) := by decide +kernel
theorem dX7_books_252 : decode cX7_books 252 = .ok (.sipush 142, 3) := by decide +kernel
theorem dX7_books_255 : decode cX7_books 255 = .ok (.iconst 4, 1) := by decide +kernel
theorem dX7_books_256 : decode cX7_books 256 = .ok (.iload 5, 2) := by decide +kernel
theorem dX7_books_258 : decode cX7_books 258 = .ok (.imul, 1) := by decide +kernel
theorem dX7_books_259 : decode cX7_books 259 = .ok (.iadd, 1) := by decide +kernel
theorem dX7_books_260 : decode cX7_books 260 = .ok (.iconst 1, 1) := by decide +kernel
theorem dX7_books_261 : decode cX7_books 261 = .ok (.iadd, 1) := by decide +kernel
theorem dX7_books_262 : decode cX7_books 262 = .ok (.iload_n 2, 1) := by decide +kernel
theorem dX7_books_263 : decode cX7_books 263 = .ok (.iastore, 1) := by decide +kernel
theorem dX7_books_264 : decode cX7_books 264 = .ok (.aload_n 0, 1) := by decide +kernel
theorem dX7_books_265 : decode cX7_books 265 = .ok (.getfield 7, 3) := by decide +kernel
theorem dX7_books_268 : decode cX7_books 268 = .ok (.sipush 142, 3) := by decide +kernel
theorem dX7_books_271 : decode cX7_books 271 = .ok (.iconst 4, 1) := by decide +kernel
theorem dX7_books_272 : decode cX7_books 272 = .ok (.iload 5, 2) := by decide +kernel
theorem dX7_books_274 : decode cX7_books 274 = .ok (.imul, 1) := by decide +kernel
theorem dX7_books_275 : decode cX7_books 275 = .ok (.iadd, 1) := by decide +kernel
theorem dX7_books_276 : decode cX7_books 276 = .ok (.iconst 2, 1) := by decide +kernel
theorem dX7_books_277 : decode cX7_books 277 = .ok (.iadd, 1) := by decide +kernel
theorem dX7_books_278 : decode cX7_books 278 = .ok (.iload_n 3, 1) := by decide +kernel
theorem dX7_books_279 : decode cX7_books 279 = .ok (.iastore, 1) := by decide +kernel
theorem dX7_books_280 : decode cX7_books 280 = .ok (.aload_n 0, 1) := by decide +kernel
theorem dX7_books_281 : decode cX7_books 281 = .ok (.getfield 7, 3) := by decide +kernel
theorem dX7_books_284 : decode cX7_books 284 = .ok (.sipush 142, 3) := by decide +kernel
theorem dX7_books_287 : decode cX7_books 287 = .ok (.iconst 4, 1) := by decide +kernel
theorem dX7_books_288 : decode cX7_books 288 = .ok (.iload 5, 2) := by decide +kernel
theorem dX7_books_290 : decode cX7_books 290 = .ok (.imul, 1) := by decide +kernel
theorem dX7_books_291 : decode cX7_books 291 = .ok (.iadd, 1) := by decide +kernel
theorem dX7_books_292 : decode cX7_books 292 = .ok (.iconst 3, 1) := by decide +kernel
theorem dX7_books_293 : decode cX7_books 293 = .ok (.iadd, 1) := by decide +kernel
theorem dX7_books_294 : decode cX7_books 294 = .ok (.iload 4, 2) := by decide +kernel
theorem dX7_books_296 : decode cX7_books 296 = .ok (.iastore, 1) := by decide +kernel
theorem dX7_books_297 : decode cX7_books 297 = .ok (.aload_n 0, 1) := by decide +kernel
theorem dX7_books_298 : decode cX7_books 298 = .ok (.getfield 7, 3) := by decide +kernel
theorem dX7_books_301 : decode cX7_books 301 = .ok (.iconst 2, 1) := by decide +kernel
theorem dX7_books_302 : decode cX7_books 302 = .ok (.dup2, 1) := by decide +kernel
theorem dX7_books_303 : decode cX7_books 303 = .ok (.iaload, 1) := by decide +kernel
theorem dX7_books_304 : decode cX7_books 304 = .ok (.iconst 1, 1) := by decide +kernel
theorem dX7_books_305 : decode cX7_books 305 = .ok (.iadd, 1) := by decide +kernel
theorem dX7_books_306 : decode cX7_books 306 = .ok (.iastore, 1) := by decide +kernel
theorem dX7_books_307 : decode cX7_books 307 = .ok (.iload 5, 2) := by decide +kernel
theorem dX7_books_309 : decode cX7_books 309 = .ok (.ireturn, 1) := by decide +kernel
theorem dX7_book_0 : decode cX7_book 0 = .ok (.aload_n 0, 1) := by decide +kernel
theorem dX7_book_1 : decode cX7_book 1 = .ok (.invokevirtual 69, 3) := by decide +kernel
theorem dX7_book_4 : decode cX7_book 4 = .ok (.aload_n 0, 1) := by decide +kernel
theorem dX7_book_5 : decode cX7_book 5 = .ok (.aload_n 0, 1) := by decide +kernel
theorem dX7_book_6 : decode cX7_book 6 = .ok (.iload_n 1, 1) := by decide +kernel
theorem dX7_book_7 : decode cX7_book 7 = .ok (.iload_n 2, 1) := by decide +kernel
theorem dX7_book_8 : decode cX7_book 8 = .ok (.iload_n 3, 1) := by decide +kernel
theorem dX7_book_9 : decode cX7_book 9 = .ok (.iload 4, 2) := by decide +kernel
theorem dX7_book_11 : decode cX7_book 11 = .ok (.invokevirtual 133, 3) := by decide +kernel
theorem dX7_book_14 : decode cX7_book 14 = .ok (.invokevirtual 75, 3) := by decide +kernel
theorem dX7_book_17 : decode cX7_book 17 = .ok (.ireturn, 1) := by decide +kernel
theorem dX7_laughs_0 : decode cX7_laughs 0 = .ok (.aload_n 0, 1) := by decide +kernel
theorem dX7_laughs_1 : decode cX7_laughs 1 = .ok (.getfield 7, 3) := by decide +kernel
theorem dX7_laughs_4 : decode cX7_laughs 4 = .ok (.iload_n 2, 1) := by decide +kernel
theorem dX7_laughs_5 : decode cX7_laughs 5 = .ok (.iconst 0, 1) := by decide +kernel
theorem dX7_laughs_6 : decode cX7_laughs 6 = .ok (.invokestatic 56, 3) := by decide +kernel
theorem dX7_laughs_9 : decode cX7_laughs 9 = .ok (.iaload, 1) := by decide +kernel
theorem dX7_laughs_10 : decode cX7_laughs 10 = .ok (.aload_n 0, 1) := by decide +kernel
theorem dX7_laughs_11 : decode cX7_laughs 11 = .ok (.getfield 7, 3) := by decide +kernel
theorem dX7_laughs_14 : decode cX7_laughs 14 = .ok (.iload_n 1, 1) := by decide +kernel
theorem dX7_laughs_15 : decode cX7_laughs 15 = .ok (.iconst 0, 1) := by decide +kernel
theorem dX7_laughs_16 : decode cX7_laughs 16 = .ok (.invokestatic 63, 3) := by decide +kernel
theorem dX7_laughs_19 : decode cX7_laughs 19 = .ok (.iaload, 1) := by decide +kernel
theorem dX7_laughs_20 : decode cX7_laughs 20 = .ok (.iadd, 1) := by decide +kernel
theorem dX7_laughs_21 : decode cX7_laughs 21 = .ok (.iconst 2, 1) := by decide +kernel
theorem dX7_laughs_22 : decode cX7_laughs 22 = .ok (.aload_n 0, 1) := by decide +kernel
theorem dX7_laughs_23 : decode cX7_laughs 23 = .ok (.getfield 7, 3) := by decide +kernel
theorem dX7_laughs_26 : decode cX7_laughs 26 = .ok (.bipush 94, 2) := by decide +kernel
theorem dX7_laughs_28 : decode cX7_laughs 28 = .ok (.iconst 4, 1) := by decide +kernel
theorem dX7_laughs_29 : decode cX7_laughs 29 = .ok (.iload_n 2, 1) := by decide +kernel
theorem dX7_laughs_30 : decode cX7_laughs 30 = .ok (.imul, 1) := by decide +kernel
theorem dX7_laughs_31 : decode cX7_laughs 31 = .ok (.iadd, 1) := by decide +kernel
theorem dX7_laughs_32 : decode cX7_laughs 32 = .ok (.iload_n 3, 1) := by decide +kernel
theorem dX7_laughs_33 : decode cX7_laughs 33 = .ok (.iadd, 1) := by decide +kernel
theorem dX7_laughs_34 : decode cX7_laughs 34 = .ok (.iaload, 1) := by decide +kernel
theorem dX7_laughs_35 : decode cX7_laughs 35 = .ok (.imul, 1) := by decide +kernel
theorem dX7_laughs_36 : decode cX7_laughs 36 = .ok (.isub, 1) := by decide +kernel
theorem dX7_laughs_37 : decode cX7_laughs 37 = .ok (.istore 4, 2) := by decide +kernel
theorem dX7_laughs_39 : decode cX7_laughs 39 = .ok (.iload 4, 2) := by decide +kernel
theorem dX7_laughs_41 : decode cX7_laughs 41 = .ok (.ifCond .ge 7, 3) := by decide +kernel
theorem dX7_laughs_44 : decode cX7_laughs 44 = .ok (.iconst 0, 1) := by decide +kernel
theorem dX7_laughs_45 : decode cX7_laughs 45 = .ok (.goto 5, 3) := by decide +kernel
theorem dX7_laughs_48 : decode cX7_laughs 48 = .ok (.iload 4, 2) := by decide +kernel
theorem dX7_laughs_50 : decode cX7_laughs 50 = .ok (.ireturn, 1) := by decide +kernel
theorem dX7_slips_0 : decode cX7_slips 0 = .ok (.aload_n 0, 1) := by decide +kernel
theorem dX7_slips_1 : decode cX7_slips 1 = .ok (.getfield 7, 3) := by decide +kernel
theorem dX7_slips_4 : decode cX7_slips 4 = .ok (.bipush 8, 2) := by decide +kernel
theorem dX7_slips_6 : decode cX7_slips 6 = .ok (.dup2, 1) := by decide +kernel
theorem dX7_slips_7 : decode cX7_slips 7 = .ok (.iaload, 1) := by decide +kernel
theorem dX7_slips_8 : decode cX7_slips 8 = .ok (.iconst 1, 1) := by decide +kernel
theorem dX7_slips_9 : decode cX7_slips 9 = .ok (.iadd, 1) := by decide +kernel
theorem dX7_slips_10 : decode cX7_slips 10 = .ok (.iastore, 1) := by decide +kernel
theorem dX7_slips_11 : decode cX7_slips 11 = .ok (.aload_n 0, 1) := by decide +kernel
theorem dX7_slips_12 : decode cX7_slips 12 = .ok (.getfield 7, 3) := by decide +kernel
theorem dX7_slips_15 : decode cX7_slips 15 = .ok (.iload_n 1, 1) := by decide +kernel
theorem dX7_slips_16 : decode cX7_slips 16 = .ok (.iconst 5, 1) := by decide +kernel
theorem dX7_slips_17 : decode cX7_slips 17 = .ok (.invokestatic 63, 3) := by decide +kernel
theorem dX7_slips_20 : decode cX7_slips 20 = .ok (.dup2, 1) := by decide +kernel
theorem dX7_slips_21 : decode cX7_slips 21 = .ok (.iaload, 1) := by decide +kernel
theorem dX7_slips_22 : decode cX7_slips 22 = .ok (.iconst 1, 1) := by decide +kernel
theorem dX7_slips_23 : decode cX7_slips 23 = .ok (.iadd, 1) := by decide +kernel
theorem dX7_slips_24 : decode cX7_slips 24 = .ok (.iastore, 1) := by decide +kernel
theorem dX7_slips_25 : decode cX7_slips 25 = .ok (.aload_n 0, 1) := by decide +kernel
theorem dX7_slips_26 : decode cX7_slips 26 = .ok (.getfield 7, 3) := by decide +kernel
theorem dX7_slips_29 : decode cX7_slips 29 = .ok (.iload_n 1, 1) := by decide +kernel
theorem dX7_slips_30 : decode cX7_slips 30 = .ok (.iconst 3, 1) := by decide +kernel
theorem dX7_slips_31 : decode cX7_slips 31 = .ok (.invokestatic 63, 3) := by decide +kernel
theorem dX7_slips_34 : decode cX7_slips 34 = .ok (.iaload, 1) := by decide +kernel
theorem dX7_slips_35 : decode cX7_slips 35 = .ok (.ifCond .le 18, 3) := by decide +kernel
theorem dX7_slips_38 : decode cX7_slips 38 = .ok (.aload_n 0, 1) := by decide +kernel
theorem dX7_slips_39 : decode cX7_slips 39 = .ok (.getfield 7, 3) := by decide +kernel
theorem dX7_slips_42 : decode cX7_slips 42 = .ok (.iload_n 1, 1) := by decide +kernel
theorem dX7_slips_43 : decode cX7_slips 43 = .ok (.iconst 3, 1) := by decide +kernel
theorem dX7_slips_44 : decode cX7_slips 44 = .ok (.invokestatic 63, 3) := by decide +kernel
theorem dX7_slips_47 : decode cX7_slips 47 = .ok (.dup2, 1) := by decide +kernel
theorem dX7_slips_48 : decode cX7_slips 48 = .ok (.iaload, 1) := by decide +kernel
theorem dX7_slips_49 : decode cX7_slips 49 = .ok (.iconst 1, 1) := by decide +kernel
theorem dX7_slips_50 : decode cX7_slips 50 = .ok (.isub, 1) := by decide +kernel
theorem dX7_slips_51 : decode cX7_slips 51 = .ok (.iastore, 1) := by decide +kernel
theorem dX7_slips_52 : decode cX7_slips 52 = .ok (.return_, 1) := by decide +kernel
theorem dX7_slips_53 : decode cX7_slips 53 = .ok (.aload_n 0, 1) := by decide +kernel
theorem dX7_slips_54 : decode cX7_slips 54 = .ok (.getfield 7, 3) := by decide +kernel
theorem dX7_slips_57 : decode cX7_slips 57 = .ok (.iconst 5, 1) := by decide +kernel
theorem dX7_slips_58 : decode cX7_slips 58 = .ok (.dup2, 1) := by decide +kernel
theorem dX7_slips_59 : decode cX7_slips 59 = .ok (.iaload, 1) := by decide +kernel
theorem dX7_slips_60 : decode cX7_slips 60 = .ok (.aload_n 0, 1) := by decide +kernel
theorem dX7_slips_61 : decode cX7_slips 61 = .ok (.iload_n 1, 1) := by decide +kernel
theorem dX7_slips_62 : decode cX7_slips 62 = .ok (.iconst 3, 1) := by decide +kernel
theorem dX7_slips_63 : decode cX7_slips 63 = .ok (.invokevirtual 88, 3) := by decide +kernel
theorem dX7_slips_66 : decode cX7_slips 66 = .ok (.iadd, 1) := by decide +kernel
theorem dX7_slips_67 : decode cX7_slips 67 = .ok (.iastore, 1) := by decide +kernel
theorem dX7_slips_68 : decode cX7_slips 68 = .ok (.return_, 1) := by decide +kernel
theorem dX7_tells_0 : decode cX7_tells 0 = .ok (.aload_n 0, 1) := by decide +kernel
theorem dX7_tells_1 : decode cX7_tells 1 = .ok (.iload_n 1, 1) := by decide +kernel
theorem dX7_tells_2 : decode cX7_tells 2 = .ok (.iload_n 2, 1) := by decide +kernel
theorem dX7_tells_3 : decode cX7_tells 3 = .ok (.iload_n 3, 1) := by decide +kernel
theorem dX7_tells_4 : decode cX7_tells 4 = .ok (.invokevirtual 137, 3) := by decide +kernel
theorem dX7_tells_7 : decode cX7_tells 7 = .ok (.istore 4, 2) := by decide +kernel
theorem dX7_tells_9 : decode cX7_tells 9 = .ok (.aload_n 0, 1) := by decide +kernel
theorem dX7_tells_10 : decode cX7_tells 10 = .ok (.getfield 7, 3) := by decide +kernel
theorem dX7_tells_13 : decode cX7_tells 13 = .ok (.bipush 94, 2) := by decide +kernel
theorem dX7_tells_15 : decode cX7_tells 15 = .ok (.iconst 4, 1) := by decide +kernel
theorem dX7_tells_16 : decode cX7_tells 16 = .ok (.iload_n 2, 1) := by decide +kernel
theorem dX7_tells_17 : decode cX7_tells 17 = .ok (.imul, 1) := by decide +kernel
theorem dX7_tells_18 : decode cX7_tells 18 = .ok (.iadd, 1) := by decide +kernel
theorem dX7_tells_19 : decode cX7_tells 19 = .ok (.iload_n 3, 1) := by decide +kernel
theorem dX7_tells_20 : decode cX7_tells 20 = .ok (.iadd, 1) := by decide +kernel
theorem dX7_tells_21 : decode cX7_tells 21 = .ok (.dup2, 1) := by decide +kernel
theorem dX7_tells_22 : decode cX7_tells 22 = .ok (.iaload, 1) := by decide +kernel
theorem dX7_tells_23 : decode cX7_tells 23 = .ok (.iconst 1, 1) := by decide +kernel
theorem dX7_tells_24 : decode cX7_tells 24 = .ok (.iadd, 1) := by decide +kernel
theorem dX7_tells_25 : decode cX7_tells 25 = .ok (.iastore, 1) := by decide +kernel
theorem dX7_tells_26 : decode cX7_tells 26 = .ok (.aload_n 0, 1) := by decide +kernel
theorem dX7_tells_27 : decode cX7_tells 27 = .ok (.getfield 7, 3) := by decide +kernel
theorem dX7_tells_30 : decode cX7_tells 30 = .ok (.iload_n 1, 1) := by decide +kernel
theorem dX7_tells_31 : decode cX7_tells 31 = .ok (.iconst 4, 1) := by decide +kernel
theorem dX7_tells_32 : decode cX7_tells 32 = .ok (.invokestatic 63, 3) := by decide +kernel
theorem dX7_tells_35 : decode cX7_tells 35 = .ok (.dup2, 1) := by decide +kernel
theorem dX7_tells_36 : decode cX7_tells 36 = .ok (.iaload, 1) := by decide +kernel
theorem dX7_tells_37 : decode cX7_tells 37 = .ok (.iconst 1, 1) := by decide +kernel
theorem dX7_tells_38 : decode cX7_tells 38 = .ok (.iadd, 1) := by decide +kernel
theorem dX7_tells_39 : decode cX7_tells 39 = .ok (.iastore, 1) := by decide +kernel
theorem dX7_tells_40 : decode cX7_tells 40 = .ok (.aload_n 0, 1) := by decide +kernel
theorem dX7_tells_41 : decode cX7_tells 41 = .ok (.getfield 7, 3) := by decide +kernel
theorem dX7_tells_44 : decode cX7_tells 44 = .ok (.iload_n 3, 1) := by decide +kernel
theorem dX7_tells_45 : decode cX7_tells 45 = .ok (.iconst 1, 1) := by decide +kernel
theorem dX7_tells_46 : decode cX7_tells 46 = .ok (.invokestatic 116, 3) := by decide +kernel
theorem dX7_tells_49 : decode cX7_tells 49 = .ok (.dup2, 1) := by decide +kernel
theorem dX7_tells_50 : decode cX7_tells 50 = .ok (.iaload, 1) := by decide +kernel
theorem dX7_tells_51 : decode cX7_tells 51 = .ok (.iconst 1, 1) := by decide +kernel
theorem dX7_tells_52 : decode cX7_tells 52 = .ok (.iadd, 1) := by decide +kernel
theorem dX7_tells_53 : decode cX7_tells 53 = .ok (.iastore, 1) := by decide +kernel
theorem dX7_tells_54 : decode cX7_tells 54 = .ok (.iload 4, 2) := by decide +kernel
theorem dX7_tells_56 : decode cX7_tells 56 = .ok (.iconst 5, 1) := by decide +kernel
theorem dX7_tells_57 : decode cX7_tells 57 = .ok (.if_icmp .ge 11, 3) := by decide +kernel
theorem dX7_tells_60 : decode cX7_tells 60 = .ok (.aload_n 0, 1) := by decide +kernel
theorem dX7_tells_61 : decode cX7_tells 61 = .ok (.iload_n 1, 1) := by decide +kernel
theorem dX7_tells_62 : decode cX7_tells 62 = .ok (.invokevirtual 140, 3) := by decide +kernel
theorem dX7_tells_65 : decode cX7_tells 65 = .ok (.iload 4, 2) := by decide +kernel
theorem dX7_tells_67 : decode cX7_tells 67 = .ok (.ireturn, 1) := by decide +kernel
theorem dX7_tells_68 : decode cX7_tells 68 = .ok (.aload_n 0, 1) := by decide +kernel
theorem dX7_tells_69 : decode cX7_tells 69 = .ok (.getfield 7, 3) := by decide +kernel
theorem dX7_tells_72 : decode cX7_tells 72 = .ok (.iconst 4, 1) := by decide +kernel
theorem dX7_tells_73 : decode cX7_tells 73 = .ok (.dup2, 1) := by decide +kernel
theorem dX7_tells_74 : decode cX7_tells 74 = .ok (.iaload, 1) := by decide +kernel
theorem dX7_tells_75 : decode cX7_tells 75 = .ok (.iload 4, 2) := by decide +kernel
theorem dX7_tells_77 : decode cX7_tells 77 = .ok (.iadd, 1) := by decide +kernel
theorem dX7_tells_78 : decode cX7_tells 78 = .ok (.iastore, 1) := by decide +kernel
theorem dX7_tells_79 : decode cX7_tells 79 = .ok (.aload_n 0, 1) := by decide +kernel
theorem dX7_tells_80 : decode cX7_tells 80 = .ok (.getfield 7, 3) := by decide +kernel
theorem dX7_tells_83 : decode cX7_tells 83 = .ok (.iload_n 3, 1) := by decide +kernel
theorem dX7_tells_84 : decode cX7_tells 84 = .ok (.iconst 2, 1) := by decide +kernel
theorem dX7_tells_85 : decode cX7_tells 85 = .ok (.invokestatic 116, 3) := by decide +kernel
theorem dX7_tells_88 : decode cX7_tells 88 = .ok (.dup2, 1) := by decide +kernel
theorem dX7_tells_89 : decode cX7_tells 89 = .ok (.iaload, 1) := by decide +kernel
theorem dX7_tells_90 : decode cX7_tells 90 = .ok (.iload 4, 2) := by decide +kernel
theorem dX7_tells_92 : decode cX7_tells 92 = .ok (.iadd, 1) := by decide +kernel
theorem dX7_tells_93 : decode cX7_tells 93 = .ok (.iastore, 1) := by decide +kernel
theorem dX7_tells_94 : decode cX7_tells 94 = .ok (.aload_n 0, 1) := by decide +kernel
theorem dX7_tells_95 : decode cX7_tells 95 = .ok (.iload_n 1, 1) := by decide +kernel
theorem dX7_tells_96 : decode cX7_tells 96 = .ok (.iload 4, 2) := by decide +kernel
theorem dX7_tells_98 : decode cX7_tells 98 = .ok (.invokevirtual 144, 3) := by decide +kernel
theorem dX7_tells_101 : decode cX7_tells 101 = .ok (.aload_n 0, 1) := by decide +kernel
theorem dX7_tells_102 : decode cX7_tells 102 = .ok (.getfield 7, 3) := by decide +kernel
theorem dX7_tells_105 : decode cX7_tells 105 = .ok (.iload_n 1, 1) := by decide +kernel
theorem dX7_tells_106 : decode cX7_tells 106 = .ok (.iconst 2, 1) := by decide +kernel
theorem dX7_tells_107 : decode cX7_tells 107 = .ok (.invokestatic 63, 3) := by decide +kernel
theorem dX7_tells_110 : decode cX7_tells 110 = .ok (.dup2, 1) := by decide +kernel
theorem dX7_tells_111 : decode cX7_tells 111 = .ok (.iaload, 1) := by decide +kernel
theorem dX7_tells_112 : decode cX7_tells 112 = .ok (.iload 4, 2) := by decide +kernel
theorem dX7_tells_114 : decode cX7_tells 114 = .ok (.bipush 11, 2) := by decide +kernel
theorem dX7_tells_116 : decode cX7_tells 116 = .ok (.if_icmp .le 11, 3) := by decide +kernel
theorem dX7_tells_119 : decode cX7_tells 119 = .ok (.iload 4, 2) := by decide +kernel
theorem dX7_tells_121 : decode cX7_tells 121 = .ok (.bipush 11, 2) := by decide +kernel
theorem dX7_tells_123 : decode cX7_tells 123 = .ok (.isub, 1) := by decide +kernel
theorem dX7_tells_124 : decode cX7_tells 124 = .ok (.goto 4, 3) := by decide +kernel
theorem dX7_tells_127 : decode cX7_tells 127 = .ok (.iconst 0, 1) := by decide +kernel
theorem dX7_tells_128 : decode cX7_tells 128 = .ok (.iadd, 1) := by decide +kernel
theorem dX7_tells_129 : decode cX7_tells 129 = .ok (.iastore, 1) := by decide +kernel
theorem dX7_tells_130 : decode cX7_tells 130 = .ok (.iload 4, 2) := by decide +kernel
theorem dX7_tells_132 : decode cX7_tells 132 = .ok (.ireturn, 1) := by decide +kernel
theorem dX7_carries_0 : decode cX7_carries 0 = .ok (.aload_n 0, 1) := by decide +kernel
theorem dX7_carries_1 : decode cX7_carries 1 = .ok (.getfield 7, 3) := by decide +kernel
theorem dX7_carries_4 : decode cX7_carries 4 = .ok (.iconst 2, 1) := by decide +kernel
theorem dX7_carries_5 : decode cX7_carries 5 = .ok (.iaload, 1) := by decide +kernel
theorem dX7_carries_6 : decode cX7_carries 6 = .ok (.ifCond .ne 17, 3) := by decide +kernel
theorem dX7_carries_9 : decode cX7_carries 9 = .ok (.aload_n 0, 1) := by decide +kernel
theorem dX7_carries_10 : decode cX7_carries 10 = .ok (.bipush 11, 2) := by decide +kernel
theorem dX7_carries_12 : decode cX7_carries 12 = .ok (.aload_n 0, 1) := by decide +kernel
theorem dX7_carries_13 : decode cX7_carries 13 = .ok (.getfield 7, 3) := by decide +kernel
theorem dX7_carries_16 : decode cX7_carries 16 = .ok (.bipush 7, 2) := by decide +kernel
theorem dX7_carries_18 : decode cX7_carries 18 = .ok (.iaload, 1) := by decide +kernel
theorem dX7_carries_19 : decode cX7_carries 19 = .ok (.invokevirtual 66, 3) := by decide +kernel
theorem dX7_carries_22 : decode cX7_carries 22 = .ok (.ireturn, 1) := by decide +kernel
theorem dX7_carries_23 : decode cX7_carries 23 = .ok (.aload_n 0, 1) := by decide +kernel
theorem dX7_carries_24 : decode cX7_carries 24 = .ok (.iconst 0, 1) := by decide +kernel
theorem dX7_carries_25 : decode cX7_carries 25 = .ok (.iconst 0, 1) := by decide +kernel
theorem dX7_carries_26 : decode cX7_carries 26 = .ok (.invokevirtual 101, 3) := by decide +kernel
theorem dX7_carries_29 : decode cX7_carries 29 = .ok (.istore_n 1, 1) := by decide +kernel
theorem dX7_carries_30 : decode cX7_carries 30 = .ok (.aload_n 0, 1) := by decide +kernel
theorem dX7_carries_31 : decode cX7_carries 31 = .ok (.iconst 0, 1) := by decide +kernel
theorem dX7_carries_32 : decode cX7_carries 32 = .ok (.iconst 1, 1) := by decide +kernel
theorem dX7_carries_33 : decode cX7_carries 33 = .ok (.invokevirtual 101, 3) := by decide +kernel
theorem dX7_carries_36 : decode cX7_carries 36 = .ok (.istore_n 2, 1) := by decide +kernel
theorem dX7_carries_37 : decode cX7_carries 37 = .ok (.aload_n 0, 1) := by decide +kernel
theorem dX7_carries_38 : decode cX7_carries 38 = .ok (.iconst 0, 1) := by decide +kernel
theorem dX7_carries_39 : decode cX7_carries 39 = .ok (.iconst 2, 1) := by decide +kernel
theorem dX7_carries_40 : decode cX7_carries 40 = .ok (.invokevirtual 101, 3) := by decide +kernel
theorem dX7_carries_43 : decode cX7_carries 43 = .ok (.istore_n 3, 1) := by decide +kernel
theorem dX7_carries_44 : decode cX7_carries 44 = .ok (.aload_n 0, 1) := by decide +kernel
theorem dX7_carries_45 : decode cX7_carries 45 = .ok (.getfield 7, 3) := by decide +kernel
theorem dX7_carries_48 : decode cX7_carries 48 = .ok (.iconst 3, 1) := by decide +kernel
theorem dX7_carries_49 : decode cX7_carries 49 = .ok (.aload_n 0, 1) := by decide +kernel
theorem dX7_carries_50 : decode cX7_carries 50 = .ok (.iconst 0, 1) := by decide +kernel
theorem dX7_carries_51 : decode cX7_carries 51 = .ok (.iconst 3, 1) := by decide +kernel
theorem dX7_carries_52 : decode cX7_carries 52 = .ok (.invokevirtual 101, 3) := by decide +kernel
theorem dX7_carries_55 : decode cX7_carries 55 = .ok (.iastore, 1) := by decide +kernel
theorem dX7_carries_56 : decode cX7_carries 56 = .ok (.sipush 142, 3) := by decide +kernel
theorem dX7_carries_59 : decode cX7_carries 59 = .ok (.istore 4, 2) := by decide +kernel
theorem dX7_carries_61 : decode cX7_carries 61 = .ok (.iload 4, 2) := by decide +kernel
theorem dX7_carries_63 : decode cX7_carries 63 = .ok (.sipush 182, 3) := by decide +kernel
theorem dX7_carries_66 : decode cX7_carries 66 = .ok (.if_icmp .ge 39, 3) := by decide +kernel
theorem dX7_carries_69 : decode cX7_carries 69 = .ok (.aload_n 0, 1) := by decide +kernel
theorem dX7_carries_70 : decode cX7_carries 70 = .ok (.getfield 7, 3) := by decide +kernel
theorem dX7_carries_73 : decode cX7_carries 73 = .ok (.iload 4, 2) := by decide +kernel
theorem dX7_carries_75 : decode cX7_carries 75 = .ok (.iload 4, 2) := by decide +kernel
theorem dX7_carries_77 : decode cX7_carries 77 = .ok (.iconst 4, 1) := by decide +kernel
theorem dX7_carries_78 : decode cX7_carries 78 = .ok (.iadd, 1) := by decide +kernel
theorem dX7_carries_79 : decode cX7_carries 79 = .ok (.sipush 182, 3) := by decide +kernel
theorem dX7_carries_82 : decode cX7_carries 82 = .ok (.if_icmp .ge 15, 3) := by decide +kernel
theorem dX7_carries_85 : decode cX7_carries 85 = .ok (.aload_n 0, 1) := by decide +kernel
theorem dX7_carries_86 : decode cX7_carries 86 = .ok (.getfield 7, 3) := by decide +kernel
theorem dX7_carries_89 : decode cX7_carries 89 = .ok (.iload 4, 2) := by decide +kernel
theorem dX7_carries_91 : decode cX7_carries 91 = .ok (.iconst 4, 1) := by decide +kernel
theorem dX7_carries_92 : decode cX7_carries 92 = .ok (.iadd, 1) := by decide +kernel
theorem dX7_carries_93 : decode cX7_carries 93 = .ok (.iaload, 1) := by decide +kernel
theorem dX7_carries_94 : decode cX7_carries 94 = .ok (.goto 4, 3) := by decide +kernel
theorem dX7_carries_97 : decode cX7_carries 97 = .ok (.iconst 0, 1) := by decide +kernel
theorem dX7_carries_98 : decode cX7_carries 98 = .ok (.iastore, 1) := by decide +kernel
theorem dX7_carries_99 : decode cX7_carries 99 = .ok (.iinc 4 1, 3) := by decide +kernel
theorem dX7_carries_102 : decode cX7_carries 102 = .ok (.goto (-41), 3) := by decide +kernel
theorem dX7_carries_105 : decode cX7_carries 105 = .ok (.aload_n 0, 1) := by decide +kernel
theorem dX7_carries_106 : decode cX7_carries 106 = .ok (.getfield 7, 3) := by decide +kernel
theorem dX7_carries_109 : decode cX7_carries 109 = .ok (.iconst 2, 1) := by decide +kernel
theorem dX7_carries_110 : decode cX7_carries 110 = .ok (.dup2, 1) := by decide +kernel
theorem dX7_carries_111 : decode cX7_carries 111 = .ok (.iaload, 1) := by decide +kernel
theorem dX7_carries_112 : decode cX7_carries 112 = .ok (.iconst 1, 1) := by decide +kernel
theorem dX7_carries_113 : decode cX7_carries 113 = .ok (.isub, 1) := by decide +kernel
theorem dX7_carries_114 : decode cX7_carries 114 = .ok (.iastore, 1) := by decide +kernel
theorem dX7_carries_115 : decode cX7_carries 115 = .ok (.aload_n 0, 1) := by decide +kernel
theorem dX7_carries_116 : decode cX7_carries 116 = .ok (.getfield 7, 3) := by decide +kernel
theorem dX7_carries_119 : decode cX7_carries 119 = .ok (.bipush 7, 2) := by decide +kernel
theorem dX7_carries_121 : decode cX7_carries 121 = .ok (.dup2, 1) := by decide +kernel
theorem dX7_carries_122 : decode cX7_carries 122 = .ok (.iaload, 1) := by decide +kernel
theorem dX7_carries_123 : decode cX7_carries 123 = .ok (.iconst 1, 1) := by decide +kernel
theorem dX7_carries_124 : decode cX7_carries 124 = .ok (.iadd, 1) := by decide +kernel
theorem dX7_carries_125 : decode cX7_carries 125 = .ok (.iastore, 1) := by decide +kernel
theorem dX7_carries_126 : decode cX7_carries 126 = .ok (.aload_n 0, 1) := by decide +kernel
theorem dX7_carries_127 : decode cX7_carries 127 = .ok (.getfield 7, 3) := by decide +kernel
theorem dX7_carries_130 : decode cX7_carries 130 = .ok (.iload_n 3, 1) := by decide +kernel
theorem dX7_carries_131 : decode cX7_carries 131 = .ok (.iconst 0, 1) := by decide +kernel
theorem dX7_carries_132 : decode cX7_carries 132 = .ok (.invokestatic 116, 3) := by decide +kernel
theorem dX7_carries_135 : decode cX7_carries 135 = .ok (.iaload, 1) := by decide +kernel
theorem dX7_carries_136 : decode cX7_carries 136 = .ok (.iconst 1, 1) := by decide +kernel
theorem dX7_carries_137 : decode cX7_carries 137 = .ok (.if_icmp .ne 5, 3) := by decide +kernel
theorem dX7_carries_140 : decode cX7_carries 140 = .ok (.iconst 0, 1) := by decide +kernel
theorem dX7_carries_141 : decode cX7_carries 141 = .ok (.ireturn, 1) := by decide +kernel
theorem dX7_carries_142 : decode cX7_carries 142 = .ok (.aload_n 0, 1) := by decide +kernel
theorem dX7_carries_143 : decode cX7_carries 143 = .ok (.iload_n 1, 1) := by decide +kernel
theorem dX7_carries_144 : decode cX7_carries 144 = .ok (.iload_n 2, 1) := by decide +kernel
theorem dX7_carries_145 : decode cX7_carries 145 = .ok (.invokevirtual 125, 3) := by decide +kernel
theorem dX7_carries_148 : decode cX7_carries 148 = .ok (.ifCond .eq 20, 3) := by decide +kernel
theorem dX7_carries_151 : decode cX7_carries 151 = .ok (.aload_n 0, 1) := by decide +kernel
theorem dX7_carries_152 : decode cX7_carries 152 = .ok (.aload_n 0, 1) := by decide +kernel
theorem dX7_carries_153 : decode cX7_carries 153 = .ok (.iload_n 2, 1) := by decide +kernel
theorem dX7_carries_154 : decode cX7_carries 154 = .ok (.invokevirtual 60, 3) := by decide +kernel
theorem dX7_carries_157 : decode cX7_carries 157 = .ok (.aload_n 0, 1) := by decide +kernel
theorem dX7_carries_158 : decode cX7_carries 158 = .ok (.iload_n 1, 1) := by decide +kernel
theorem dX7_carries_159 : decode cX7_carries 159 = .ok (.iconst 2, 1) := by decide +kernel
theorem dX7_carries_160 : decode cX7_carries 160 = .ok (.invokevirtual 88, 3) := by decide +kernel
theorem dX7_carries_163 : decode cX7_carries 163 = .ok (.invokevirtual 144, 3) := by decide +kernel
theorem dX7_carries_166 : decode cX7_carries 166 = .ok (.iconst 0, 1) := by decide +kernel
theorem dX7_carries_167 : decode cX7_carries 167 = .ok (.ireturn, 1) := by decide +kernel
theorem dX7_carries_168 : decode cX7_carries 168 = .ok (.aload_n 0, 1) := by decide +kernel
theorem dX7_carries_169 : decode cX7_carries 169 = .ok (.iload_n 1, 1) := by decide +kernel
theorem dX7_carries_170 : decode cX7_carries 170 = .ok (.iload_n 2, 1) := by decide +kernel
theorem dX7_carries_171 : decode cX7_carries 171 = .ok (.iload_n 3, 1) := by decide +kernel
theorem dX7_carries_172 : decode cX7_carries 172 = .ok (.invokevirtual 148, 3) := by decide +kernel
theorem dX7_carries_175 : decode cX7_carries 175 = .ok (.ireturn, 1) := by decide +kernel
theorem dX7_next_0 : decode cX7_next 0 = .ok (.aload_n 0, 1) := by decide +kernel
theorem dX7_next_1 : decode cX7_next 1 = .ok (.invokevirtual 69, 3) := by decide +kernel
theorem dX7_next_4 : decode cX7_next 4 = .ok (.aload_n 0, 1) := by decide +kernel
theorem dX7_next_5 : decode cX7_next 5 = .ok (.aload_n 0, 1) := by decide +kernel
theorem dX7_next_6 : decode cX7_next 6 = .ok (.invokevirtual 151, 3) := by decide +kernel
theorem dX7_next_9 : decode cX7_next 9 = .ok (.invokevirtual 75, 3) := by decide +kernel
theorem dX7_next_12 : decode cX7_next 12 = .ok (.ireturn, 1) := by decide +kernel
theorem dX7_passes_0 : decode cX7_passes 0 = .ok (.iload_n 1, 1) := by decide +kernel
theorem dX7_passes_1 : decode cX7_passes 1 = .ok (.iconst 1, 1) := by decide +kernel
theorem dX7_passes_2 : decode cX7_passes 2 = .ok (.bipush 24, 2) := by decide +kernel
theorem dX7_passes_4 : decode cX7_passes 4 = .ok (.invokestatic 52, 3) := by decide +kernel
theorem dX7_passes_7 : decode cX7_passes 7 = .ok (.ifCond .ne 11, 3) := by decide +kernel
theorem dX7_passes_10 : decode cX7_passes 10 = .ok (.aload_n 0, 1) := by decide +kernel
theorem dX7_passes_11 : decode cX7_passes 11 = .ok (.sipush (-1012), 3) := by decide +kernel
theorem dX7_passes_14 : decode cX7_passes 14 = .ok (.invokevirtual 41, 3) := by decide +kernel
theorem dX7_passes_17 : decode cX7_passes 17 = .ok (.ireturn, 1) := by decide +kernel
theorem dX7_passes_18 : decode cX7_passes 18 = .ok (.aload_n 0, 1) := by decide +kernel
theorem dX7_passes_19 : decode cX7_passes 19 = .ok (.getfield 7, 3) := by decide +kernel
theorem dX7_passes_22 : decode cX7_passes 22 = .ok (.iconst 2, 1) := by decide +kernel
theorem dX7_passes_23 : decode cX7_passes 23 = .ok (.iaload, 1) := by decide +kernel
theorem dX7_passes_24 : decode cX7_passes 24 = .ok (.ifCond .le 32, 3) := by decide +kernel
theorem dX7_passes_27 : decode cX7_passes 27 = .ok (.aload_n 0, 1) := by decide +kernel
theorem dX7_passes_28 : decode cX7_passes 28 = .ok (.iconst 0, 1) := by decide +kernel
theorem dX7_passes_29 : decode cX7_passes 29 = .ok (.iconst 3, 1) := by decide +kernel
theorem dX7_passes_30 : decode cX7_passes 30 = .ok (.invokevirtual 101, 3) := by decide +kernel
theorem dX7_passes_33 : decode cX7_passes 33 = .ok (.aload_n 0, 1) := by decide +kernel
theorem dX7_passes_34 : decode cX7_passes 34 = .ok (.getfield 7, 3) := by decide +kernel
theorem dX7_passes_37 : decode cX7_passes 37 = .ok (.iconst 3, 1) := by decide +kernel
theorem dX7_passes_38 : decode cX7_passes 38 = .ok (.iaload, 1) := by decide +kernel
theorem dX7_passes_39 : decode cX7_passes 39 = .ok (.iload_n 1, 1) := by decide +kernel
theorem dX7_passes_40 : decode cX7_passes 40 = .ok (.iadd, 1) := by decide +kernel
theorem dX7_passes_41 : decode cX7_passes 41 = .ok (.if_icmp .ge 15, 3) := by decide +kernel
theorem dX7_passes_44 : decode cX7_passes 44 = .ok (.aload_n 0, 1) := by decide +kernel
theorem dX7_passes_45 : decode cX7_passes 45 = .ok (.iconst 5, 1) := by decide +kernel
theorem dX7_passes_46 : decode cX7_passes 46 = .ok (.aload_n 0, 1) := by decide +kernel
theorem dX7_passes_47 : decode cX7_passes 47 = .ok (.iconst 0, 1) := by decide +kernel
theorem dX7_passes_48 : decode cX7_passes 48 = .ok (.iconst 1, 1) := by decide +kernel
theorem dX7_passes_49 : decode cX7_passes 49 = .ok (.invokevirtual 101, 3) := by decide +kernel
theorem dX7_passes_52 : decode cX7_passes 52 = .ok (.invokevirtual 66, 3) := by decide +kernel
theorem dX7_passes_55 : decode cX7_passes 55 = .ok (.ireturn, 1) := by decide +kernel
theorem dX7_passes_56 : decode cX7_passes 56 = .ok (.aload_n 0, 1) := by decide +kernel
theorem dX7_passes_57 : decode cX7_passes 57 = .ok (.iconst (-1), 1) := by decide +kernel
theorem dX7_passes_58 : decode cX7_passes 58 = .ok (.invokevirtual 104, 3) := by decide +kernel
theorem dX7_passes_61 : decode cX7_passes 61 = .ok (.istore_n 2, 1) := by decide +kernel
theorem dX7_passes_62 : decode cX7_passes 62 = .ok (.aload_n 0, 1) := by decide +kernel
theorem dX7_passes_63 : decode cX7_passes 63 = .ok (.getfield 7, 3) := by decide +kernel
theorem dX7_passes_66 : decode cX7_passes 66 = .ok (.iconst 3, 1) := by decide +kernel
theorem dX7_passes_67 : decode cX7_passes 67 = .ok (.dup2, 1) := by decide +kernel
theorem dX7_passes_68 : decode cX7_passes 68 = .ok (.iaload, 1) := by decide +kernel
theorem dX7_passes_69 : decode cX7_passes 69 = .ok (.iload_n 1, 1) := by decide +kernel
theorem dX7_passes_70 : decode cX7_passes 70 = .ok (.iadd, 1) := by decide +kernel
theorem dX7_passes_71 : decode cX7_passes 71 = .ok (.iastore, 1) := by decide +kernel
theorem dX7_passes_72 : decode cX7_passes 72 = .ok (.iload_n 2, 1) := by decide +kernel
theorem dX7_passes_73 : decode cX7_passes 73 = .ok (.aload_n 0, 1) := by decide +kernel
theorem dX7_passes_74 : decode cX7_passes 74 = .ok (.iconst (-1), 1) := by decide +kernel
theorem dX7_passes_75 : decode cX7_passes 75 = .ok (.invokevirtual 104, 3) := by decide +kernel
theorem dX7_passes_78 : decode cX7_passes 78 = .ok (.isub, 1) := by decide +kernel
theorem dX7_passes_79 : decode cX7_passes 79 = .ok (.ireturn, 1) := by decide +kernel
theorem dX7_pass_0 : decode cX7_pass 0 = .ok (.aload_n 0, 1) := by decide +kernel
theorem dX7_pass_1 : decode cX7_pass 1 = .ok (.invokevirtual 69, 3) := by decide +kernel
theorem dX7_pass_4 : decode cX7_pass 4 = .ok (.aload_n 0, 1) := by decide +kernel
theorem dX7_pass_5 : decode cX7_pass 5 = .ok (.aload_n 0, 1) := by decide +kernel
theorem dX7_pass_6 : decode cX7_pass 6 = .ok (.iload_n 1, 1) := by decide +kernel
theorem dX7_pass_7 : decode cX7_pass 7 = .ok (.invokevirtual 155, 3) := by decide +kernel
theorem dX7_pass_10 : decode cX7_pass 10 = .ok (.invokevirtual 75, 3) := by decide +kernel
theorem dX7_pass_13 : decode cX7_pass 13 = .ok (.ireturn, 1) := by decide +kernel
theorem dX7_booking_0 : decode cX7_booking 0 = .ok (.iload_n 1, 1) := by decide +kernel
theorem dX7_booking_1 : decode cX7_booking 1 = .ok (.iconst 0, 1) := by decide +kernel
theorem dX7_booking_2 : decode cX7_booking 2 = .ok (.aload_n 0, 1) := by decide +kernel
theorem dX7_booking_3 : decode cX7_booking 3 = .ok (.getfield 7, 3) := by decide +kernel
theorem dX7_booking_6 : decode cX7_booking 6 = .ok (.iconst 2, 1) := by decide +kernel
theorem dX7_booking_7 : decode cX7_booking 7 = .ok (.iaload, 1) := by decide +kernel
theorem dX7_booking_8 : decode cX7_booking 8 = .ok (.iconst 1, 1) := by decide +kernel
theorem dX7_booking_9 : decode cX7_booking 9 = .ok (.isub, 1) := by decide +kernel
theorem dX7_booking_10 : decode cX7_booking 10 = .ok (.invokestatic 52, 3) := by decide +kernel
theorem dX7_booking_13 : decode cX7_booking 13 = .ok (.ifCond .ne 7, 3) := by decide +kernel
theorem dX7_booking_16 : decode cX7_booking 16 = .ok (.sipush (-1011), 3) := by decide +kernel
theorem dX7_booking_19 : decode cX7_booking 19 = .ok (.ireturn, 1) := by decide +kernel
theorem dX7_booking_20 : decode cX7_booking 20 = .ok (.iload_n 2, 1) := by decide +kernel
theorem dX7_booking_21 : decode cX7_booking 21 = .ok (.iconst 0, 1) := by decide +kernel
theorem dX7_booking_22 : decode cX7_booking 22 = .ok (.iconst 3, 1) := by decide +kernel
theorem dX7_booking_23 : decode cX7_booking 23 = .ok (.invokestatic 52, 3) := by decide +kernel
theorem dX7_booking_26 : decode cX7_booking 26 = .ok (.ifCond .eq 12, 3) := by decide +kernel
theorem dX7_booking_29 : decode cX7_booking 29 = .ok (.aload_n 0, 1) := by decide +kernel
theorem dX7_booking_30 : decode cX7_booking 30 = .ok (.iload_n 1, 1) := by decide +kernel
theorem dX7_booking_31 : decode cX7_booking 31 = .ok (.iload_n 2, 1) := by decide +kernel
theorem dX7_booking_32 : decode cX7_booking 32 = .ok (.invokevirtual 101, 3) := by decide +kernel
theorem dX7_booking_35 : decode cX7_booking 35 = .ok (.goto 6, 3) := by decide +kernel
theorem dX7_booking_38 : decode cX7_booking 38 = .ok (.sipush (-1012), 3) := by decide +kernel
theorem dX7_booking_41 : decode cX7_booking 41 = .ok (.ireturn, 1) := by decide +kernel
theorem dX7_wouldGet_0 : decode cX7_wouldGet 0 = .ok (.aload_n 0, 1) := by decide +kernel
theorem dX7_wouldGet_1 : decode cX7_wouldGet 1 = .ok (.getfield 7, 3) := by decide +kernel
theorem dX7_wouldGet_4 : decode cX7_wouldGet 4 = .ok (.iload_n 3, 1) := by decide +kernel
theorem dX7_wouldGet_5 : decode cX7_wouldGet 5 = .ok (.iconst 0, 1) := by decide +kernel
theorem dX7_wouldGet_6 : decode cX7_wouldGet 6 = .ok (.invokestatic 116, 3) := by decide +kernel
theorem dX7_wouldGet_9 : decode cX7_wouldGet 9 = .ok (.iaload, 1) := by decide +kernel
theorem dX7_wouldGet_10 : decode cX7_wouldGet 10 = .ok (.iconst 1, 1) := by decide +kernel
theorem dX7_wouldGet_11 : decode cX7_wouldGet 11 = .ok (.if_icmp .eq 12, 3) := by decide +kernel
theorem dX7_wouldGet_14 : decode cX7_wouldGet 14 = .ok (.aload_n 0, 1) := by decide +kernel
theorem dX7_wouldGet_15 : decode cX7_wouldGet 15 = .ok (.iload_n 1, 1) := by decide +kernel
theorem dX7_wouldGet_16 : decode cX7_wouldGet 16 = .ok (.iload_n 2, 1) := by decide +kernel
theorem dX7_wouldGet_17 : decode cX7_wouldGet 17 = .ok (.invokevirtual 125, 3) := by decide +kernel
theorem dX7_wouldGet_20 : decode cX7_wouldGet 20 = .ok (.ifCond .eq 7, 3) := by decide +kernel
theorem dX7_wouldGet_23 : decode cX7_wouldGet 23 = .ok (.iconst 0, 1) := by decide +kernel
theorem dX7_wouldGet_24 : decode cX7_wouldGet 24 = .ok (.goto 10, 3) := by decide +kernel
theorem dX7_wouldGet_27 : decode cX7_wouldGet 27 = .ok (.aload_n 0, 1) := by decide +kernel
theorem dX7_wouldGet_28 : decode cX7_wouldGet 28 = .ok (.iload_n 1, 1) := by decide +kernel
theorem dX7_wouldGet_29 : decode cX7_wouldGet 29 = .ok (.iload_n 2, 1) := by decide +kernel
theorem dX7_wouldGet_30 : decode cX7_wouldGet 30 = .ok (.iload_n 3, 1) := by decide +kernel
theorem dX7_wouldGet_31 : decode cX7_wouldGet 31 = .ok (.invokevirtual 137, 3) := by decide +kernel
theorem dX7_wouldGet_34 : decode cX7_wouldGet 34 = .ok (.ireturn, 1) := by decide +kernel
theorem dX7_would_0 : decode cX7_would 0 = .ok (.aload_n 0, 1) := by decide +kernel
theorem dX7_would_1 : decode cX7_would 1 = .ok (.iload_n 1, 1) := by decide +kernel
theorem dX7_would_2 : decode cX7_would 2 = .ok (.invokevirtual 81, 3) := by decide +kernel
theorem dX7_would_5 : decode cX7_would 5 = .ok (.ifCond .eq 28, 3) := by decide +kernel
theorem dX7_would_8 : decode cX7_would 8 = .ok (.aload_n 0, 1) := by decide +kernel
theorem dX7_would_9 : decode cX7_would 9 = .ok (.iload_n 2, 1) := by decide +kernel
theorem dX7_would_10 : decode cX7_would 10 = .ok (.invokevirtual 85, 3) := by decide +kernel
theorem dX7_would_13 : decode cX7_would 13 = .ok (.ifCond .eq 20, 3) := by decide +kernel
theorem dX7_would_16 : decode cX7_would 16 = .ok (.iload_n 3, 1) := by decide +kernel
theorem dX7_would_17 : decode cX7_would 17 = .ok (.invokestatic 113, 3) := by decide +kernel
theorem dX7_would_20 : decode cX7_would 20 = .ok (.ifCond .eq 13, 3) := by decide +kernel
theorem dX7_would_23 : decode cX7_would 23 = .ok (.aload_n 0, 1) := by decide +kernel
theorem dX7_would_24 : decode cX7_would 24 = .ok (.iload_n 1, 1) := by decide +kernel
theorem dX7_would_25 : decode cX7_would 25 = .ok (.iload_n 2, 1) := by decide +kernel
theorem dX7_would_26 : decode cX7_would 26 = .ok (.iload_n 3, 1) := by decide +kernel
theorem dX7_would_27 : decode cX7_would 27 = .ok (.invokevirtual 158, 3) := by decide +kernel
theorem dX7_would_30 : decode cX7_would 30 = .ok (.goto 6, 3) := by decide +kernel
theorem dX7_would_33 : decode cX7_would 33 = .ok (.sipush (-1011), 3) := by decide +kernel
theorem dX7_would_36 : decode cX7_would 36 = .ok (.ireturn, 1) := by decide +kernel
theorem dX7_best_0 : decode cX7_best 0 = .ok (.aload_n 0, 1) := by decide +kernel
theorem dX7_best_1 : decode cX7_best 1 = .ok (.iload_n 1, 1) := by decide +kernel
theorem dX7_best_2 : decode cX7_best 2 = .ok (.invokevirtual 81, 3) := by decide +kernel
theorem dX7_best_5 : decode cX7_best 5 = .ok (.ifCond .eq 10, 3) := by decide +kernel
theorem dX7_best_8 : decode cX7_best 8 = .ok (.iload_n 2, 1) := by decide +kernel
theorem dX7_best_9 : decode cX7_best 9 = .ok (.invokestatic 113, 3) := by decide +kernel
theorem dX7_best_12 : decode cX7_best 12 = .ok (.ifCond .ne 7, 3) := by decide +kernel
theorem dX7_best_15 : decode cX7_best 15 = .ok (.sipush (-1011), 3) := by decide +kernel
theorem dX7_best_18 : decode cX7_best 18 = .ok (.ireturn, 1) := by decide +kernel
theorem dX7_best_19 : decode cX7_best 19 = .ok (.sipush (-1015), 3) := by decide +kernel
theorem dX7_best_22 : decode cX7_best 22 = .ok (.istore_n 3, 1) := by decide +kernel
theorem dX7_best_23 : decode cX7_best 23 = .ok (.iconst 0, 1) := by decide +kernel
theorem dX7_best_24 : decode cX7_best 24 = .ok (.istore 4, 2) := by decide +kernel
theorem dX7_best_26 : decode cX7_best 26 = .ok (.iconst 0, 1) := by decide +kernel
theorem dX7_best_27 : decode cX7_best 27 = .ok (.istore 5, 2) := by decide +kernel
theorem dX7_best_29 : decode cX7_best 29 = .ok (.iload 5, 2) := by decide +kernel
theorem dX7_best_31 : decode cX7_best 31 = .ok (.aload_n 0, 1) := by decide +kernel
theorem dX7_best_32 : decode cX7_best 32 = .ok (.getfield 7, 3) := by decide +kernel
theorem dX7_best_35 : decode cX7_best 35 = .ok (.iconst 1, 1) := by decide +kernel
theorem dX7_best_36 : decode cX7_best 36 = .ok (.iaload, 1) := by decide +kernel
theorem dX7_best_37 : decode cX7_best 37 = .ok (.if_icmp .ge 36, 3) := by decide +kernel
theorem dX7_best_40 : decode cX7_best 40 = .ok (.aload_n 0, 1) := by decide +kernel
theorem dX7_best_41 : decode cX7_best 41 = .ok (.iload_n 1, 1) := by decide +kernel
theorem dX7_best_42 : decode cX7_best 42 = .ok (.iload 5, 2) := by decide +kernel
theorem dX7_best_44 : decode cX7_best 44 = .ok (.iload_n 2, 1) := by decide +kernel
theorem dX7_best_45 : decode cX7_best 45 = .ok (.invokevirtual 158, 3) := by decide +kernel
theorem dX7_best_48 : decode cX7_best 48 = .ok (.istore 6, 2) := by decide +kernel
theorem dX7_best_50 : decode cX7_best 50 = .ok (.iload 6, 2) := by decide +kernel
theorem dX7_best_52 : decode cX7_best 52 = .ok (.iload 4, 2) := by decide +kernel
theorem dX7_best_54 : decode cX7_best 54 = .ok (.if_icmp .gt 6, 3) := by decide +kernel
theorem dX7_best_57 : decode cX7_best 57 = .ok (.goto 10, 3) := by decide +kernel
theorem dX7_best_60 : decode cX7_best 60 = .ok (.iload 5, 2) := by decide +kernel
theorem dX7_best_62 : decode cX7_best 62 = .ok (.istore_n 3, 1) := by decide +kernel
theorem dX7_best_63 : decode cX7_best 63 = .ok (.iload 6, 2) := by decide +kernel
theorem dX7_best_65 : decode cX7_best 65 = .ok (.istore 4, 2) := by decide +kernel
theorem dX7_best_67 : decode cX7_best 67 = .ok (.iinc 5 1, 3) := by decide +kernel
theorem dX7_best_70 : decode cX7_best 70 = .ok (.goto (-41), 3) := by decide +kernel
theorem dX7_best_73 : decode cX7_best 73 = .ok (.iload_n 3, 1) := by decide +kernel
theorem dX7_best_74 : decode cX7_best 74 = .ok (.ireturn, 1) := by decide +kernel
theorem dX7_bestAgain_0 : decode cX7_bestAgain 0 = .ok (.aload_n 0, 1) := by decide +kernel
theorem dX7_bestAgain_1 : decode cX7_bestAgain 1 = .ok (.iload_n 1, 1) := by decide +kernel
theorem dX7_bestAgain_2 : decode cX7_bestAgain 2 = .ok (.iload_n 2, 1) := by decide +kernel
theorem dX7_bestAgain_3 : decode cX7_bestAgain 3 = .ok (.invokevirtual 161, 3) := by decide +kernel
theorem dX7_bestAgain_6 : decode cX7_bestAgain 6 = .ok (.ireturn, 1) := by decide +kernel
theorem dX7_ends_0 : decode cX7_ends 0 = .ok (.sipush (-1015), 3) := by decide +kernel
theorem dX7_ends_3 : decode cX7_ends 3 = .ok (.istore_n 1, 1) := by decide +kernel
theorem dX7_ends_4 : decode cX7_ends 4 = .ok (.iconst 0, 1) := by decide +kernel
theorem dX7_ends_5 : decode cX7_ends 5 = .ok (.istore_n 2, 1) := by decide +kernel
theorem dX7_ends_6 : decode cX7_ends 6 = .ok (.iload_n 2, 1) := by decide +kernel
theorem dX7_ends_7 : decode cX7_ends 7 = .ok (.aload_n 0, 1) := by decide +kernel
theorem dX7_ends_8 : decode cX7_ends 8 = .ok (.getfield 7, 3) := by decide +kernel
theorem dX7_ends_11 : decode cX7_ends 11 = .ok (.iconst 1, 1) := by decide +kernel
theorem dX7_ends_12 : decode cX7_ends 12 = .ok (.iaload, 1) := by decide +kernel
theorem dX7_ends_13 : decode cX7_ends 13 = .ok (.if_icmp .ge 46, 3) := by decide +kernel
theorem dX7_ends_16 : decode cX7_ends 16 = .ok (.aload_n 0, 1) := by decide +kernel
theorem dX7_ends_17 : decode cX7_ends 17 = .ok (.iload_n 2, 1) := by decide +kernel
theorem dX7_ends_18 : decode cX7_ends 18 = .ok (.invokevirtual 60, 3) := by decide +kernel
theorem dX7_ends_21 : decode cX7_ends 21 = .ok (.ifCond .lt 32, 3) := by decide +kernel
theorem dX7_ends_24 : decode cX7_ends 24 = .ok (.iload_n 1, 1) := by decide +kernel
theorem dX7_ends_25 : decode cX7_ends 25 = .ok (.ifCond .lt 17, 3) := by decide +kernel
theorem dX7_ends_28 : decode cX7_ends 28 = .ok (.aload_n 0, 1) := by decide +kernel
theorem dX7_ends_29 : decode cX7_ends 29 = .ok (.getfield 7, 3) := by decide +kernel
theorem dX7_ends_32 : decode cX7_ends 32 = .ok (.iload_n 2, 1) := by decide +kernel
theorem dX7_ends_33 : decode cX7_ends 33 = .ok (.iconst 2, 1) := by decide +kernel
theorem dX7_ends_34 : decode cX7_ends 34 = .ok (.invokestatic 56, 3) := by decide +kernel
theorem dX7_ends_37 : decode cX7_ends 37 = .ok (.iaload, 1) := by decide +kernel
theorem dX7_ends_38 : decode cX7_ends 38 = .ok (.iload_n 1, 1) := by decide +kernel
theorem dX7_ends_39 : decode cX7_ends 39 = .ok (.if_icmp .ge 14, 3) := by decide +kernel
theorem dX7_ends_42 : decode cX7_ends 42 = .ok (.aload_n 0, 1) := by decide +kernel
theorem dX7_ends_43 : decode cX7_ends 43 = .ok (.getfield 7, 3) := by decide +kernel
theorem dX7_ends_46 : decode cX7_ends 46 = .ok (.iload_n 2, 1) := by decide +kernel
theorem dX7_ends_47 : decode cX7_ends 47 = .ok (.iconst 2, 1) := by decide +kernel
theorem dX7_ends_48 : decode cX7_ends 48 = .ok (.invokestatic 56, 3) := by decide +kernel
theorem dX7_ends_51 : decode cX7_ends 51 = .ok (.iaload, 1) := by decide +kernel
theorem dX7_ends_52 : decode cX7_ends 52 = .ok (.istore_n 1, 1) := by decide +kernel
theorem dX7_ends_53 : decode cX7_ends 53 = .ok (.iinc 2 1, 3) := by decide +kernel
theorem dX7_ends_56 : decode cX7_ends 56 = .ok (.goto (-50), 3) := by decide +kernel
theorem dX7_ends_59 : decode cX7_ends 59 = .ok (.iload_n 1, 1) := by decide +kernel
theorem dX7_ends_60 : decode cX7_ends 60 = .ok (.ireturn, 1) := by decide +kernel
theorem dX7_endsAgain_0 : decode cX7_endsAgain 0 = .ok (.aload_n 0, 1) := by decide +kernel
theorem dX7_endsAgain_1 : decode cX7_endsAgain 1 = .ok (.invokevirtual 164, 3) := by decide +kernel
theorem dX7_endsAgain_4 : decode cX7_endsAgain 4 = .ok (.ireturn, 1) := by decide +kernel
theorem dX7_all_0 : decode cX7_all 0 = .ok (.iconst 0, 1) := by decide +kernel
theorem dX7_all_1 : decode cX7_all 1 = .ok (.istore_n 2, 1) := by decide +kernel
theorem dX7_all_2 : decode cX7_all 2 = .ok (.iconst 0, 1) := by decide +kernel
theorem dX7_all_3 : decode cX7_all 3 = .ok (.istore_n 3, 1) := by decide +kernel
theorem dX7_all_4 : decode cX7_all 4 = .ok (.iload_n 3, 1) := by decide +kernel
theorem dX7_all_5 : decode cX7_all 5 = .ok (.aload_n 0, 1) := by decide +kernel
theorem dX7_all_6 : decode cX7_all 6 = .ok (.getfield 7, 3) := by decide +kernel
theorem dX7_all_9 : decode cX7_all 9 = .ok (.iconst 0, 1) := by decide +kernel
theorem dX7_all_10 : decode cX7_all 10 = .ok (.iaload, 1) := by decide +kernel
theorem dX7_all_11 : decode cX7_all 11 = .ok (.if_icmp .ge 22, 3) := by decide +kernel
theorem dX7_all_14 : decode cX7_all 14 = .ok (.iload_n 2, 1) := by decide +kernel
theorem dX7_all_15 : decode cX7_all 15 = .ok (.aload_n 0, 1) := by decide +kernel
theorem dX7_all_16 : decode cX7_all 16 = .ok (.getfield 7, 3) := by decide +kernel
theorem dX7_all_19 : decode cX7_all 19 = .ok (.iload_n 3, 1) := by decide +kernel
theorem dX7_all_20 : decode cX7_all 20 = .ok (.iload_n 1, 1) := by decide +kernel
theorem dX7_all_21 : decode cX7_all 21 = .ok (.invokestatic 63, 3) := by decide +kernel
theorem dX7_all_24 : decode cX7_all 24 = .ok (.iaload, 1) := by decide +kernel
theorem dX7_all_25 : decode cX7_all 25 = .ok (.iadd, 1) := by decide +kernel
theorem dX7_all_26 : decode cX7_all 26 = .ok (.istore_n 2, 1) := by decide +kernel
theorem dX7_all_27 : decode cX7_all 27 = .ok (.iinc 3 1, 3) := by decide +kernel
theorem dX7_all_30 : decode cX7_all 30 = .ok (.goto (-26), 3) := by decide +kernel
theorem dX7_all_33 : decode cX7_all 33 = .ok (.iload_n 2, 1) := by decide +kernel
theorem dX7_all_34 : decode cX7_all 34 = .ok (.ireturn, 1) := by decide +kernel
theorem dX7_forecast_0 : decode cX7_forecast 0 = .ok (.aload_n 0, 1) := by decide +kernel
theorem dX7_forecast_1 : decode cX7_forecast 1 = .ok (.iconst 1, 1) := by decide +kernel
theorem dX7_forecast_2 : decode cX7_forecast 2 = .ok (.invokevirtual 167, 3) := by decide +kernel
theorem dX7_forecast_5 : decode cX7_forecast 5 = .ok (.istore_n 1, 1) := by decide +kernel
theorem dX7_forecast_6 : decode cX7_forecast 6 = .ok (.iconst 0, 1) := by decide +kernel
theorem dX7_forecast_7 : decode cX7_forecast 7 = .ok (.istore_n 2, 1) := by decide +kernel
theorem dX7_forecast_8 : decode cX7_forecast 8 = .ok (.aload_n 0, 1) := by decide +kernel
theorem dX7_forecast_9 : decode cX7_forecast 9 = .ok (.getfield 19, 3) := by decide +kernel
theorem dX7_forecast_12 : decode cX7_forecast 12 = .ok (.aload_n 0, 1) := by decide +kernel
theorem dX7_forecast_13 : decode cX7_forecast 13 = .ok (.getfield 7, 3) := by decide +kernel
theorem dX7_forecast_16 : decode cX7_forecast 16 = .ok (.invokestatic 45, 3) := by decide +kernel
theorem dX7_forecast_19 : decode cX7_forecast 19 = .ok (.aload_n 0, 1) := by decide +kernel
theorem dX7_forecast_20 : decode cX7_forecast 20 = .ok (.getfield 7, 3) := by decide +kernel
theorem dX7_forecast_23 : decode cX7_forecast 23 = .ok (.iconst 2, 1) := by decide +kernel
theorem dX7_forecast_24 : decode cX7_forecast 24 = .ok (.iaload, 1) := by decide +kernel
theorem dX7_forecast_25 : decode cX7_forecast 25 = .ok (.ifCond .le 13, 3) := by decide +kernel
theorem dX7_forecast_28 : decode cX7_forecast 28 = .ok (.iload_n 2, 1) := by decide +kernel
theorem dX7_forecast_29 : decode cX7_forecast 29 = .ok (.aload_n 0, 1) := by decide +kernel
theorem dX7_forecast_30 : decode cX7_forecast 30 = .ok (.invokevirtual 151, 3) := by decide +kernel
theorem dX7_forecast_33 : decode cX7_forecast 33 = .ok (.iadd, 1) := by decide +kernel
theorem dX7_forecast_34 : decode cX7_forecast 34 = .ok (.istore_n 2, 1) := by decide +kernel
theorem dX7_forecast_35 : decode cX7_forecast 35 = .ok (.goto (-16), 3) := by decide +kernel
theorem dX7_forecast_38 : decode cX7_forecast 38 = .ok (.aload_n 0, 1) := by decide +kernel
theorem dX7_forecast_39 : decode cX7_forecast 39 = .ok (.iconst 1, 1) := by decide +kernel
theorem dX7_forecast_40 : decode cX7_forecast 40 = .ok (.invokevirtual 167, 3) := by decide +kernel
theorem dX7_forecast_43 : decode cX7_forecast 43 = .ok (.iload_n 1, 1) := by decide +kernel
theorem dX7_forecast_44 : decode cX7_forecast 44 = .ok (.isub, 1) := by decide +kernel
theorem dX7_forecast_45 : decode cX7_forecast 45 = .ok (.istore_n 3, 1) := by decide +kernel
theorem dX7_forecast_46 : decode cX7_forecast 46 = .ok (.aload_n 0, 1) := by decide +kernel
theorem dX7_forecast_47 : decode cX7_forecast 47 = .ok (.getfield 7, 3) := by decide +kernel
theorem dX7_forecast_50 : decode cX7_forecast 50 = .ok (.aload_n 0, 1) := by decide +kernel
theorem dX7_forecast_51 : decode cX7_forecast 51 = .ok (.getfield 19, 3) := by decide +kernel
theorem dX7_forecast_54 : decode cX7_forecast 54 = .ok (.invokestatic 45, 3) := by decide +kernel
theorem dX7_forecast_57 : decode cX7_forecast 57 = .ok (.iload_n 3, 1) := by decide +kernel
theorem dX7_forecast_58 : decode cX7_forecast 58 = .ok (.ireturn, 1) := by decide +kernel
theorem dX7_ranked_0 : decode cX7_ranked 0 = .ok (.iconst 0, 1) := by decide +kernel
theorem dX7_ranked_1 : decode cX7_ranked 1 = .ok (.istore_n 2, 1) := by decide +kernel
theorem dX7_ranked_2 : decode cX7_ranked 2 = .ok (.iload_n 2, 1) := by decide +kernel
theorem dX7_ranked_3 : decode cX7_ranked 3 = .ok (.aload_n 0, 1) := by decide +kernel
theorem dX7_ranked_4 : decode cX7_ranked 4 = .ok (.getfield 7, 3) := by decide +kernel
theorem dX7_ranked_7 : decode cX7_ranked 7 = .ok (.iconst 0, 1) := by decide +kernel
theorem dX7_ranked_8 : decode cX7_ranked 8 = .ok (.iaload, 1) := by decide +kernel
theorem dX7_ranked_9 : decode cX7_ranked 9 = .ok (.if_icmp .ge 126, 3) := by decide +kernel
theorem dX7_ranked_12 : decode cX7_ranked 12 = .ok (.iconst 0, 1) := by decide +kernel
theorem dX7_ranked_13 : decode cX7_ranked 13 = .ok (.istore_n 3, 1) := by decide +kernel
theorem dX7_ranked_14 : decode cX7_ranked 14 = .ok (.iconst 0, 1) := by decide +kernel
theorem dX7_ranked_15 : decode cX7_ranked 15 = .ok (.istore 4, 2) := by decide +kernel
theorem dX7_ranked_17 : decode cX7_ranked 17 = .ok (.iload 4, 2) := by decide +kernel
theorem dX7_ranked_19 : decode cX7_ranked 19 = .ok (.aload_n 0, 1) := by decide +kernel
theorem dX7_ranked_20 : decode cX7_ranked 20 = .ok (.getfield 7, 3) := by decide +kernel
theorem dX7_ranked_23 : decode cX7_ranked 23 = .ok (.iconst 0, 1) := by decide +kernel
theorem dX7_ranked_24 : decode cX7_ranked 24 = .ok (.iaload, 1) := by decide +kernel
theorem dX7_ranked_25 : decode cX7_ranked 25 = .ok (.if_icmp .ge 97, 3) := by decide +kernel
theorem dX7_ranked_28 : decode cX7_ranked 28 = .ok (.aload_n 0, 1) := by decide +kernel
theorem dX7_ranked_29 : decode cX7_ranked 29 = .ok (.getfield 7, 3) := by decide +kernel
theorem dX7_ranked_32 : decode cX7_ranked 32 = .ok (.iload 4, 2) := by decide +kernel
theorem dX7_ranked_34 : decode cX7_ranked 34 = .ok (.iconst 2, 1) := by decide +kernel
theorem dX7_ranked_35 : decode cX7_ranked 35 = .ok (.invokestatic 63, 3) := by decide +kernel
theorem dX7_ranked_38 : decode cX7_ranked 38 = .ok (.iaload, 1) := by decide +kernel
theorem dX7_ranked_39 : decode cX7_ranked 39 = .ok (.aload_n 0, 1) := by decide +kernel
theorem dX7_ranked_40 : decode cX7_ranked 40 = .ok (.getfield 7, 3) := by decide +kernel
theorem dX7_ranked_43 : decode cX7_ranked 43 = .ok (.iload_n 2, 1) := by decide +kernel
theorem dX7_ranked_44 : decode cX7_ranked 44 = .ok (.iconst 2, 1) := by decide +kernel
theorem dX7_ranked_45 : decode cX7_ranked 45 = .ok (.invokestatic 63, 3) := by decide +kernel
theorem dX7_ranked_48 : decode cX7_ranked 48 = .ok (.iaload, 1) := by decide +kernel
theorem dX7_ranked_49 : decode cX7_ranked 49 = .ok (.isub, 1) := by decide +kernel
theorem dX7_ranked_50 : decode cX7_ranked 50 = .ok (.istore 5, 2) := by decide +kernel
theorem dX7_ranked_52 : decode cX7_ranked 52 = .ok (.iload 5, 2) := by decide +kernel
theorem dX7_ranked_54 : decode cX7_ranked 54 = .ok (.ifCond .eq 8, 3) := by decide +kernel
theorem dX7_ranked_57 : decode cX7_ranked 57 = .ok (.iload 5, 2) := by decide +kernel
theorem dX7_ranked_59 : decode cX7_ranked 59 = .ok (.goto 25, 3) := by decide +kernel
theorem dX7_ranked_62 : decode cX7_ranked 62 = .ok (.aload_n 0, 1) := by decide +kernel
theorem dX7_ranked_63 : decode cX7_ranked 63 = .ok (.getfield 7, 3) := by decide +kernel
theorem dX7_ranked_66 : decode cX7_ranked 66 = .ok (.iload 4, 2) := by decide +kernel
theorem dX7_ranked_68 : decode cX7_ranked 68 = .ok (.iconst 1, 1) := by decide +kernel
theorem dX7_ranked_69 : decode cX7_ranked 69 = .ok (.invokestatic 63, 3) := by decide +kernel
theorem dX7_ranked_72 : decode cX7_ranked 72 = .ok (.iaload, 1) := by decide +kernel
theorem dX7_ranked_73 : decode cX7_ranked 73 = .ok (.aload_n 0, 1) := by decide +kernel
theorem dX7_ranked_74 : decode cX7_ranked 74 = .ok (.getfield 7, 3) := by decide +kernel
theorem dX7_ranked_77 : decode cX7_ranked 77 = .ok (.iload_n 2, 1) := by decide +kernel
theorem dX7_ranked_78 : decode cX7_ranked 78 = .ok (.iconst 1, 1) := by decide +kernel
theorem dX7_ranked_79 : decode cX7_ranked 79 = .ok (.invokestatic 63, 3) := by decide +kernel
theorem dX7_ranked_82 : decode cX7_ranked 82 = .ok (.iaload, 1) := by decide +kernel
theorem dX7_ranked_83 : decode cX7_ranked 83 = .ok (.isub, 1) := by decide +kernel
theorem dX7_ranked_84 : decode cX7_ranked 84 = .ok (.istore 5, 2) := by decide +kernel
theorem dX7_ranked_86 : decode cX7_ranked 86 = .ok (.iload_n 3, 1) := by decide +kernel
theorem dX7_ranked_87 : decode cX7_ranked 87 = .ok (.iload 4, 2) := by decide +kernel
theorem dX7_ranked_89 : decode cX7_ranked 89 = .ok (.iload_n 2, 1) := by decide +kernel
theorem dX7_ranked_90 : decode cX7_ranked 90 = .ok (.if_icmp .eq 23, 3) := by decide +kernel
theorem dX7_ranked_93 : decode cX7_ranked 93 = .ok (.iload 5, 2) := by decide +kernel
theorem dX7_ranked_95 : decode cX7_ranked 95 = .ok (.ifCond .gt 14, 3) := by decide +kernel
theorem dX7_ranked_98 : decode cX7_ranked 98 = .ok (.iload 5, 2) := by decide +kernel
theorem dX7_ranked_100 : decode cX7_ranked 100 = .ok (.ifCond .ne 13, 3) := by decide +kernel
theorem dX7_ranked_103 : decode cX7_ranked 103 = .ok (.iload 4, 2) := by decide +kernel
theorem dX7_ranked_105 : decode cX7_ranked 105 = .ok (.iload_n 2, 1) := by decide +kernel
theorem dX7_ranked_106 : decode cX7_ranked 106 = .ok (.if_icmp .ge 7, 3) := by decide +kernel
theorem dX7_ranked_109 : decode cX7_ranked 109 = .ok (.iconst 1, 1) := by decide +kernel
theorem dX7_ranked_110 : decode cX7_ranked 110 = .ok (.goto 4, 3) := by decide +kernel
theorem dX7_ranked_113 : decode cX7_ranked 113 = .ok (.iconst 0, 1) := by decide +kernel
theorem dX7_ranked_114 : decode cX7_ranked 114 = .ok (.iadd, 1) := by decide +kernel
theorem dX7_ranked_115 : decode cX7_ranked 115 = .ok (.istore_n 3, 1) := by decide +kernel
theorem dX7_ranked_116 : decode cX7_ranked 116 = .ok (.iinc 4 1, 3) := by decide +kernel
theorem dX7_ranked_119 : decode cX7_ranked 119 = .ok (.goto (-102), 3) := by decide +kernel
theorem dX7_ranked_122 : decode cX7_ranked 122 = .ok (.iload_n 3, 1) := by decide +kernel
theorem dX7_ranked_123 : decode cX7_ranked 123 = .ok (.iload_n 1, 1) := by decide +kernel
theorem dX7_ranked_124 : decode cX7_ranked 124 = .ok (.if_icmp .ne 5, 3) := by decide +kernel
theorem dX7_ranked_127 : decode cX7_ranked 127 = .ok (.iload_n 2, 1) := by decide +kernel
theorem dX7_ranked_128 : decode cX7_ranked 128 = .ok (.ireturn, 1) := by decide +kernel
theorem dX7_ranked_129 : decode cX7_ranked 129 = .ok (.iinc 2 1, 3) := by decide +kernel
theorem dX7_ranked_132 : decode cX7_ranked 132 = .ok (.goto (-130), 3) := by decide +kernel
theorem dX7_ranked_135 : decode cX7_ranked 135 = .ok (.sipush (-1011), 3) := by decide +kernel
theorem dX7_ranked_138 : decode cX7_ranked 138 = .ok (.ireturn, 1) := by decide +kernel
theorem dX7_stalest_0 : decode cX7_stalest 0 = .ok (.iconst 0, 1) := by decide +kernel
theorem dX7_stalest_1 : decode cX7_stalest 1 = .ok (.istore_n 2, 1) := by decide +kernel
theorem dX7_stalest_2 : decode cX7_stalest 2 = .ok (.iload_n 2, 1) := by decide +kernel
theorem dX7_stalest_3 : decode cX7_stalest 3 = .ok (.aload_n 0, 1) := by decide +kernel
theorem dX7_stalest_4 : decode cX7_stalest 4 = .ok (.getfield 7, 3) := by decide +kernel
theorem dX7_stalest_7 : decode cX7_stalest 7 = .ok (.iconst 1, 1) := by decide +kernel
theorem dX7_stalest_8 : decode cX7_stalest 8 = .ok (.iaload, 1) := by decide +kernel
theorem dX7_stalest_9 : decode cX7_stalest 9 = .ok (.if_icmp .ge 116, 3) := by decide +kernel
theorem dX7_stalest_12 : decode cX7_stalest 12 = .ok (.iconst 0, 1) := by decide +kernel
theorem dX7_stalest_13 : decode cX7_stalest 13 = .ok (.istore_n 3, 1) := by decide +kernel
theorem dX7_stalest_14 : decode cX7_stalest 14 = .ok (.iconst 0, 1) := by decide +kernel
theorem dX7_stalest_15 : decode cX7_stalest 15 = .ok (.istore 4, 2) := by decide +kernel
theorem dX7_stalest_17 : decode cX7_stalest 17 = .ok (.iload 4, 2) := by decide +kernel
theorem dX7_stalest_19 : decode cX7_stalest 19 = .ok (.aload_n 0, 1) := by decide +kernel
theorem dX7_stalest_20 : decode cX7_stalest 20 = .ok (.getfield 7, 3) := by decide +kernel
theorem dX7_stalest_23 : decode cX7_stalest 23 = .ok (.iconst 1, 1) := by decide +kernel
theorem dX7_stalest_24 : decode cX7_stalest 24 = .ok (.iaload, 1) := by decide +kernel
theorem dX7_stalest_25 : decode cX7_stalest 25 = .ok (.if_icmp .ge 87, 3) := by decide +kernel
theorem dX7_stalest_28 : decode cX7_stalest 28 = .ok (.aload_n 0, 1) := by decide +kernel
theorem dX7_stalest_29 : decode cX7_stalest 29 = .ok (.iload 4, 2) := by decide +kernel
theorem dX7_stalest_31 : decode cX7_stalest 31 = .ok (.invokevirtual 110, 3) := by decide +kernel
theorem dX7_stalest_34 : decode cX7_stalest 34 = .ok (.aload_n 0, 1) := by decide +kernel
theorem dX7_stalest_35 : decode cX7_stalest 35 = .ok (.iload_n 2, 1) := by decide +kernel
theorem dX7_stalest_36 : decode cX7_stalest 36 = .ok (.invokevirtual 110, 3) := by decide +kernel
theorem dX7_stalest_39 : decode cX7_stalest 39 = .ok (.isub, 1) := by decide +kernel
theorem dX7_stalest_40 : decode cX7_stalest 40 = .ok (.istore 5, 2) := by decide +kernel
theorem dX7_stalest_42 : decode cX7_stalest 42 = .ok (.iload 5, 2) := by decide +kernel
theorem dX7_stalest_44 : decode cX7_stalest 44 = .ok (.ifCond .eq 8, 3) := by decide +kernel
theorem dX7_stalest_47 : decode cX7_stalest 47 = .ok (.iload 5, 2) := by decide +kernel
theorem dX7_stalest_49 : decode cX7_stalest 49 = .ok (.goto 25, 3) := by decide +kernel
theorem dX7_stalest_52 : decode cX7_stalest 52 = .ok (.aload_n 0, 1) := by decide +kernel
theorem dX7_stalest_53 : decode cX7_stalest 53 = .ok (.getfield 7, 3) := by decide +kernel
theorem dX7_stalest_56 : decode cX7_stalest 56 = .ok (.iload 4, 2) := by decide +kernel
theorem dX7_stalest_58 : decode cX7_stalest 58 = .ok (.iconst 0, 1) := by decide +kernel
theorem dX7_stalest_59 : decode cX7_stalest 59 = .ok (.invokestatic 56, 3) := by decide +kernel
theorem dX7_stalest_62 : decode cX7_stalest 62 = .ok (.iaload, 1) := by decide +kernel
theorem dX7_stalest_63 : decode cX7_stalest 63 = .ok (.aload_n 0, 1) := by decide +kernel
theorem dX7_stalest_64 : decode cX7_stalest 64 = .ok (.getfield 7, 3) := by decide +kernel
theorem dX7_stalest_67 : decode cX7_stalest 67 = .ok (.iload_n 2, 1) := by decide +kernel
theorem dX7_stalest_68 : decode cX7_stalest 68 = .ok (.iconst 0, 1) := by decide +kernel
theorem dX7_stalest_69 : decode cX7_stalest 69 = .ok (.invokestatic 56, 3) := by decide +kernel
theorem dX7_stalest_72 : decode cX7_stalest 72 = .ok (.iaload, 1) := by decide +kernel
theorem dX7_stalest_73 : decode cX7_stalest 73 = .ok (.isub, 1) := by decide +kernel
theorem dX7_stalest_74 : decode cX7_stalest 74 = .ok (.istore 5, 2) := by decide +kernel
theorem dX7_stalest_76 : decode cX7_stalest 76 = .ok (.iload_n 3, 1) := by decide +kernel
theorem dX7_stalest_77 : decode cX7_stalest 77 = .ok (.iload 4, 2) := by decide +kernel
theorem dX7_stalest_79 : decode cX7_stalest 79 = .ok (.iload_n 2, 1) := by decide +kernel
theorem dX7_stalest_80 : decode cX7_stalest 80 = .ok (.if_icmp .eq 23, 3) := by decide +kernel
theorem dX7_stalest_83 : decode cX7_stalest 83 = .ok (.iload 5, 2) := by decide +kernel
theorem dX7_stalest_85 : decode cX7_stalest 85 = .ok (.ifCond .gt 14, 3) := by decide +kernel
theorem dX7_stalest_88 : decode cX7_stalest 88 = .ok (.iload 5, 2) := by decide +kernel
theorem dX7_stalest_90 : decode cX7_stalest 90 = .ok (.ifCond .ne 13, 3) := by decide +kernel
theorem dX7_stalest_93 : decode cX7_stalest 93 = .ok (.iload 4, 2) := by decide +kernel
theorem dX7_stalest_95 : decode cX7_stalest 95 = .ok (.iload_n 2, 1) := by decide +kernel
theorem dX7_stalest_96 : decode cX7_stalest 96 = .ok (.if_icmp .ge 7, 3) := by decide +kernel
theorem dX7_stalest_99 : decode cX7_stalest 99 = .ok (.iconst 1, 1) := by decide +kernel
theorem dX7_stalest_100 : decode cX7_stalest 100 = .ok (.goto 4, 3) := by decide +kernel
theorem dX7_stalest_103 : decode cX7_stalest 103 = .ok (.iconst 0, 1) := by decide +kernel
theorem dX7_stalest_104 : decode cX7_stalest 104 = .ok (.iadd, 1) := by decide +kernel
theorem dX7_stalest_105 : decode cX7_stalest 105 = .ok (.istore_n 3, 1) := by decide +kernel
theorem dX7_stalest_106 : decode cX7_stalest 106 = .ok (.iinc 4 1, 3) := by decide +kernel
theorem dX7_stalest_109 : decode cX7_stalest 109 = .ok (.goto (-92), 3) := by decide +kernel
theorem dX7_stalest_112 : decode cX7_stalest 112 = .ok (.iload_n 3, 1) := by decide +kernel
theorem dX7_stalest_113 : decode cX7_stalest 113 = .ok (.iload_n 1, 1) := by decide +kernel
theorem dX7_stalest_114 : decode cX7_stalest 114 = .ok (.if_icmp .ne 5, 3) := by decide +kernel
theorem dX7_stalest_117 : decode cX7_stalest 117 = .ok (.iload_n 2, 1) := by decide +kernel
theorem dX7_stalest_118 : decode cX7_stalest 118 = .ok (.ireturn, 1) := by decide +kernel
theorem dX7_stalest_119 : decode cX7_stalest 119 = .ok (.iinc 2 1, 3) := by decide +kernel
theorem dX7_stalest_122 : decode cX7_stalest 122 = .ok (.goto (-120), 3) := by decide +kernel
theorem dX7_stalest_125 : decode cX7_stalest 125 = .ok (.sipush (-1011), 3) := by decide +kernel
theorem dX7_stalest_128 : decode cX7_stalest 128 = .ok (.ireturn, 1) := by decide +kernel
theorem dX7_writes_0 : decode cX7_writes 0 = .ok (.aload_n 0, 1) := by decide +kernel
theorem dX7_writes_1 : decode cX7_writes 1 = .ok (.getfield 28, 3) := by decide +kernel
theorem dX7_writes_4 : decode cX7_writes 4 = .ok (.aload_n 0, 1) := by decide +kernel
theorem dX7_writes_5 : decode cX7_writes 5 = .ok (.getfield 170, 3) := by decide +kernel
theorem dX7_writes_8 : decode cX7_writes 8 = .ok (.iload_n 1, 1) := by decide +kernel
theorem dX7_writes_9 : decode cX7_writes 9 = .ok (.iastore, 1) := by decide +kernel
theorem dX7_writes_10 : decode cX7_writes 10 = .ok (.aload_n 0, 1) := by decide +kernel
theorem dX7_writes_11 : decode cX7_writes 11 = .ok (.dup, 1) := by decide +kernel
theorem dX7_writes_12 : decode cX7_writes 12 = .ok (.getfield 170, 3) := by decide +kernel
theorem dX7_writes_15 : decode cX7_writes 15 = .ok (.iconst 1, 1) := by decide +kernel
theorem dX7_writes_16 : decode cX7_writes 16 = .ok (.iadd, 1) := by decide +kernel
theorem dX7_writes_17 : decode cX7_writes 17 = .ok (.putfield 170, 3) := by decide +kernel
theorem dX7_writes_20 : decode cX7_writes 20 = .ok (.return_, 1) := by decide +kernel
theorem dX7_writesNumber_0 : decode cX7_writesNumber 0 = .ok (.iconst 1, 1) := by decide +kernel
theorem dX7_writesNumber_1 : decode cX7_writesNumber 1 = .ok (.istore_n 2, 1) := by decide +kernel
theorem dX7_writesNumber_2 : decode cX7_writesNumber 2 = .ok (.iload_n 1, 1) := by decide +kernel
theorem dX7_writesNumber_3 : decode cX7_writesNumber 3 = .ok (.iload_n 2, 1) := by decide +kernel
theorem dX7_writesNumber_4 : decode cX7_writesNumber 4 = .ok (.idiv, 1) := by decide +kernel
theorem dX7_writesNumber_5 : decode cX7_writesNumber 5 = .ok (.bipush 10, 2) := by decide +kernel
theorem dX7_writesNumber_7 : decode cX7_writesNumber 7 = .ok (.if_icmp .lt 11, 3) := by decide +kernel
theorem dX7_writesNumber_10 : decode cX7_writesNumber 10 = .ok (.iload_n 2, 1) := by decide +kernel
theorem dX7_writesNumber_11 : decode cX7_writesNumber 11 = .ok (.bipush 10, 2) := by decide +kernel
theorem dX7_writesNumber_13 : decode cX7_writesNumber 13 = .ok (.imul, 1) := by decide +kernel
theorem dX7_writesNumber_14 : decode cX7_writesNumber 14 = .ok (.istore_n 2, 1) := by decide +kernel
theorem dX7_writesNumber_15 : decode cX7_writesNumber 15 = .ok (.goto (-13), 3) := by decide +kernel
theorem dX7_writesNumber_18 : decode cX7_writesNumber 18 = .ok (.iload_n 2, 1) := by decide +kernel
theorem dX7_writesNumber_19 : decode cX7_writesNumber 19 = .ok (.ifCond .le 24, 3) := by decide +kernel
theorem dX7_writesNumber_22 : decode cX7_writesNumber 22 = .ok (.aload_n 0, 1) := by decide +kernel
theorem dX7_writesNumber_23 : decode cX7_writesNumber 23 = .ok (.bipush 48, 2) := by decide +kernel
theorem dX7_writesNumber_25 : decode cX7_writesNumber 25 = .ok (.iload_n 1, 1) := by decide +kernel
theorem dX7_writesNumber_26 : decode cX7_writesNumber 26 = .ok (.iload_n 2, 1) := by decide +kernel
theorem dX7_writesNumber_27 : decode cX7_writesNumber 27 = .ok (.idiv, 1) := by decide +kernel
theorem dX7_writesNumber_28 : decode cX7_writesNumber 28 = .ok (.bipush 10, 2) := by decide +kernel
theorem dX7_writesNumber_30 : decode cX7_writesNumber 30 = .ok (.irem, 1) := by decide +kernel
theorem dX7_writesNumber_31 : decode cX7_writesNumber 31 = .ok (.iadd, 1) := by decide +kernel
theorem dX7_writesNumber_32 : decode cX7_writesNumber 32 = .ok (.invokevirtual 173, 3) := by decide +kernel
theorem dX7_writesNumber_35 : decode cX7_writesNumber 35 = .ok (.iload_n 2, 1) := by decide +kernel
theorem dX7_writesNumber_36 : decode cX7_writesNumber 36 = .ok (.bipush 10, 2) := by decide +kernel
theorem dX7_writesNumber_38 : decode cX7_writesNumber 38 = .ok (.idiv, 1) := by decide +kernel
theorem dX7_writesNumber_39 : decode cX7_writesNumber 39 = .ok (.istore_n 2, 1) := by decide +kernel
theorem dX7_writesNumber_40 : decode cX7_writesNumber 40 = .ok (.goto (-22), 3) := by decide +kernel
theorem dX7_writesNumber_43 : decode cX7_writesNumber 43 = .ok (.return_, 1) := by decide +kernel
theorem dX7_append_0 : decode cX7_append 0 = .ok (.iload_n 1, 1) := by decide +kernel
theorem dX7_append_1 : decode cX7_append 1 = .ok (.bipush 32, 2) := by decide +kernel
theorem dX7_append_3 : decode cX7_append 3 = .ok (.bipush 126, 2) := by decide +kernel
theorem dX7_append_5 : decode cX7_append 5 = .ok (.invokestatic 52, 3) := by decide +kernel
theorem dX7_append_8 : decode cX7_append 8 = .ok (.ifCond .ne 7, 3) := by decide +kernel
theorem dX7_append_11 : decode cX7_append 11 = .ok (.sipush (-1012), 3) := by decide +kernel
theorem dX7_append_14 : decode cX7_append 14 = .ok (.ireturn, 1) := by decide +kernel
theorem dX7_append_15 : decode cX7_append 15 = .ok (.aload_n 0, 1) := by decide +kernel
theorem dX7_append_16 : decode cX7_append 16 = .ok (.getfield 176, 3) := by decide +kernel
theorem dX7_append_19 : decode cX7_append 19 = .ok (.bipush 60, 2) := by decide +kernel
theorem dX7_append_21 : decode cX7_append 21 = .ok (.if_icmp .ne 7, 3) := by decide +kernel
theorem dX7_append_24 : decode cX7_append 24 = .ok (.sipush (-1013), 3) := by decide +kernel
theorem dX7_append_27 : decode cX7_append 27 = .ok (.ireturn, 1) := by decide +kernel
theorem dX7_append_28 : decode cX7_append 28 = .ok (.aload_n 0, 1) := by decide +kernel
theorem dX7_append_29 : decode cX7_append 29 = .ok (.getfield 25, 3) := by decide +kernel
theorem dX7_append_32 : decode cX7_append 32 = .ok (.aload_n 0, 1) := by decide +kernel
theorem dX7_append_33 : decode cX7_append 33 = .ok (.getfield 176, 3) := by decide +kernel
theorem dX7_append_36 : decode cX7_append 36 = .ok (.iload_n 1, 1) := by decide +kernel
theorem dX7_append_37 : decode cX7_append 37 = .ok (.iastore, 1) := by decide +kernel
theorem dX7_append_38 : decode cX7_append 38 = .ok (.aload_n 0, 1) := by decide +kernel
theorem dX7_append_39 : decode cX7_append 39 = .ok (.dup, 1) := by decide +kernel
theorem dX7_append_40 : decode cX7_append 40 = .ok (.getfield 176, 3) := by decide +kernel
theorem dX7_append_43 : decode cX7_append 43 = .ok (.iconst 1, 1) := by decide +kernel
theorem dX7_append_44 : decode cX7_append 44 = .ok (.iadd, 1) := by decide +kernel
theorem dX7_append_45 : decode cX7_append 45 = .ok (.putfield 176, 3) := by decide +kernel
theorem dX7_append_48 : decode cX7_append 48 = .ok (.aload_n 0, 1) := by decide +kernel
theorem dX7_append_49 : decode cX7_append 49 = .ok (.getfield 176, 3) := by decide +kernel
theorem dX7_append_52 : decode cX7_append 52 = .ok (.ireturn, 1) := by decide +kernel
theorem dX7_sign_0 : decode cX7_sign 0 = .ok (.aload_n 0, 1) := by decide +kernel
theorem dX7_sign_1 : decode cX7_sign 1 = .ok (.getfield 179, 3) := by decide +kernel
theorem dX7_sign_4 : decode cX7_sign 4 = .ok (.aload_n 0, 1) := by decide +kernel
theorem dX7_sign_5 : decode cX7_sign 5 = .ok (.getfield 182, 3) := by decide +kernel
theorem dX7_sign_8 : decode cX7_sign 8 = .ok (.if_icmp .ge 15, 3) := by decide +kernel
theorem dX7_sign_11 : decode cX7_sign 11 = .ok (.aload_n 0, 1) := by decide +kernel
theorem dX7_sign_12 : decode cX7_sign 12 = .ok (.getfield 25, 3) := by decide +kernel
theorem dX7_sign_15 : decode cX7_sign 15 = .ok (.aload_n 0, 1) := by decide +kernel
theorem dX7_sign_16 : decode cX7_sign 16 = .ok (.getfield 179, 3) := by decide +kernel
theorem dX7_sign_19 : decode cX7_sign 19 = .ok (.iaload, 1) := by decide +kernel
theorem dX7_sign_20 : decode cX7_sign 20 = .ok (.goto 4, 3) := by decide +kernel
theorem dX7_sign_23 : decode cX7_sign 23 = .ok (.iconst (-1), 1) := by decide +kernel
theorem dX7_sign_24 : decode cX7_sign 24 = .ok (.ireturn, 1) := by decide +kernel
theorem dX7_mark_0 : decode cX7_mark 0 = .ok (.aload_n 0, 1) := by decide +kernel
theorem dX7_mark_1 : decode cX7_mark 1 = .ok (.getfield 185, 3) := by decide +kernel
theorem dX7_mark_4 : decode cX7_mark 4 = .ok (.ifCond .eq 4, 3) := by decide +kernel
theorem dX7_mark_7 : decode cX7_mark 7 = .ok (.return_, 1) := by decide +kernel
theorem dX7_mark_8 : decode cX7_mark 8 = .ok (.aload_n 0, 1) := by decide +kernel
theorem dX7_mark_9 : decode cX7_mark 9 = .ok (.aload_n 0, 1) := by decide +kernel
theorem dX7_mark_10 : decode cX7_mark 10 = .ok (.invokevirtual 189, 3) := by decide +kernel
theorem dX7_mark_13 : decode cX7_mark 13 = .ok (.iload_n 1, 1) := by decide +kernel
theorem dX7_mark_14 : decode cX7_mark 14 = .ok (.if_icmp .eq 7, 3) := by decide +kernel
theorem dX7_mark_17 : decode cX7_mark 17 = .ok (.iconst 1, 1) := by decide +kernel
theorem dX7_mark_18 : decode cX7_mark 18 = .ok (.goto 4, 3) := by decide +kernel
theorem dX7_mark_21 : decode cX7_mark 21 = .ok (.iconst 0, 1) := by decide +kernel
theorem dX7_mark_22 : decode cX7_mark 22 = .ok (.putfield 185, 3) := by decide +kernel
theorem dX7_mark_25 : decode cX7_mark 25 = .ok (.aload_n 0, 1) := by decide +kernel
theorem dX7_mark_26 : decode cX7_mark 26 = .ok (.dup, 1) := by decide +kernel
theorem dX7_mark_27 : decode cX7_mark 27 = .ok (.getfield 179, 3) := by decide +kernel
theorem dX7_mark_30 : decode cX7_mark 30 = .ok (.aload_n 0, 1) := by decide +kernel
theorem dX7_mark_31 : decode cX7_mark 31 = .ok (.getfield 185, 3) := by decide +kernel
theorem dX7_mark_34 : decode cX7_mark 34 = .ok (.ifCond .eq 7, 3) := by decide +kernel
theorem dX7_mark_37 : decode cX7_mark 37 = .ok (.iconst 0, 1) := by decide +kernel
theorem dX7_mark_38 : decode cX7_mark 38 = .ok (.goto 4, 3) := by decide +kernel
theorem dX7_mark_41 : decode cX7_mark 41 = .ok (.iconst 1, 1) := by decide +kernel
theorem dX7_mark_42 : decode cX7_mark 42 = .ok (.iadd, 1) := by decide +kernel
theorem dX7_mark_43 : decode cX7_mark 43 = .ok (.putfield 179, 3) := by decide +kernel
theorem dX7_mark_46 : decode cX7_mark 46 = .ok (.return_, 1) := by decide +kernel
theorem dX7_digits_0 : decode cX7_digits 0 = .ok (.iconst 0, 1) := by decide +kernel
theorem dX7_digits_1 : decode cX7_digits 1 = .ok (.istore_n 2, 1) := by decide +kernel
theorem dX7_digits_2 : decode cX7_digits 2 = .ok (.iconst 0, 1) := by decide +kernel
theorem dX7_digits_3 : decode cX7_digits 3 = .ok (.istore_n 3, 1) := by decide +kernel
theorem dX7_digits_4 : decode cX7_digits 4 = .ok (.aload_n 0, 1) := by decide +kernel
theorem dX7_digits_5 : decode cX7_digits 5 = .ok (.getfield 185, 3) := by decide +kernel
theorem dX7_digits_8 : decode cX7_digits 8 = .ok (.ifCond .ne 51, 3) := by decide +kernel
theorem dX7_digits_11 : decode cX7_digits 11 = .ok (.iload_n 3, 1) := by decide +kernel
theorem dX7_digits_12 : decode cX7_digits 12 = .ok (.iload_n 1, 1) := by decide +kernel
theorem dX7_digits_13 : decode cX7_digits 13 = .ok (.if_icmp .ge 46, 3) := by decide +kernel
theorem dX7_digits_16 : decode cX7_digits 16 = .ok (.aload_n 0, 1) := by decide +kernel
theorem dX7_digits_17 : decode cX7_digits 17 = .ok (.invokevirtual 189, 3) := by decide +kernel
theorem dX7_digits_20 : decode cX7_digits 20 = .ok (.bipush 48, 2) := by decide +kernel
theorem dX7_digits_22 : decode cX7_digits 22 = .ok (.bipush 57, 2) := by decide +kernel
theorem dX7_digits_24 : decode cX7_digits 24 = .ok (.invokestatic 52, 3) := by decide +kernel
theorem dX7_digits_27 : decode cX7_digits 27 = .ok (.ifCond .eq 32, 3) := by decide +kernel
theorem dX7_digits_30 : decode cX7_digits 30 = .ok (.bipush 10, 2) := by decide +kernel
theorem dX7_digits_32 : decode cX7_digits 32 = .ok (.iload_n 2, 1) := by decide +kernel
theorem dX7_digits_33 : decode cX7_digits 33 = .ok (.imul, 1) := by decide +kernel
theorem dX7_digits_34 : decode cX7_digits 34 = .ok (.aload_n 0, 1) := by decide +kernel
theorem dX7_digits_35 : decode cX7_digits 35 = .ok (.invokevirtual 189, 3) := by decide +kernel
theorem dX7_digits_38 : decode cX7_digits 38 = .ok (.iadd, 1) := by decide +kernel
theorem dX7_digits_39 : decode cX7_digits 39 = .ok (.bipush 48, 2) := by decide +kernel
theorem dX7_digits_41 : decode cX7_digits 41 = .ok (.isub, 1) := by decide +kernel
theorem dX7_digits_42 : decode cX7_digits 42 = .ok (.istore_n 2, 1) := by decide +kernel
theorem dX7_digits_43 : decode cX7_digits 43 = .ok (.aload_n 0, 1) := by decide +kernel
theorem dX7_digits_44 : decode cX7_digits 44 = .ok (.dup, 1) := by decide +kernel
theorem dX7_digits_45 : decode cX7_digits 45 = .ok (.getfield 179, 3) := by decide +kernel
theorem dX7_digits_48 : decode cX7_digits 48 = .ok (.iconst 1, 1) := by decide +kernel
theorem dX7_digits_49 : decode cX7_digits 49 = .ok (.iadd, 1) := by decide +kernel
theorem dX7_digits_50 : decode cX7_digits 50 = .ok (.putfield 179, 3) := by decide +kernel
theorem dX7_digits_53 : decode cX7_digits 53 = .ok (.iinc 3 1, 3) := by decide +kernel
theorem dX7_digits_56 : decode cX7_digits 56 = .ok (.goto (-52), 3) := by decide +kernel
theorem dX7_digits_59 : decode cX7_digits 59 = .ok (.aload_n 0, 1) := by decide +kernel
theorem dX7_digits_60 : decode cX7_digits 60 = .ok (.dup, 1) := by decide +kernel
theorem dX7_digits_61 : decode cX7_digits 61 = .ok (.getfield 185, 3) := by decide +kernel
theorem dX7_digits_64 : decode cX7_digits 64 = .ok (.iload_n 3, 1) := by decide +kernel
theorem dX7_digits_65 : decode cX7_digits 65 = .ok (.ifCond .ne 7, 3) := by decide +kernel
theorem dX7_digits_68 : decode cX7_digits 68 = .ok (.iconst 1, 1) := by decide +kernel
theorem dX7_digits_69 : decode cX7_digits 69 = .ok (.goto 4, 3) := by decide +kernel
theorem dX7_digits_72 : decode cX7_digits 72 = .ok (.iconst 0, 1) := by decide +kernel
theorem dX7_digits_73 : decode cX7_digits 73 = .ok (.ior, 1) := by decide +kernel
theorem dX7_digits_74 : decode cX7_digits 74 = .ok (.putfield 185, 3) := by decide +kernel
theorem dX7_digits_77 : decode cX7_digits 77 = .ok (.iload_n 2, 1) := by decide +kernel
theorem dX7_digits_78 : decode cX7_digits 78 = .ok (.ireturn, 1) := by decide +kernel
theorem dX7_behind_0 : decode cX7_behind 0 = .ok (.aload_n 0, 1) := by decide +kernel
theorem dX7_behind_1 : decode cX7_behind 1 = .ok (.iload_n 1, 1) := by decide +kernel
theorem dX7_behind_2 : decode cX7_behind 2 = .ok (.invokevirtual 192, 3) := by decide +kernel
theorem dX7_behind_5 : decode cX7_behind 5 = .ok (.aload_n 0, 1) := by decide +kernel
theorem dX7_behind_6 : decode cX7_behind 6 = .ok (.getfield 185, 3) := by decide +kernel
theorem dX7_behind_9 : decode cX7_behind 9 = .ok (.ifCond .eq 7, 3) := by decide +kernel
theorem dX7_behind_12 : decode cX7_behind 12 = .ok (.iconst 0, 1) := by decide +kernel
theorem dX7_behind_13 : decode cX7_behind 13 = .ok (.goto 8, 3) := by decide +kernel
theorem dX7_behind_16 : decode cX7_behind 16 = .ok (.aload_n 0, 1) := by decide +kernel
theorem dX7_behind_17 : decode cX7_behind 17 = .ok (.iload_n 2, 1) := by decide +kernel
theorem dX7_behind_18 : decode cX7_behind 18 = .ok (.invokevirtual 195, 3) := by decide +kernel
theorem dX7_behind_21 : decode cX7_behind 21 = .ok (.ireturn, 1) := by decide +kernel
theorem dX7_plus_0 : decode cX7_plus 0 = .ok (.aload_n 0, 1) := by decide +kernel
theorem dX7_plus_1 : decode cX7_plus 1 = .ok (.invokevirtual 189, 3) := by decide +kernel
theorem dX7_plus_4 : decode cX7_plus 4 = .ok (.bipush 43, 2) := by decide +kernel
theorem dX7_plus_6 : decode cX7_plus 6 = .ok (.if_icmp .ne 7, 3) := by decide +kernel
theorem dX7_plus_9 : decode cX7_plus 9 = .ok (.iconst 1, 1) := by decide +kernel
theorem dX7_plus_10 : decode cX7_plus 10 = .ok (.goto 4, 3) := by decide +kernel
theorem dX7_plus_13 : decode cX7_plus 13 = .ok (.iconst 0, 1) := by decide +kernel
theorem dX7_plus_14 : decode cX7_plus 14 = .ok (.istore_n 1, 1) := by decide +kernel
theorem dX7_plus_15 : decode cX7_plus 15 = .ok (.aload_n 0, 1) := by decide +kernel
theorem dX7_plus_16 : decode cX7_plus 16 = .ok (.iload_n 1, 1) := by decide +kernel
theorem dX7_plus_17 : decode cX7_plus 17 = .ok (.ifCond .eq 8, 3) := by decide +kernel
theorem dX7_plus_20 : decode cX7_plus 20 = .ok (.bipush 43, 2) := by decide +kernel
theorem dX7_plus_22 : decode cX7_plus 22 = .ok (.goto 5, 3) := by decide +kernel
theorem dX7_plus_25 : decode cX7_plus 25 = .ok (.bipush 45, 2) := by decide +kernel
theorem dX7_plus_27 : decode cX7_plus 27 = .ok (.invokevirtual 192, 3) := by decide +kernel
theorem dX7_plus_30 : decode cX7_plus 30 = .ok (.iload_n 1, 1) := by decide +kernel
theorem dX7_plus_31 : decode cX7_plus 31 = .ok (.ifCond .eq 7, 3) := by decide +kernel
theorem dX7_plus_34 : decode cX7_plus 34 = .ok (.iconst 1, 1) := by decide +kernel
theorem dX7_plus_35 : decode cX7_plus 35 = .ok (.goto 4, 3) := by decide +kernel
theorem dX7_plus_38 : decode cX7_plus 38 = .ok (.iconst 0, 1) := by decide +kernel
theorem dX7_plus_39 : decode cX7_plus 39 = .ok (.ireturn, 1) := by decide +kernel
theorem dX7_does_0 : decode cX7_does 0 = .ok (.iload_n 1, 1) := by decide +kernel
theorem dX7_does_1 : decode cX7_does 1 = .ok (.tableswitch 167 97 120 #[154, 132, 167, 167, 167, 111, 167, 167, 148, 117, 167, 167, 167, 143, 167, 123, 167, 167, 167, 167, 167, 167, 167, 160], 111) := by decide +kernel
theorem dX7_does_112 : decode cX7_does 112 = .ok (.aload_n 0, 1) := by decide +kernel
theorem dX7_does_113 : decode cX7_does 113 = .ok (.iload_n 2, 1) := by decide +kernel
theorem dX7_does_114 : decode cX7_does 114 = .ok (.invokevirtual 72, 3) := by decide +kernel
theorem dX7_does_117 : decode cX7_does 117 = .ok (.ireturn, 1) := by decide +kernel
theorem dX7_does_118 : decode cX7_does 118 = .ok (.aload_n 0, 1) := by decide +kernel
theorem dX7_does_119 : decode cX7_does 119 = .ok (.iload_n 2, 1) := by decide +kernel
theorem dX7_does_120 : decode cX7_does 120 = .ok (.invokevirtual 78, 3) := by decide +kernel
theorem dX7_does_123 : decode cX7_does 123 = .ok (.ireturn, 1) := by decide +kernel
theorem dX7_does_124 : decode cX7_does 124 = .ok (.aload_n 0, 1) := by decide +kernel
theorem dX7_does_125 : decode cX7_does 125 = .ok (.iload_n 2, 1) := by decide +kernel
theorem dX7_does_126 : decode cX7_does 126 = .ok (.iload_n 3, 1) := by decide +kernel
theorem dX7_does_127 : decode cX7_does 127 = .ok (.iload 4, 2) := by decide +kernel
theorem dX7_does_129 : decode cX7_does 129 = .ok (.invokevirtual 91, 3) := by decide +kernel
theorem dX7_does_132 : decode cX7_does 132 = .ok (.ireturn, 1) := by decide +kernel
theorem dX7_does_133 : decode cX7_does 133 = .ok (.aload_n 0, 1) := by decide +kernel
theorem dX7_does_134 : decode cX7_does 134 = .ok (.iload_n 2, 1) := by decide +kernel
theorem dX7_does_135 : decode cX7_does 135 = .ok (.iload_n 3, 1) := by decide +kernel
theorem dX7_does_136 : decode cX7_does 136 = .ok (.iload 4, 2) := by decide +kernel
theorem dX7_does_138 : decode cX7_does 138 = .ok (.iload 5, 2) := by decide +kernel
theorem dX7_does_140 : decode cX7_does 140 = .ok (.invokevirtual 133, 3) := by decide +kernel
theorem dX7_does_143 : decode cX7_does 143 = .ok (.ireturn, 1) := by decide +kernel
theorem dX7_does_144 : decode cX7_does 144 = .ok (.aload_n 0, 1) := by decide +kernel
theorem dX7_does_145 : decode cX7_does 145 = .ok (.invokevirtual 151, 3) := by decide +kernel
theorem dX7_does_148 : decode cX7_does 148 = .ok (.ireturn, 1) := by decide +kernel
theorem dX7_does_149 : decode cX7_does 149 = .ok (.aload_n 0, 1) := by decide +kernel
theorem dX7_does_150 : decode cX7_does 150 = .ok (.iload_n 2, 1) := by decide +kernel
theorem dX7_does_151 : decode cX7_does 151 = .ok (.invokevirtual 95, 3) := by decide +kernel
theorem dX7_does_154 : decode cX7_does 154 = .ok (.ireturn, 1) := by decide +kernel
theorem dX7_does_155 : decode cX7_does 155 = .ok (.aload_n 0, 1) := by decide +kernel
theorem dX7_does_156 : decode cX7_does 156 = .ok (.iload_n 2, 1) := by decide +kernel
theorem dX7_does_157 : decode cX7_does 157 = .ok (.invokevirtual 98, 3) := by decide +kernel
theorem dX7_does_160 : decode cX7_does 160 = .ok (.ireturn, 1) := by decide +kernel
theorem dX7_does_161 : decode cX7_does 161 = .ok (.aload_n 0, 1) := by decide +kernel
theorem dX7_does_162 : decode cX7_does 162 = .ok (.iload_n 2, 1) := by decide +kernel
theorem dX7_does_163 : decode cX7_does 163 = .ok (.iload_n 3, 1) := by decide +kernel
theorem dX7_does_164 : decode cX7_does 164 = .ok (.invokevirtual 119, 3) := by decide +kernel
theorem dX7_does_167 : decode cX7_does 167 = .ok (.ireturn, 1) := by decide +kernel
theorem dX7_does_168 : decode cX7_does 168 = .ok (.aload_n 0, 1) := by decide +kernel
theorem dX7_does_169 : decode cX7_does 169 = .ok (.iload_n 2, 1) := by decide +kernel
theorem dX7_does_170 : decode cX7_does 170 = .ok (.invokevirtual 155, 3) := by decide +kernel
theorem dX7_does_173 : decode cX7_does 173 = .ok (.ireturn, 1) := by decide +kernel
theorem dX7_isKnown_0 : decode cX7_isKnown 0 = .ok (.iload_n 0, 1) := by decide +kernel
theorem dX7_isKnown_1 : decode cX7_isKnown 1 = .ok (.bipush 102, 2) := by decide +kernel
theorem dX7_isKnown_3 : decode cX7_isKnown 3 = .ok (.if_icmp .eq 51, 3) := by decide +kernel
theorem dX7_isKnown_6 : decode cX7_isKnown 6 = .ok (.iload_n 0, 1) := by decide +kernel
theorem dX7_isKnown_7 : decode cX7_isKnown 7 = .ok (.bipush 106, 2) := by decide +kernel
theorem dX7_isKnown_9 : decode cX7_isKnown 9 = .ok (.if_icmp .eq 45, 3) := by decide +kernel
theorem dX7_isKnown_12 : decode cX7_isKnown 12 = .ok (.iload_n 0, 1) := by decide +kernel
theorem dX7_isKnown_13 : decode cX7_isKnown 13 = .ok (.bipush 112, 2) := by decide +kernel
theorem dX7_isKnown_15 : decode cX7_isKnown 15 = .ok (.if_icmp .eq 39, 3) := by decide +kernel
theorem dX7_isKnown_18 : decode cX7_isKnown 18 = .ok (.iload_n 0, 1) := by decide +kernel
theorem dX7_isKnown_19 : decode cX7_isKnown 19 = .ok (.bipush 98, 2) := by decide +kernel
theorem dX7_isKnown_21 : decode cX7_isKnown 21 = .ok (.if_icmp .eq 33, 3) := by decide +kernel
theorem dX7_isKnown_24 : decode cX7_isKnown 24 = .ok (.iload_n 0, 1) := by decide +kernel
theorem dX7_isKnown_25 : decode cX7_isKnown 25 = .ok (.bipush 110, 2) := by decide +kernel
theorem dX7_isKnown_27 : decode cX7_isKnown 27 = .ok (.if_icmp .eq 27, 3) := by decide +kernel
theorem dX7_isKnown_30 : decode cX7_isKnown 30 = .ok (.iload_n 0, 1) := by decide +kernel
theorem dX7_isKnown_31 : decode cX7_isKnown 31 = .ok (.bipush 105, 2) := by decide +kernel
theorem dX7_isKnown_33 : decode cX7_isKnown 33 = .ok (.if_icmp .eq 21, 3) := by decide +kernel
theorem dX7_isKnown_36 : decode cX7_isKnown 36 = .ok (.iload_n 0, 1) := by decide +kernel
theorem dX7_isKnown_37 : decode cX7_isKnown 37 = .ok (.bipush 97, 2) := by decide +kernel
theorem dX7_isKnown_39 : decode cX7_isKnown 39 = .ok (.if_icmp .eq 15, 3) := by decide +kernel
theorem dX7_isKnown_42 : decode cX7_isKnown 42 = .ok (.iload_n 0, 1) := by decide +kernel
theorem dX7_isKnown_43 : decode cX7_isKnown 43 = .ok (.bipush 120, 2) := by decide +kernel
theorem dX7_isKnown_45 : decode cX7_isKnown 45 = .ok (.if_icmp .eq 9, 3) := by decide +kernel
theorem dX7_isKnown_48 : decode cX7_isKnown 48 = .ok (.iload_n 0, 1) := by decide +kernel
theorem dX7_isKnown_49 : decode cX7_isKnown 49 = .ok (.bipush 119, 2) := by decide +kernel
theorem dX7_isKnown_51 : decode cX7_isKnown 51 = .ok (.if_icmp .ne 7, 3) := by decide +kernel
theorem dX7_isKnown_54 : decode cX7_isKnown 54 = .ok (.iconst 1, 1) := by decide +kernel
theorem dX7_isKnown_55 : decode cX7_isKnown 55 = .ok (.goto 4, 3) := by decide +kernel
theorem dX7_isKnown_58 : decode cX7_isKnown 58 = .ok (.iconst 0, 1) := by decide +kernel
theorem dX7_isKnown_59 : decode cX7_isKnown 59 = .ok (.ireturn, 1) := by decide +kernel
theorem dX7_order_0 : decode cX7_order 0 = .ok (.aload_n 0, 1) := by decide +kernel
theorem dX7_order_1 : decode cX7_order 1 = .ok (.invokevirtual 189, 3) := by decide +kernel
theorem dX7_order_4 : decode cX7_order 4 = .ok (.istore_n 1, 1) := by decide +kernel
theorem dX7_order_5 : decode cX7_order 5 = .ok (.iconst 0, 1) := by decide +kernel
theorem dX7_order_6 : decode cX7_order 6 = .ok (.istore_n 2, 1) := by decide +kernel
theorem dX7_order_7 : decode cX7_order 7 = .ok (.iconst 0, 1) := by decide +kernel
theorem dX7_order_8 : decode cX7_order 8 = .ok (.istore_n 3, 1) := by decide +kernel
theorem dX7_order_9 : decode cX7_order 9 = .ok (.iconst 0, 1) := by decide +kernel
theorem dX7_order_10 : decode cX7_order 10 = .ok (.istore 4, 2) := by decide +kernel
theorem dX7_order_12 : decode cX7_order 12 = .ok (.iconst 0, 1) := by decide +kernel
theorem dX7_order_13 : decode cX7_order 13 = .ok (.istore 5, 2) := by decide +kernel
theorem dX7_order_15 : decode cX7_order 15 = .ok (.aload_n 0, 1) := by decide +kernel
theorem dX7_order_16 : decode cX7_order 16 = .ok (.iload_n 1, 1) := by decide +kernel
theorem dX7_order_17 : decode cX7_order 17 = .ok (.invokestatic 198, 3) := by decide +kernel
theorem dX7_order_20 : decode cX7_order 20 = .ok (.ifCond .ne 7, 3) := by decide +kernel
theorem dX7_order_23 : decode cX7_order 23 = .ok (.iconst 1, 1) := by decide +kernel
theorem dX7_order_24 : decode cX7_order 24 = .ok (.goto 4, 3) := by decide +kernel
theorem dX7_order_27 : decode cX7_order 27 = .ok (.iconst 0, 1) := by decide +kernel
theorem dX7_order_28 : decode cX7_order 28 = .ok (.putfield 185, 3) := by decide +kernel
theorem dX7_order_31 : decode cX7_order 31 = .ok (.aload_n 0, 1) := by decide +kernel
theorem dX7_order_32 : decode cX7_order 32 = .ok (.getfield 185, 3) := by decide +kernel
theorem dX7_order_35 : decode cX7_order 35 = .ok (.ifCond .eq 4, 3) := by decide +kernel
theorem dX7_order_38 : decode cX7_order 38 = .ok (.return_, 1) := by decide +kernel
theorem dX7_order_39 : decode cX7_order 39 = .ok (.aload_n 0, 1) := by decide +kernel
theorem dX7_order_40 : decode cX7_order 40 = .ok (.dup, 1) := by decide +kernel
theorem dX7_order_41 : decode cX7_order 41 = .ok (.getfield 179, 3) := by decide +kernel
theorem dX7_order_44 : decode cX7_order 44 = .ok (.iconst 1, 1) := by decide +kernel
theorem dX7_order_45 : decode cX7_order 45 = .ok (.iadd, 1) := by decide +kernel
theorem dX7_order_46 : decode cX7_order 46 = .ok (.putfield 179, 3) := by decide +kernel
theorem dX7_order_49 : decode cX7_order 49 = .ok (.iload_n 1, 1) := by decide +kernel
theorem dX7_order_50 : decode cX7_order 50 = .ok (.bipush 110, 2) := by decide +kernel
theorem dX7_order_52 : decode cX7_order 52 = .ok (.if_icmp .eq 19, 3) := by decide +kernel
theorem dX7_order_55 : decode cX7_order 55 = .ok (.aload_n 0, 1) := by decide +kernel
theorem dX7_order_56 : decode cX7_order 56 = .ok (.iload_n 1, 1) := by decide +kernel
theorem dX7_order_57 : decode cX7_order 57 = .ok (.bipush 119, 2) := by decide +kernel
theorem dX7_order_59 : decode cX7_order 59 = .ok (.if_icmp .ne 7, 3) := by decide +kernel
theorem dX7_order_62 : decode cX7_order 62 = .ok (.iconst 2, 1) := by decide +kernel
theorem dX7_order_63 : decode cX7_order 63 = .ok (.goto 4, 3) := by decide +kernel
theorem dX7_order_66 : decode cX7_order 66 = .ok (.iconst 1, 1) := by decide +kernel
theorem dX7_order_67 : decode cX7_order 67 = .ok (.invokevirtual 195, 3) := by decide +kernel
theorem dX7_order_70 : decode cX7_order 70 = .ok (.istore_n 2, 1) := by decide +kernel
theorem dX7_order_71 : decode cX7_order 71 = .ok (.iload_n 1, 1) := by decide +kernel
theorem dX7_order_72 : decode cX7_order 72 = .ok (.bipush 112, 2) := by decide +kernel
theorem dX7_order_74 : decode cX7_order 74 = .ok (.if_icmp .eq 9, 3) := by decide +kernel
theorem dX7_order_77 : decode cX7_order 77 = .ok (.iload_n 1, 1) := by decide +kernel
theorem dX7_order_78 : decode cX7_order 78 = .ok (.bipush 98, 2) := by decide +kernel
theorem dX7_order_80 : decode cX7_order 80 = .ok (.if_icmp .ne 11, 3) := by decide +kernel
theorem dX7_order_83 : decode cX7_order 83 = .ok (.aload_n 0, 1) := by decide +kernel
theorem dX7_order_84 : decode cX7_order 84 = .ok (.bipush 58, 2) := by decide +kernel
theorem dX7_order_86 : decode cX7_order 86 = .ok (.iconst 2, 1) := by decide +kernel
theorem dX7_order_87 : decode cX7_order 87 = .ok (.invokevirtual 201, 3) := by decide +kernel
theorem dX7_order_90 : decode cX7_order 90 = .ok (.istore_n 3, 1) := by decide +kernel
theorem dX7_order_91 : decode cX7_order 91 = .ok (.iload_n 1, 1) := by decide +kernel
theorem dX7_order_92 : decode cX7_order 92 = .ok (.bipush 112, 2) := by decide +kernel
theorem dX7_order_94 : decode cX7_order 94 = .ok (.if_icmp .ne 12, 3) := by decide +kernel
theorem dX7_order_97 : decode cX7_order 97 = .ok (.aload_n 0, 1) := by decide +kernel
theorem dX7_order_98 : decode cX7_order 98 = .ok (.bipush 42, 2) := by decide +kernel
theorem dX7_order_100 : decode cX7_order 100 = .ok (.iconst 2, 1) := by decide +kernel
theorem dX7_order_101 : decode cX7_order 101 = .ok (.invokevirtual 201, 3) := by decide +kernel
theorem dX7_order_104 : decode cX7_order 104 = .ok (.istore 4, 2) := by decide +kernel
theorem dX7_order_106 : decode cX7_order 106 = .ok (.iload_n 1, 1) := by decide +kernel
theorem dX7_order_107 : decode cX7_order 107 = .ok (.bipush 98, 2) := by decide +kernel
theorem dX7_order_109 : decode cX7_order 109 = .ok (.if_icmp .ne 12, 3) := by decide +kernel
theorem dX7_order_112 : decode cX7_order 112 = .ok (.aload_n 0, 1) := by decide +kernel
theorem dX7_order_113 : decode cX7_order 113 = .ok (.bipush 64, 2) := by decide +kernel
theorem dX7_order_115 : decode cX7_order 115 = .ok (.iconst 1, 1) := by decide +kernel
theorem dX7_order_116 : decode cX7_order 116 = .ok (.invokevirtual 201, 3) := by decide +kernel
theorem dX7_order_119 : decode cX7_order 119 = .ok (.istore 4, 2) := by decide +kernel
theorem dX7_order_121 : decode cX7_order 121 = .ok (.iload_n 1, 1) := by decide +kernel
theorem dX7_order_122 : decode cX7_order 122 = .ok (.bipush 98, 2) := by decide +kernel
theorem dX7_order_124 : decode cX7_order 124 = .ok (.if_icmp .ne 12, 3) := by decide +kernel
theorem dX7_order_127 : decode cX7_order 127 = .ok (.aload_n 0, 1) := by decide +kernel
theorem dX7_order_128 : decode cX7_order 128 = .ok (.bipush 61, 2) := by decide +kernel
theorem dX7_order_130 : decode cX7_order 130 = .ok (.iconst 2, 1) := by decide +kernel
theorem dX7_order_131 : decode cX7_order 131 = .ok (.invokevirtual 201, 3) := by decide +kernel
theorem dX7_order_134 : decode cX7_order 134 = .ok (.istore 5, 2) := by decide +kernel
theorem dX7_order_136 : decode cX7_order 136 = .ok (.iload_n 1, 1) := by decide +kernel
theorem dX7_order_137 : decode cX7_order 137 = .ok (.bipush 120, 2) := by decide +kernel
theorem dX7_order_139 : decode cX7_order 139 = .ok (.if_icmp .ne 8, 3) := by decide +kernel
theorem dX7_order_142 : decode cX7_order 142 = .ok (.aload_n 0, 1) := by decide +kernel
theorem dX7_order_143 : decode cX7_order 143 = .ok (.invokevirtual 204, 3) := by decide +kernel
theorem dX7_order_146 : decode cX7_order 146 = .ok (.istore_n 3, 1) := by decide +kernel
theorem dX7_order_147 : decode cX7_order 147 = .ok (.aload_n 0, 1) := by decide +kernel
theorem dX7_order_148 : decode cX7_order 148 = .ok (.getfield 185, 3) := by decide +kernel
theorem dX7_order_151 : decode cX7_order 151 = .ok (.ifCond .ne 10, 3) := by decide +kernel
theorem dX7_order_154 : decode cX7_order 154 = .ok (.aload_n 0, 1) := by decide +kernel
theorem dX7_order_155 : decode cX7_order 155 = .ok (.getfield 207, 3) := by decide +kernel
theorem dX7_order_158 : decode cX7_order 158 = .ok (.ifCond .ne 4, 3) := by decide +kernel
theorem dX7_order_161 : decode cX7_order 161 = .ok (.return_, 1) := by decide +kernel
theorem dX7_order_162 : decode cX7_order 162 = .ok (.aload_n 0, 1) := by decide +kernel
theorem dX7_order_163 : decode cX7_order 163 = .ok (.iload_n 1, 1) := by decide +kernel
theorem dX7_order_164 : decode cX7_order 164 = .ok (.iload_n 2, 1) := by decide +kernel
theorem dX7_order_165 : decode cX7_order 165 = .ok (.iload_n 3, 1) := by decide +kernel
theorem dX7_order_166 : decode cX7_order 166 = .ok (.iload 4, 2) := by decide +kernel
theorem dX7_order_168 : decode cX7_order 168 = .ok (.iload 5, 2) := by decide +kernel
theorem dX7_order_170 : decode cX7_order 170 = .ok (.invokevirtual 210, 3) := by decide +kernel
theorem dX7_order_173 : decode cX7_order 173 = .ok (.istore 6, 2) := by decide +kernel
theorem dX7_order_175 : decode cX7_order 175 = .ok (.return_, 1) := by decide +kernel
theorem dX7_orders_0 : decode cX7_orders 0 = .ok (.aload_n 0, 1) := by decide +kernel
theorem dX7_orders_1 : decode cX7_orders 1 = .ok (.iconst 0, 1) := by decide +kernel
theorem dX7_orders_2 : decode cX7_orders 2 = .ok (.putfield 179, 3) := by decide +kernel
theorem dX7_orders_5 : decode cX7_orders 5 = .ok (.aload_n 0, 1) := by decide +kernel
theorem dX7_orders_6 : decode cX7_orders 6 = .ok (.iconst 0, 1) := by decide +kernel
theorem dX7_orders_7 : decode cX7_orders 7 = .ok (.putfield 185, 3) := by decide +kernel
theorem dX7_orders_10 : decode cX7_orders 10 = .ok (.iconst 1, 1) := by decide +kernel
theorem dX7_orders_11 : decode cX7_orders 11 = .ok (.istore_n 1, 1) := by decide +kernel
theorem dX7_orders_12 : decode cX7_orders 12 = .ok (.aload_n 0, 1) := by decide +kernel
theorem dX7_orders_13 : decode cX7_orders 13 = .ok (.invokevirtual 214, 3) := by decide +kernel
theorem dX7_orders_16 : decode cX7_orders 16 = .ok (.aload_n 0, 1) := by decide +kernel
theorem dX7_orders_17 : decode cX7_orders 17 = .ok (.getfield 185, 3) := by decide +kernel
theorem dX7_orders_20 : decode cX7_orders 20 = .ok (.ifCond .ne 44, 3) := by decide +kernel
theorem dX7_orders_23 : decode cX7_orders 23 = .ok (.aload_n 0, 1) := by decide +kernel
theorem dX7_orders_24 : decode cX7_orders 24 = .ok (.getfield 31, 3) := by decide +kernel
theorem dX7_orders_27 : decode cX7_orders 27 = .ok (.ifCond .ne 37, 3) := by decide +kernel
theorem dX7_orders_30 : decode cX7_orders 30 = .ok (.aload_n 0, 1) := by decide +kernel
theorem dX7_orders_31 : decode cX7_orders 31 = .ok (.getfield 179, 3) := by decide +kernel
theorem dX7_orders_34 : decode cX7_orders 34 = .ok (.aload_n 0, 1) := by decide +kernel
theorem dX7_orders_35 : decode cX7_orders 35 = .ok (.getfield 182, 3) := by decide +kernel
theorem dX7_orders_38 : decode cX7_orders 38 = .ok (.if_icmp .ge 26, 3) := by decide +kernel
theorem dX7_orders_41 : decode cX7_orders 41 = .ok (.aload_n 0, 1) := by decide +kernel
theorem dX7_orders_42 : decode cX7_orders 42 = .ok (.bipush 59, 2) := by decide +kernel
theorem dX7_orders_44 : decode cX7_orders 44 = .ok (.invokevirtual 192, 3) := by decide +kernel
theorem dX7_orders_47 : decode cX7_orders 47 = .ok (.aload_n 0, 1) := by decide +kernel
theorem dX7_orders_48 : decode cX7_orders 48 = .ok (.getfield 185, 3) := by decide +kernel
theorem dX7_orders_51 : decode cX7_orders 51 = .ok (.ifCond .ne 7, 3) := by decide +kernel
theorem dX7_orders_54 : decode cX7_orders 54 = .ok (.aload_n 0, 1) := by decide +kernel
theorem dX7_orders_55 : decode cX7_orders 55 = .ok (.invokevirtual 214, 3) := by decide +kernel
theorem dX7_orders_58 : decode cX7_orders 58 = .ok (.iinc 1 1, 3) := by decide +kernel
theorem dX7_orders_61 : decode cX7_orders 61 = .ok (.goto (-45), 3) := by decide +kernel
theorem dX7_orders_64 : decode cX7_orders 64 = .ok (.iload_n 1, 1) := by decide +kernel
theorem dX7_orders_65 : decode cX7_orders 65 = .ok (.ireturn, 1) := by decide +kernel
theorem dX7_run_0 : decode cX7_run 0 = .ok (.aload_n 0, 1) := by decide +kernel
theorem dX7_run_1 : decode cX7_run 1 = .ok (.invokevirtual 69, 3) := by decide +kernel
theorem dX7_run_4 : decode cX7_run 4 = .ok (.aload_n 0, 1) := by decide +kernel
theorem dX7_run_5 : decode cX7_run 5 = .ok (.aload_n 0, 1) := by decide +kernel
theorem dX7_run_6 : decode cX7_run 6 = .ok (.getfield 176, 3) := by decide +kernel
theorem dX7_run_9 : decode cX7_run 9 = .ok (.putfield 182, 3) := by decide +kernel
theorem dX7_run_12 : decode cX7_run 12 = .ok (.aload_n 0, 1) := by decide +kernel
theorem dX7_run_13 : decode cX7_run 13 = .ok (.iconst 0, 1) := by decide +kernel
theorem dX7_run_14 : decode cX7_run 14 = .ok (.putfield 176, 3) := by decide +kernel
theorem dX7_run_17 : decode cX7_run 17 = .ok (.aload_n 0, 1) := by decide +kernel
theorem dX7_run_18 : decode cX7_run 18 = .ok (.iconst 0, 1) := by decide +kernel
theorem dX7_run_19 : decode cX7_run 19 = .ok (.putfield 207, 3) := by decide +kernel
theorem dX7_run_22 : decode cX7_run 22 = .ok (.aload_n 0, 1) := by decide +kernel
theorem dX7_run_23 : decode cX7_run 23 = .ok (.invokevirtual 217, 3) := by decide +kernel
theorem dX7_run_26 : decode cX7_run 26 = .ok (.istore_n 1, 1) := by decide +kernel
theorem dX7_run_27 : decode cX7_run 27 = .ok (.aload_n 0, 1) := by decide +kernel
theorem dX7_run_28 : decode cX7_run 28 = .ok (.getfield 185, 3) := by decide +kernel
theorem dX7_run_31 : decode cX7_run 31 = .ok (.ifCond .eq 12, 3) := by decide +kernel
theorem dX7_run_34 : decode cX7_run 34 = .ok (.sipush (-2000), 3) := by decide +kernel
theorem dX7_run_37 : decode cX7_run 37 = .ok (.aload_n 0, 1) := by decide +kernel
theorem dX7_run_38 : decode cX7_run 38 = .ok (.getfield 179, 3) := by decide +kernel
theorem dX7_run_41 : decode cX7_run 41 = .ok (.isub, 1) := by decide +kernel
theorem dX7_run_42 : decode cX7_run 42 = .ok (.ireturn, 1) := by decide +kernel
theorem dX7_run_43 : decode cX7_run 43 = .ok (.aload_n 0, 1) := by decide +kernel
theorem dX7_run_44 : decode cX7_run 44 = .ok (.iconst 1, 1) := by decide +kernel
theorem dX7_run_45 : decode cX7_run 45 = .ok (.putfield 207, 3) := by decide +kernel
theorem dX7_run_48 : decode cX7_run 48 = .ok (.aload_n 0, 1) := by decide +kernel
theorem dX7_run_49 : decode cX7_run 49 = .ok (.invokevirtual 217, 3) := by decide +kernel
theorem dX7_run_52 : decode cX7_run 52 = .ok (.istore_n 1, 1) := by decide +kernel
theorem dX7_run_53 : decode cX7_run 53 = .ok (.aload_n 0, 1) := by decide +kernel
theorem dX7_run_54 : decode cX7_run 54 = .ok (.aload_n 0, 1) := by decide +kernel
theorem dX7_run_55 : decode cX7_run 55 = .ok (.getfield 31, 3) := by decide +kernel
theorem dX7_run_58 : decode cX7_run 58 = .ok (.ifCond .ne 7, 3) := by decide +kernel
theorem dX7_run_61 : decode cX7_run 61 = .ok (.iload_n 1, 1) := by decide +kernel
theorem dX7_run_62 : decode cX7_run 62 = .ok (.goto 12, 3) := by decide +kernel
theorem dX7_run_65 : decode cX7_run 65 = .ok (.aload_n 0, 1) := by decide +kernel
theorem dX7_run_66 : decode cX7_run 66 = .ok (.bipush 12, 2) := by decide +kernel
theorem dX7_run_68 : decode cX7_run 68 = .ok (.iload_n 1, 1) := by decide +kernel
theorem dX7_run_69 : decode cX7_run 69 = .ok (.iconst 1, 1) := by decide +kernel
theorem dX7_run_70 : decode cX7_run 70 = .ok (.isub, 1) := by decide +kernel
theorem dX7_run_71 : decode cX7_run 71 = .ok (.invokevirtual 66, 3) := by decide +kernel
theorem dX7_run_74 : decode cX7_run 74 = .ok (.invokevirtual 75, 3) := by decide +kernel
theorem dX7_run_77 : decode cX7_run 77 = .ok (.ireturn, 1) := by decide +kernel
theorem dX7_tell_0 : decode cX7_tell 0 = .ok (.aload_n 0, 1) := by decide +kernel
theorem dX7_tell_1 : decode cX7_tell 1 = .ok (.iload_n 1, 1) := by decide +kernel
theorem dX7_tell_2 : decode cX7_tell 2 = .ok (.invokevirtual 81, 3) := by decide +kernel
theorem dX7_tell_5 : decode cX7_tell 5 = .ok (.ifCond .ne 7, 3) := by decide +kernel
theorem dX7_tell_8 : decode cX7_tell 8 = .ok (.sipush (-1011), 3) := by decide +kernel
theorem dX7_tell_11 : decode cX7_tell 11 = .ok (.ireturn, 1) := by decide +kernel
theorem dX7_tell_12 : decode cX7_tell 12 = .ok (.aload_n 0, 1) := by decide +kernel
theorem dX7_tell_13 : decode cX7_tell 13 = .ok (.iconst 0, 1) := by decide +kernel
theorem dX7_tell_14 : decode cX7_tell 14 = .ok (.putfield 170, 3) := by decide +kernel
theorem dX7_tell_17 : decode cX7_tell 17 = .ok (.aload_n 0, 1) := by decide +kernel
theorem dX7_tell_18 : decode cX7_tell 18 = .ok (.iload_n 1, 1) := by decide +kernel
theorem dX7_tell_19 : decode cX7_tell 19 = .ok (.invokevirtual 220, 3) := by decide +kernel
theorem dX7_tell_22 : decode cX7_tell 22 = .ok (.aload_n 0, 1) := by decide +kernel
theorem dX7_tell_23 : decode cX7_tell 23 = .ok (.bipush 115, 2) := by decide +kernel
theorem dX7_tell_25 : decode cX7_tell 25 = .ok (.invokevirtual 173, 3) := by decide +kernel
theorem dX7_tell_28 : decode cX7_tell 28 = .ok (.aload_n 0, 1) := by decide +kernel
theorem dX7_tell_29 : decode cX7_tell 29 = .ok (.aload_n 0, 1) := by decide +kernel
theorem dX7_tell_30 : decode cX7_tell 30 = .ok (.getfield 7, 3) := by decide +kernel
theorem dX7_tell_33 : decode cX7_tell 33 = .ok (.iload_n 1, 1) := by decide +kernel
theorem dX7_tell_34 : decode cX7_tell 34 = .ok (.iconst 0, 1) := by decide +kernel
theorem dX7_tell_35 : decode cX7_tell 35 = .ok (.invokestatic 63, 3) := by decide +kernel
theorem dX7_tell_38 : decode cX7_tell 38 = .ok (.iaload, 1) := by decide +kernel
theorem dX7_tell_39 : decode cX7_tell 39 = .ok (.invokevirtual 220, 3) := by decide +kernel
theorem dX7_tell_42 : decode cX7_tell 42 = .ok (.aload_n 0, 1) := by decide +kernel
theorem dX7_tell_43 : decode cX7_tell 43 = .ok (.bipush 36, 2) := by decide +kernel
theorem dX7_tell_45 : decode cX7_tell 45 = .ok (.invokevirtual 173, 3) := by decide +kernel
theorem dX7_tell_48 : decode cX7_tell 48 = .ok (.aload_n 0, 1) := by decide +kernel
theorem dX7_tell_49 : decode cX7_tell 49 = .ok (.aload_n 0, 1) := by decide +kernel
theorem dX7_tell_50 : decode cX7_tell 50 = .ok (.getfield 7, 3) := by decide +kernel
theorem dX7_tell_53 : decode cX7_tell 53 = .ok (.iload_n 1, 1) := by decide +kernel
theorem dX7_tell_54 : decode cX7_tell 54 = .ok (.iconst 1, 1) := by decide +kernel
theorem dX7_tell_55 : decode cX7_tell 55 = .ok (.invokestatic 63, 3) := by decide +kernel
theorem dX7_tell_58 : decode cX7_tell 58 = .ok (.iaload, 1) := by decide +kernel
theorem dX7_tell_59 : decode cX7_tell 59 = .ok (.invokevirtual 220, 3) := by decide +kernel
theorem dX7_tell_62 : decode cX7_tell 62 = .ok (.aload_n 0, 1) := by decide +kernel
theorem dX7_tell_63 : decode cX7_tell 63 = .ok (.getfield 7, 3) := by decide +kernel
theorem dX7_tell_66 : decode cX7_tell 66 = .ok (.iload_n 1, 1) := by decide +kernel
theorem dX7_tell_67 : decode cX7_tell 67 = .ok (.iconst 2, 1) := by decide +kernel
theorem dX7_tell_68 : decode cX7_tell 68 = .ok (.invokestatic 63, 3) := by decide +kernel
theorem dX7_tell_71 : decode cX7_tell 71 = .ok (.iaload, 1) := by decide +kernel
theorem dX7_tell_72 : decode cX7_tell 72 = .ok (.ifCond .le 23, 3) := by decide +kernel
theorem dX7_tell_75 : decode cX7_tell 75 = .ok (.aload_n 0, 1) := by decide +kernel
theorem dX7_tell_76 : decode cX7_tell 76 = .ok (.bipush 126, 2) := by decide +kernel
theorem dX7_tell_78 : decode cX7_tell 78 = .ok (.invokevirtual 173, 3) := by decide +kernel
theorem dX7_tell_81 : decode cX7_tell 81 = .ok (.aload_n 0, 1) := by decide +kernel
theorem dX7_tell_82 : decode cX7_tell 82 = .ok (.aload_n 0, 1) := by decide +kernel
theorem dX7_tell_83 : decode cX7_tell 83 = .ok (.getfield 7, 3) := by decide +kernel
theorem dX7_tell_86 : decode cX7_tell 86 = .ok (.iload_n 1, 1) := by decide +kernel
theorem dX7_tell_87 : decode cX7_tell 87 = .ok (.iconst 2, 1) := by decide +kernel
theorem dX7_tell_88 : decode cX7_tell 88 = .ok (.invokestatic 63, 3) := by decide +kernel
theorem dX7_tell_91 : decode cX7_tell 91 = .ok (.iaload, 1) := by decide +kernel
theorem dX7_tell_92 : decode cX7_tell 92 = .ok (.invokevirtual 220, 3) := by decide +kernel
theorem dX7_tell_95 : decode cX7_tell 95 = .ok (.iconst 0, 1) := by decide +kernel
theorem dX7_tell_96 : decode cX7_tell 96 = .ok (.istore_n 2, 1) := by decide +kernel
theorem dX7_tell_97 : decode cX7_tell 97 = .ok (.iload_n 2, 1) := by decide +kernel
theorem dX7_tell_98 : decode cX7_tell 98 = .ok (.aload_n 0, 1) := by decide +kernel
theorem dX7_tell_99 : decode cX7_tell 99 = .ok (.getfield 7, 3) := by decide +kernel
theorem dX7_tell_102 : decode cX7_tell 102 = .ok (.iload_n 1, 1) := by decide +kernel
theorem dX7_tell_103 : decode cX7_tell 103 = .ok (.iconst 3, 1) := by decide +kernel
theorem dX7_tell_104 : decode cX7_tell 104 = .ok (.invokestatic 63, 3) := by decide +kernel
theorem dX7_tell_107 : decode cX7_tell 107 = .ok (.iaload, 1) := by decide +kernel
theorem dX7_tell_108 : decode cX7_tell 108 = .ok (.if_icmp .ge 15, 3) := by decide +kernel
theorem dX7_tell_111 : decode cX7_tell 111 = .ok (.aload_n 0, 1) := by decide +kernel
theorem dX7_tell_112 : decode cX7_tell 112 = .ok (.bipush 43, 2) := by decide +kernel
theorem dX7_tell_114 : decode cX7_tell 114 = .ok (.invokevirtual 173, 3) := by decide +kernel
theorem dX7_tell_117 : decode cX7_tell 117 = .ok (.iinc 2 1, 3) := by decide +kernel
theorem dX7_tell_120 : decode cX7_tell 120 = .ok (.goto (-23), 3) := by decide +kernel
theorem dX7_tell_123 : decode cX7_tell 123 = .ok (.aload_n 0, 1) := by decide +kernel
theorem dX7_tell_124 : decode cX7_tell 124 = .ok (.getfield 170, 3) := by decide +kernel
theorem dX7_tell_127 : decode cX7_tell 127 = .ok (.ireturn, 1) := by decide +kernel
theorem dX7_tellBookings_0 : decode cX7_tellBookings 0 = .ok (.aload_n 0, 1) := by decide +kernel
theorem dX7_tellBookings_1 : decode cX7_tellBookings 1 = .ok (.iconst 0, 1) := by decide +kernel
theorem dX7_tellBookings_2 : decode cX7_tellBookings 2 = .ok (.putfield 170, 3) := by decide +kernel
theorem dX7_tellBookings_5 : decode cX7_tellBookings 5 = .ok (.iconst 0, 1) := by decide +kernel
theorem dX7_tellBookings_6 : decode cX7_tellBookings 6 = .ok (.istore_n 1, 1) := by decide +kernel
theorem dX7_tellBookings_7 : decode cX7_tellBookings 7 = .ok (.iload_n 1, 1) := by decide +kernel
theorem dX7_tellBookings_8 : decode cX7_tellBookings 8 = .ok (.aload_n 0, 1) := by decide +kernel
theorem dX7_tellBookings_9 : decode cX7_tellBookings 9 = .ok (.getfield 7, 3) := by decide +kernel
theorem dX7_tellBookings_12 : decode cX7_tellBookings 12 = .ok (.iconst 2, 1) := by decide +kernel
theorem dX7_tellBookings_13 : decode cX7_tellBookings 13 = .ok (.iaload, 1) := by decide +kernel
theorem dX7_tellBookings_14 : decode cX7_tellBookings 14 = .ok (.if_icmp .ge 77, 3) := by decide +kernel
theorem dX7_tellBookings_17 : decode cX7_tellBookings 17 = .ok (.iload_n 1, 1) := by decide +kernel
theorem dX7_tellBookings_18 : decode cX7_tellBookings 18 = .ok (.ifCond .le 9, 3) := by decide +kernel
theorem dX7_tellBookings_21 : decode cX7_tellBookings 21 = .ok (.aload_n 0, 1) := by decide +kernel
theorem dX7_tellBookings_22 : decode cX7_tellBookings 22 = .ok (.bipush 32, 2) := by decide +kernel
theorem dX7_tellBookings_24 : decode cX7_tellBookings 24 = .ok (.invokevirtual 173, 3) := by decide +kernel
theorem dX7_tellBookings_27 : decode cX7_tellBookings 27 = .ok (.aload_n 0, 1) := by decide +kernel
theorem dX7_tellBookings_28 : decode cX7_tellBookings 28 = .ok (.aload_n 0, 1) := by decide +kernel
theorem dX7_tellBookings_29 : decode cX7_tellBookings 29 = .ok (.iload_n 1, 1) := by decide +kernel
theorem dX7_tellBookings_30 : decode cX7_tellBookings 30 = .ok (.iconst 0, 1) := by decide +kernel
theorem dX7_tellBookings_31 : decode cX7_tellBookings 31 = .ok (.invokevirtual 101, 3) := by decide +kernel
theorem dX7_tellBookings_34 : decode cX7_tellBookings 34 = .ok (.invokevirtual 220, 3) := by decide +kernel
theorem dX7_tellBookings_37 : decode cX7_tellBookings 37 = .ok (.aload_n 0, 1) := by decide +kernel
theorem dX7_tellBookings_38 : decode cX7_tellBookings 38 = .ok (.bipush 58, 2) := by decide +kernel
theorem dX7_tellBookings_40 : decode cX7_tellBookings 40 = .ok (.invokevirtual 173, 3) := by decide +kernel
theorem dX7_tellBookings_43 : decode cX7_tellBookings 43 = .ok (.aload_n 0, 1) := by decide +kernel
theorem dX7_tellBookings_44 : decode cX7_tellBookings 44 = .ok (.aload_n 0, 1) := by decide +kernel
theorem dX7_tellBookings_45 : decode cX7_tellBookings 45 = .ok (.iload_n 1, 1) := by decide +kernel
theorem dX7_tellBookings_46 : decode cX7_tellBookings 46 = .ok (.iconst 1, 1) := by decide +kernel
theorem dX7_tellBookings_47 : decode cX7_tellBookings 47 = .ok (.invokevirtual 101, 3) := by decide +kernel
theorem dX7_tellBookings_50 : decode cX7_tellBookings 50 = .ok (.invokevirtual 220, 3) := by decide +kernel
theorem dX7_tellBookings_53 : decode cX7_tellBookings 53 = .ok (.aload_n 0, 1) := by decide +kernel
theorem dX7_tellBookings_54 : decode cX7_tellBookings 54 = .ok (.bipush 64, 2) := by decide +kernel
theorem dX7_tellBookings_56 : decode cX7_tellBookings 56 = .ok (.invokevirtual 173, 3) := by decide +kernel
theorem dX7_tellBookings_59 : decode cX7_tellBookings 59 = .ok (.aload_n 0, 1) := by decide +kernel
theorem dX7_tellBookings_60 : decode cX7_tellBookings 60 = .ok (.aload_n 0, 1) := by decide +kernel
theorem dX7_tellBookings_61 : decode cX7_tellBookings 61 = .ok (.iload_n 1, 1) := by decide +kernel
theorem dX7_tellBookings_62 : decode cX7_tellBookings 62 = .ok (.iconst 2, 1) := by decide +kernel
theorem dX7_tellBookings_63 : decode cX7_tellBookings 63 = .ok (.invokevirtual 101, 3) := by decide +kernel
theorem dX7_tellBookings_66 : decode cX7_tellBookings 66 = .ok (.invokevirtual 220, 3) := by decide +kernel
theorem dX7_tellBookings_69 : decode cX7_tellBookings 69 = .ok (.aload_n 0, 1) := by decide +kernel
theorem dX7_tellBookings_70 : decode cX7_tellBookings 70 = .ok (.bipush 61, 2) := by decide +kernel
theorem dX7_tellBookings_72 : decode cX7_tellBookings 72 = .ok (.invokevirtual 173, 3) := by decide +kernel
theorem dX7_tellBookings_75 : decode cX7_tellBookings 75 = .ok (.aload_n 0, 1) := by decide +kernel
theorem dX7_tellBookings_76 : decode cX7_tellBookings 76 = .ok (.aload_n 0, 1) := by decide +kernel
theorem dX7_tellBookings_77 : decode cX7_tellBookings 77 = .ok (.iload_n 1, 1) := by decide +kernel
theorem dX7_tellBookings_78 : decode cX7_tellBookings 78 = .ok (.iconst 3, 1) := by decide +kernel
theorem dX7_tellBookings_79 : decode cX7_tellBookings 79 = .ok (.invokevirtual 101, 3) := by decide +kernel
theorem dX7_tellBookings_82 : decode cX7_tellBookings 82 = .ok (.invokevirtual 220, 3) := by decide +kernel
theorem dX7_tellBookings_85 : decode cX7_tellBookings 85 = .ok (.iinc 1 1, 3) := by decide +kernel
theorem dX7_tellBookings_88 : decode cX7_tellBookings 88 = .ok (.goto (-81), 3) := by decide +kernel
theorem dX7_tellBookings_91 : decode cX7_tellBookings 91 = .ok (.aload_n 0, 1) := by decide +kernel
theorem dX7_tellBookings_92 : decode cX7_tellBookings 92 = .ok (.getfield 170, 3) := by decide +kernel
theorem dX7_tellBookings_95 : decode cX7_tellBookings 95 = .ok (.ireturn, 1) := by decide +kernel
theorem dX7_character_0 : decode cX7_character 0 = .ok (.iload_n 1, 1) := by decide +kernel
theorem dX7_character_1 : decode cX7_character 1 = .ok (.iconst 0, 1) := by decide +kernel
theorem dX7_character_2 : decode cX7_character 2 = .ok (.aload_n 0, 1) := by decide +kernel
theorem dX7_character_3 : decode cX7_character 3 = .ok (.getfield 170, 3) := by decide +kernel
theorem dX7_character_6 : decode cX7_character 6 = .ok (.iconst 1, 1) := by decide +kernel
theorem dX7_character_7 : decode cX7_character 7 = .ok (.isub, 1) := by decide +kernel
theorem dX7_character_8 : decode cX7_character 8 = .ok (.invokestatic 52, 3) := by decide +kernel
theorem dX7_character_11 : decode cX7_character 11 = .ok (.ifCond .eq 12, 3) := by decide +kernel
theorem dX7_character_14 : decode cX7_character 14 = .ok (.aload_n 0, 1) := by decide +kernel
theorem dX7_character_15 : decode cX7_character 15 = .ok (.getfield 28, 3) := by decide +kernel
theorem dX7_character_18 : decode cX7_character 18 = .ok (.iload_n 1, 1) := by decide +kernel
theorem dX7_character_19 : decode cX7_character 19 = .ok (.iaload, 1) := by decide +kernel
theorem dX7_character_20 : decode cX7_character 20 = .ok (.goto 6, 3) := by decide +kernel
theorem dX7_character_23 : decode cX7_character 23 = .ok (.sipush (-1011), 3) := by decide +kernel
theorem dX7_character_26 : decode cX7_character 26 = .ok (.ireturn, 1) := by decide +kernel
theorem dX7_reason_0 : decode cX7_reason 0 = .ok (.aload_n 0, 1) := by decide +kernel
theorem dX7_reason_1 : decode cX7_reason 1 = .ok (.getfield 35, 3) := by decide +kernel
theorem dX7_reason_4 : decode cX7_reason 4 = .ok (.ifCond .ne 9, 3) := by decide +kernel
theorem dX7_reason_7 : decode cX7_reason 7 = .ok (.sipush (-1015), 3) := by decide +kernel
theorem dX7_reason_10 : decode cX7_reason 10 = .ok (.goto 18, 3) := by decide +kernel
theorem dX7_reason_13 : decode cX7_reason 13 = .ok (.iload_n 1, 1) := by decide +kernel
theorem dX7_reason_14 : decode cX7_reason 14 = .ok (.ifCond .eq 10, 3) := by decide +kernel
theorem dX7_reason_17 : decode cX7_reason 17 = .ok (.aload_n 0, 1) := by decide +kernel
theorem dX7_reason_18 : decode cX7_reason 18 = .ok (.getfield 38, 3) := by decide +kernel
theorem dX7_reason_21 : decode cX7_reason 21 = .ok (.goto 7, 3) := by decide +kernel
theorem dX7_reason_24 : decode cX7_reason 24 = .ok (.aload_n 0, 1) := by decide +kernel
theorem dX7_reason_25 : decode cX7_reason 25 = .ok (.getfield 35, 3) := by decide +kernel
theorem dX7_reason_28 : decode cX7_reason 28 = .ok (.ireturn, 1) := by decide +kernel
theorem dX7_account_0 : decode cX7_account 0 = .ok (.iload_n 1, 1) := by decide +kernel
theorem dX7_account_1 : decode cX7_account 1 = .ok (.tableswitch 138 0 14 #[75, 75, 75, 75, 82, 88, 98, 98, 98, 107, 113, 113, 122, 128, 133], 75) := by decide +kernel
theorem dX7_account_76 : decode cX7_account 76 = .ok (.aload_n 0, 1) := by decide +kernel
theorem dX7_account_77 : decode cX7_account 77 = .ok (.getfield 7, 3) := by decide +kernel
theorem dX7_account_80 : decode cX7_account 80 = .ok (.iload_n 1, 1) := by decide +kernel
theorem dX7_account_81 : decode cX7_account 81 = .ok (.iaload, 1) := by decide +kernel
theorem dX7_account_82 : decode cX7_account 82 = .ok (.ireturn, 1) := by decide +kernel
theorem dX7_account_83 : decode cX7_account 83 = .ok (.aload_n 0, 1) := by decide +kernel
theorem dX7_account_84 : decode cX7_account 84 = .ok (.iconst 1, 1) := by decide +kernel
theorem dX7_account_85 : decode cX7_account 85 = .ok (.invokevirtual 167, 3) := by decide +kernel
theorem dX7_account_88 : decode cX7_account 88 = .ok (.ireturn, 1) := by decide +kernel
theorem dX7_account_89 : decode cX7_account 89 = .ok (.bipush 10, 2) := by decide +kernel
theorem dX7_account_91 : decode cX7_account 91 = .ok (.aload_n 0, 1) := by decide +kernel
theorem dX7_account_92 : decode cX7_account 92 = .ok (.getfield 7, 3) := by decide +kernel
theorem dX7_account_95 : decode cX7_account 95 = .ok (.iconst 0, 1) := by decide +kernel
theorem dX7_account_96 : decode cX7_account 96 = .ok (.iaload, 1) := by decide +kernel
theorem dX7_account_97 : decode cX7_account 97 = .ok (.imul, 1) := by decide +kernel
theorem dX7_account_98 : decode cX7_account 98 = .ok (.ireturn, 1) := by decide +kernel
theorem dX7_account_99 : decode cX7_account 99 = .ok (.aload_n 0, 1) := by decide +kernel
theorem dX7_account_100 : decode cX7_account 100 = .ok (.getfield 7, 3) := by decide +kernel
theorem dX7_account_103 : decode cX7_account 103 = .ok (.iload_n 1, 1) := by decide +kernel
theorem dX7_account_104 : decode cX7_account 104 = .ok (.iconst 2, 1) := by decide +kernel
theorem dX7_account_105 : decode cX7_account 105 = .ok (.isub, 1) := by decide +kernel
theorem dX7_account_106 : decode cX7_account 106 = .ok (.iaload, 1) := by decide +kernel
theorem dX7_account_107 : decode cX7_account 107 = .ok (.ireturn, 1) := by decide +kernel
theorem dX7_account_108 : decode cX7_account 108 = .ok (.aload_n 0, 1) := by decide +kernel
theorem dX7_account_109 : decode cX7_account 109 = .ok (.iconst 2, 1) := by decide +kernel
theorem dX7_account_110 : decode cX7_account 110 = .ok (.invokevirtual 167, 3) := by decide +kernel
theorem dX7_account_113 : decode cX7_account 113 = .ok (.ireturn, 1) := by decide +kernel
theorem dX7_account_114 : decode cX7_account 114 = .ok (.aload_n 0, 1) := by decide +kernel
theorem dX7_account_115 : decode cX7_account 115 = .ok (.getfield 7, 3) := by decide +kernel
theorem dX7_account_118 : decode cX7_account 118 = .ok (.iload_n 1, 1) := by decide +kernel
theorem dX7_account_119 : decode cX7_account 119 = .ok (.iconst 3, 1) := by decide +kernel
theorem dX7_account_120 : decode cX7_account 120 = .ok (.isub, 1) := by decide +kernel
theorem dX7_account_121 : decode cX7_account 121 = .ok (.iaload, 1) := by decide +kernel
theorem dX7_account_122 : decode cX7_account 122 = .ok (.ireturn, 1) := by decide +kernel
theorem dX7_account_123 : decode cX7_account 123 = .ok (.aload_n 0, 1) := by decide +kernel
theorem dX7_account_124 : decode cX7_account 124 = .ok (.iconst (-1), 1) := by decide +kernel
theorem dX7_account_125 : decode cX7_account 125 = .ok (.invokevirtual 104, 3) := by decide +kernel
theorem dX7_account_128 : decode cX7_account 128 = .ok (.ireturn, 1) := by decide +kernel
theorem dX7_account_129 : decode cX7_account 129 = .ok (.aload_n 0, 1) := by decide +kernel
theorem dX7_account_130 : decode cX7_account 130 = .ok (.getfield 176, 3) := by decide +kernel
theorem dX7_account_133 : decode cX7_account 133 = .ok (.ireturn, 1) := by decide +kernel
theorem dX7_account_134 : decode cX7_account 134 = .ok (.aload_n 0, 1) := by decide +kernel
theorem dX7_account_135 : decode cX7_account 135 = .ok (.getfield 49, 3) := by decide +kernel
theorem dX7_account_138 : decode cX7_account 138 = .ok (.ireturn, 1) := by decide +kernel
theorem dX7_account_139 : decode cX7_account 139 = .ok (.sipush (-1012), 3) := by decide +kernel
theorem dX7_account_142 : decode cX7_account 142 = .ok (.ireturn, 1) := by decide +kernel
theorem dX7_isBalanced_0 : decode cX7_isBalanced 0 = .ok (.bipush 10, 2) := by decide +kernel
theorem dX7_isBalanced_2 : decode cX7_isBalanced 2 = .ok (.aload_n 0, 1) := by decide +kernel
theorem dX7_isBalanced_3 : decode cX7_isBalanced 3 = .ok (.getfield 7, 3) := by decide +kernel
theorem dX7_isBalanced_6 : decode cX7_isBalanced 6 = .ok (.iconst 0, 1) := by decide +kernel
theorem dX7_isBalanced_7 : decode cX7_isBalanced 7 = .ok (.iaload, 1) := by decide +kernel
theorem dX7_isBalanced_8 : decode cX7_isBalanced 8 = .ok (.imul, 1) := by decide +kernel
theorem dX7_isBalanced_9 : decode cX7_isBalanced 9 = .ok (.aload_n 0, 1) := by decide +kernel
theorem dX7_isBalanced_10 : decode cX7_isBalanced 10 = .ok (.getfield 7, 3) := by decide +kernel
theorem dX7_isBalanced_13 : decode cX7_isBalanced 13 = .ok (.iconst 4, 1) := by decide +kernel
theorem dX7_isBalanced_14 : decode cX7_isBalanced 14 = .ok (.iaload, 1) := by decide +kernel
theorem dX7_isBalanced_15 : decode cX7_isBalanced 15 = .ok (.iadd, 1) := by decide +kernel
theorem dX7_isBalanced_16 : decode cX7_isBalanced 16 = .ok (.aload_n 0, 1) := by decide +kernel
theorem dX7_isBalanced_17 : decode cX7_isBalanced 17 = .ok (.iconst 1, 1) := by decide +kernel
theorem dX7_isBalanced_18 : decode cX7_isBalanced 18 = .ok (.invokevirtual 167, 3) := by decide +kernel
theorem dX7_isBalanced_21 : decode cX7_isBalanced 21 = .ok (.aload_n 0, 1) := by decide +kernel
theorem dX7_isBalanced_22 : decode cX7_isBalanced 22 = .ok (.getfield 7, 3) := by decide +kernel
theorem dX7_isBalanced_25 : decode cX7_isBalanced 25 = .ok (.iconst 5, 1) := by decide +kernel
theorem dX7_isBalanced_26 : decode cX7_isBalanced 26 = .ok (.iaload, 1) := by decide +kernel
theorem dX7_isBalanced_27 : decode cX7_isBalanced 27 = .ok (.iadd, 1) := by decide +kernel
theorem dX7_isBalanced_28 : decode cX7_isBalanced 28 = .ok (.aload_n 0, 1) := by decide +kernel
theorem dX7_isBalanced_29 : decode cX7_isBalanced 29 = .ok (.getfield 7, 3) := by decide +kernel
theorem dX7_isBalanced_32 : decode cX7_isBalanced 32 = .ok (.bipush 6, 2) := by decide +kernel
theorem dX7_isBalanced_34 : decode cX7_isBalanced 34 = .ok (.iaload, 1) := by decide +kernel
theorem dX7_isBalanced_35 : decode cX7_isBalanced 35 = .ok (.iadd, 1) := by decide +kernel
theorem dX7_isBalanced_36 : decode cX7_isBalanced 36 = .ok (.if_icmp .ne 7, 3) := by decide +kernel
theorem dX7_isBalanced_39 : decode cX7_isBalanced 39 = .ok (.iconst 1, 1) := by decide +kernel
theorem dX7_isBalanced_40 : decode cX7_isBalanced 40 = .ok (.goto 4, 3) := by decide +kernel
theorem dX7_isBalanced_43 : decode cX7_isBalanced 43 = .ok (.iconst 0, 1) := by decide +kernel
theorem dX7_isBalanced_44 : decode cX7_isBalanced 44 = .ok (.ireturn, 1) := by decide +kernel
theorem dX7_meanWit_0 : decode cX7_meanWit 0 = .ok (.iconst 0, 1) := by decide +kernel
theorem dX7_meanWit_1 : decode cX7_meanWit 1 = .ok (.istore_n 1, 1) := by decide +kernel
theorem dX7_meanWit_2 : decode cX7_meanWit 2 = .ok (.iconst 0, 1) := by decide +kernel
theorem dX7_meanWit_3 : decode cX7_meanWit 3 = .ok (.istore_n 2, 1) := by decide +kernel
theorem dX7_meanWit_4 : decode cX7_meanWit 4 = .ok (.iload_n 2, 1) := by decide +kernel
theorem dX7_meanWit_5 : decode cX7_meanWit 5 = .ok (.aload_n 0, 1) := by decide +kernel
theorem dX7_meanWit_6 : decode cX7_meanWit 6 = .ok (.getfield 7, 3) := by decide +kernel
theorem dX7_meanWit_9 : decode cX7_meanWit 9 = .ok (.iconst 1, 1) := by decide +kernel
theorem dX7_meanWit_10 : decode cX7_meanWit 10 = .ok (.iaload, 1) := by decide +kernel
theorem dX7_meanWit_11 : decode cX7_meanWit 11 = .ok (.if_icmp .ge 22, 3) := by decide +kernel
theorem dX7_meanWit_14 : decode cX7_meanWit 14 = .ok (.iload_n 1, 1) := by decide +kernel
theorem dX7_meanWit_15 : decode cX7_meanWit 15 = .ok (.aload_n 0, 1) := by decide +kernel
theorem dX7_meanWit_16 : decode cX7_meanWit 16 = .ok (.getfield 7, 3) := by decide +kernel
theorem dX7_meanWit_19 : decode cX7_meanWit 19 = .ok (.iload_n 2, 1) := by decide +kernel
theorem dX7_meanWit_20 : decode cX7_meanWit 20 = .ok (.iconst 0, 1) := by decide +kernel
theorem dX7_meanWit_21 : decode cX7_meanWit 21 = .ok (.invokestatic 56, 3) := by decide +kernel
theorem dX7_meanWit_24 : decode cX7_meanWit 24 = .ok (.iaload, 1) := by decide +kernel
theorem dX7_meanWit_25 : decode cX7_meanWit 25 = .ok (.iadd, 1) := by decide +kernel
theorem dX7_meanWit_26 : decode cX7_meanWit 26 = .ok (.istore_n 1, 1) := by decide +kernel
theorem dX7_meanWit_27 : decode cX7_meanWit 27 = .ok (.iinc 2 1, 3) := by decide +kernel
theorem dX7_meanWit_30 : decode cX7_meanWit 30 = .ok (.goto (-26), 3) := by decide +kernel
theorem dX7_meanWit_33 : decode cX7_meanWit 33 = .ok (.aload_n 0, 1) := by decide +kernel
theorem dX7_meanWit_34 : decode cX7_meanWit 34 = .ok (.getfield 7, 3) := by decide +kernel
theorem dX7_meanWit_37 : decode cX7_meanWit 37 = .ok (.iconst 1, 1) := by decide +kernel
theorem dX7_meanWit_38 : decode cX7_meanWit 38 = .ok (.iaload, 1) := by decide +kernel
theorem dX7_meanWit_39 : decode cX7_meanWit 39 = .ok (.ifCond .ne 7, 3) := by decide +kernel
theorem dX7_meanWit_42 : decode cX7_meanWit 42 = .ok (.dconst 0, 1) := by decide +kernel
theorem dX7_meanWit_43 : decode cX7_meanWit 43 = .ok (.goto 13, 3) := by decide +kernel
theorem dX7_meanWit_46 : decode cX7_meanWit 46 = .ok (.iload_n 1, 1) := by decide +kernel
theorem dX7_meanWit_47 : decode cX7_meanWit 47 = .ok (.i2d, 1) := by decide +kernel
theorem dX7_meanWit_48 : decode cX7_meanWit 48 = .ok (.aload_n 0, 1) := by decide +kernel
theorem dX7_meanWit_49 : decode cX7_meanWit 49 = .ok (.getfield 7, 3) := by decide +kernel
theorem dX7_meanWit_52 : decode cX7_meanWit 52 = .ok (.iconst 1, 1) := by decide +kernel
theorem dX7_meanWit_53 : decode cX7_meanWit 53 = .ok (.iaload, 1) := by decide +kernel
theorem dX7_meanWit_54 : decode cX7_meanWit 54 = .ok (.i2d, 1) := by decide +kernel
theorem dX7_meanWit_55 : decode cX7_meanWit 55 = .ok (.ddiv, 1) := by decide +kernel
theorem dX7_meanWit_56 : decode cX7_meanWit 56 = .ok (.dreturn, 1) := by decide +kernel
theorem dX7_slipShare_0 : decode cX7_slipShare 0 = .ok (.aload_n 0, 1) := by decide +kernel
theorem dX7_slipShare_1 : decode cX7_slipShare 1 = .ok (.iconst 4, 1) := by decide +kernel
theorem dX7_slipShare_2 : decode cX7_slipShare 2 = .ok (.invokevirtual 167, 3) := by decide +kernel
theorem dX7_slipShare_5 : decode cX7_slipShare 5 = .ok (.ifCond .ne 7, 3) := by decide +kernel
theorem dX7_slipShare_8 : decode cX7_slipShare 8 = .ok (.fconst 0, 1) := by decide +kernel
theorem dX7_slipShare_9 : decode cX7_slipShare 9 = .ok (.goto 18, 3) := by decide +kernel
theorem dX7_slipShare_12 : decode cX7_slipShare 12 = .ok (.aload_n 0, 1) := by decide +kernel
theorem dX7_slipShare_13 : decode cX7_slipShare 13 = .ok (.getfield 7, 3) := by decide +kernel
theorem dX7_slipShare_16 : decode cX7_slipShare 16 = .ok (.bipush 8, 2) := by decide +kernel
theorem dX7_slipShare_18 : decode cX7_slipShare 18 = .ok (.iaload, 1) := by decide +kernel
theorem dX7_slipShare_19 : decode cX7_slipShare 19 = .ok (.i2f, 1) := by decide +kernel
theorem dX7_slipShare_20 : decode cX7_slipShare 20 = .ok (.aload_n 0, 1) := by decide +kernel
theorem dX7_slipShare_21 : decode cX7_slipShare 21 = .ok (.iconst 4, 1) := by decide +kernel
theorem dX7_slipShare_22 : decode cX7_slipShare 22 = .ok (.invokevirtual 167, 3) := by decide +kernel
theorem dX7_slipShare_25 : decode cX7_slipShare 25 = .ok (.i2f, 1) := by decide +kernel
theorem dX7_slipShare_26 : decode cX7_slipShare 26 = .ok (.fdiv, 1) := by decide +kernel
theorem dX7_slipShare_27 : decode cX7_slipShare 27 = .ok (.freturn, 1) := by decide +kernel
theorem dX7_undo_0 : decode cX7_undo 0 = .ok (.aload_n 0, 1) := by decide +kernel
theorem dX7_undo_1 : decode cX7_undo 1 = .ok (.getfield 49, 3) := by decide +kernel
theorem dX7_undo_4 : decode cX7_undo 4 = .ok (.ifCond .ne 7, 3) := by decide +kernel
theorem dX7_undo_7 : decode cX7_undo 7 = .ok (.sipush (-1015), 3) := by decide +kernel
theorem dX7_undo_10 : decode cX7_undo 10 = .ok (.ireturn, 1) := by decide +kernel
theorem dX7_undo_11 : decode cX7_undo 11 = .ok (.aload_n 0, 1) := by decide +kernel
theorem dX7_undo_12 : decode cX7_undo 12 = .ok (.dup, 1) := by decide +kernel
theorem dX7_undo_13 : decode cX7_undo 13 = .ok (.getfield 49, 3) := by decide +kernel
theorem dX7_undo_16 : decode cX7_undo 16 = .ok (.iconst 1, 1) := by decide +kernel
theorem dX7_undo_17 : decode cX7_undo 17 = .ok (.isub, 1) := by decide +kernel
theorem dX7_undo_18 : decode cX7_undo 18 = .ok (.putfield 49, 3) := by decide +kernel
theorem dX7_undo_21 : decode cX7_undo 21 = .ok (.iconst 0, 1) := by decide +kernel
theorem dX7_undo_22 : decode cX7_undo 22 = .ok (.istore_n 1, 1) := by decide +kernel
theorem dX7_undo_23 : decode cX7_undo 23 = .ok (.iload_n 1, 1) := by decide +kernel
theorem dX7_undo_24 : decode cX7_undo 24 = .ok (.sipush 182, 3) := by decide +kernel
theorem dX7_undo_27 : decode cX7_undo 27 = .ok (.if_icmp .ge 30, 3) := by decide +kernel
theorem dX7_undo_30 : decode cX7_undo 30 = .ok (.aload_n 0, 1) := by decide +kernel
theorem dX7_undo_31 : decode cX7_undo 31 = .ok (.getfield 7, 3) := by decide +kernel
theorem dX7_undo_34 : decode cX7_undo 34 = .ok (.iload_n 1, 1) := by decide +kernel
theorem dX7_undo_35 : decode cX7_undo 35 = .ok (.aload_n 0, 1) := by decide +kernel
theorem dX7_undo_36 : decode cX7_undo 36 = .ok (.getfield 22, 3) := by decide +kernel
theorem dX7_undo_39 : decode cX7_undo 39 = .ok (.aload_n 0, 1) := by decide +kernel
theorem dX7_undo_40 : decode cX7_undo 40 = .ok (.getfield 49, 3) := by decide +kernel
theorem dX7_undo_43 : decode cX7_undo 43 = .ok (.sipush 182, 3) := by decide +kernel
theorem dX7_undo_46 : decode cX7_undo 46 = .ok (.imul, 1) := by decide +kernel
theorem dX7_undo_47 : decode cX7_undo 47 = .ok (.iload_n 1, 1) := by decide +kernel
theorem dX7_undo_48 : decode cX7_undo 48 = .ok (.iadd, 1) := by decide +kernel
theorem dX7_undo_49 : decode cX7_undo 49 = .ok (.iaload, 1) := by decide +kernel
theorem dX7_undo_50 : decode cX7_undo 50 = .ok (.iastore, 1) := by decide +kernel
theorem dX7_undo_51 : decode cX7_undo 51 = .ok (.iinc 1 1, 3) := by decide +kernel
theorem dX7_undo_54 : decode cX7_undo 54 = .ok (.goto (-31), 3) := by decide +kernel
theorem dX7_undo_57 : decode cX7_undo 57 = .ok (.aload_n 0, 1) := by decide +kernel
theorem dX7_undo_58 : decode cX7_undo 58 = .ok (.getfield 49, 3) := by decide +kernel
theorem dX7_undo_61 : decode cX7_undo 61 = .ok (.ireturn, 1) := by decide +kernel
theorem dX7_save_0 : decode cX7_save 0 = .ok (.aload_n 0, 1) := by decide +kernel
theorem dX7_save_1 : decode cX7_save 1 = .ok (.getfield 16, 3) := by decide +kernel
theorem dX7_save_4 : decode cX7_save 4 = .ok (.aload_n 0, 1) := by decide +kernel
theorem dX7_save_5 : decode cX7_save 5 = .ok (.getfield 7, 3) := by decide +kernel
theorem dX7_save_8 : decode cX7_save 8 = .ok (.invokestatic 45, 3) := by decide +kernel
theorem dX7_save_11 : decode cX7_save 11 = .ok (.aload_n 0, 1) := by decide +kernel
theorem dX7_save_12 : decode cX7_save 12 = .ok (.iconst 1, 1) := by decide +kernel
theorem dX7_save_13 : decode cX7_save 13 = .ok (.putfield 223, 3) := by decide +kernel
theorem dX7_save_16 : decode cX7_save 16 = .ok (.aload_n 0, 1) := by decide +kernel
theorem dX7_save_17 : decode cX7_save 17 = .ok (.getfield 7, 3) := by decide +kernel
theorem dX7_save_20 : decode cX7_save 20 = .ok (.iconst 0, 1) := by decide +kernel
theorem dX7_save_21 : decode cX7_save 21 = .ok (.iaload, 1) := by decide +kernel
theorem dX7_save_22 : decode cX7_save 22 = .ok (.ireturn, 1) := by decide +kernel
theorem dX7_restore_0 : decode cX7_restore 0 = .ok (.aload_n 0, 1) := by decide +kernel
theorem dX7_restore_1 : decode cX7_restore 1 = .ok (.getfield 223, 3) := by decide +kernel
theorem dX7_restore_4 : decode cX7_restore 4 = .ok (.ifCond .ne 7, 3) := by decide +kernel
theorem dX7_restore_7 : decode cX7_restore 7 = .ok (.sipush (-1015), 3) := by decide +kernel
theorem dX7_restore_10 : decode cX7_restore 10 = .ok (.ireturn, 1) := by decide +kernel
theorem dX7_restore_11 : decode cX7_restore 11 = .ok (.aload_n 0, 1) := by decide +kernel
theorem dX7_restore_12 : decode cX7_restore 12 = .ok (.getfield 7, 3) := by decide +kernel
theorem dX7_restore_15 : decode cX7_restore 15 = .ok (.aload_n 0, 1) := by decide +kernel
theorem dX7_restore_16 : decode cX7_restore 16 = .ok (.getfield 16, 3) := by decide +kernel
theorem dX7_restore_19 : decode cX7_restore 19 = .ok (.invokestatic 45, 3) := by decide +kernel
theorem dX7_restore_22 : decode cX7_restore 22 = .ok (.aload_n 0, 1) := by decide +kernel
theorem dX7_restore_23 : decode cX7_restore 23 = .ok (.iconst 0, 1) := by decide +kernel
theorem dX7_restore_24 : decode cX7_restore 24 = .ok (.putfield 49, 3) := by decide +kernel
theorem dX7_restore_27 : decode cX7_restore 27 = .ok (.aload_n 0, 1) := by decide +kernel
theorem dX7_restore_28 : decode cX7_restore 28 = .ok (.getfield 7, 3) := by decide +kernel
theorem dX7_restore_31 : decode cX7_restore 31 = .ok (.iconst 0, 1) := by decide +kernel
theorem dX7_restore_32 : decode cX7_restore 32 = .ok (.iaload, 1) := by decide +kernel
theorem dX7_restore_33 : decode cX7_restore 33 = .ok (.ireturn, 1) := by decide +kernel
