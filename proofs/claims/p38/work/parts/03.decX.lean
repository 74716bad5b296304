theorem dX0_init_0 : decode cX0_init 0 = .ok (.aload_n 0, 1) := by decide +kernel
theorem dX0_init_1 : decode cX0_init 1 = .ok (.invokespecial 3, 3) := by decide +kernel
theorem dX0_init_4 : decode cX0_init 4 = .ok (.aload_n 0, 1) := by decide +kernel
theorem dX0_init_5 : decode cX0_init 5 = .ok (.iconst 0, 1) := by decide +kernel
theorem dX0_init_6 : decode cX0_init 6 = .ok (.putfield 9, 3) := by decide +kernel
theorem dX0_init_9 : decode cX0_init 9 = .ok (.aload_n 0, 1) := by decide +kernel
theorem dX0_init_10 : decode cX0_init 10 = .ok (.bipush 10, 2) := by decide +kernel
theorem dX0_init_12 : decode cX0_init 12 = .ok (.newarray .int, 2) := by decide +kernel
theorem dX0_init_14 : decode cX0_init 14 = .ok (.putfield 15, 3) := by decide +kernel
theorem dX0_init_17 : decode cX0_init 17 = .ok (.aload_n 0, 1) := by decide +kernel
theorem dX0_init_18 : decode cX0_init 18 = .ok (.bipush 10, 2) := by decide +kernel
theorem dX0_init_20 : decode cX0_init 20 = .ok (.newarray .int, 2) := by decide +kernel
theorem dX0_init_22 : decode cX0_init 22 = .ok (.putfield 19, 3) := by decide +kernel
theorem dX0_init_25 : decode cX0_init 25 = .ok (.aload_n 0, 1) := by decide +kernel
theorem dX0_init_26 : decode cX0_init 26 = .ok (.bipush 10, 2) := by decide +kernel
theorem dX0_init_28 : decode cX0_init 28 = .ok (.newarray .int, 2) := by decide +kernel
theorem dX0_init_30 : decode cX0_init 30 = .ok (.putfield 22, 3) := by decide +kernel
theorem dX0_init_33 : decode cX0_init 33 = .ok (.aload_n 0, 1) := by decide +kernel
theorem dX0_init_34 : decode cX0_init 34 = .ok (.bipush 10, 2) := by decide +kernel
theorem dX0_init_36 : decode cX0_init 36 = .ok (.newarray .int, 2) := by decide +kernel
theorem dX0_init_38 : decode cX0_init 38 = .ok (.putfield 25, 3) := by decide +kernel
theorem dX0_init_41 : decode cX0_init 41 = .ok (.return_, 1) := by decide +kernel
theorem dX0_take_0 : decode cX0_take 0 = .ok (.aload_n 0, 1) := by decide +kernel
theorem dX0_take_1 : decode cX0_take 1 = .ok (.aload_n 1, 1) := by decide +kernel
theorem dX0_take_2 : decode cX0_take 2 = .ok (.getfield 9, 3) := by decide +kernel
theorem dX0_take_5 : decode cX0_take 5 = .ok (.putfield 9, 3) := by decide +kernel
theorem dX0_take_8 : decode cX0_take 8 = .ok (.aload_n 1, 1) := by decide +kernel
theorem dX0_take_9 : decode cX0_take 9 = .ok (.getfield 15, 3) := by decide +kernel
theorem dX0_take_12 : decode cX0_take 12 = .ok (.aload_n 0, 1) := by decide +kernel
theorem dX0_take_13 : decode cX0_take 13 = .ok (.getfield 15, 3) := by decide +kernel
theorem dX0_take_16 : decode cX0_take 16 = .ok (.invokestatic 28, 3) := by decide +kernel
theorem dX0_take_19 : decode cX0_take 19 = .ok (.aload_n 1, 1) := by decide +kernel
theorem dX0_take_20 : decode cX0_take 20 = .ok (.getfield 19, 3) := by decide +kernel
theorem dX0_take_23 : decode cX0_take 23 = .ok (.aload_n 0, 1) := by decide +kernel
theorem dX0_take_24 : decode cX0_take 24 = .ok (.getfield 19, 3) := by decide +kernel
theorem dX0_take_27 : decode cX0_take 27 = .ok (.invokestatic 28, 3) := by decide +kernel
theorem dX0_take_30 : decode cX0_take 30 = .ok (.aload_n 1, 1) := by decide +kernel
theorem dX0_take_31 : decode cX0_take 31 = .ok (.getfield 22, 3) := by decide +kernel
theorem dX0_take_34 : decode cX0_take 34 = .ok (.aload_n 0, 1) := by decide +kernel
theorem dX0_take_35 : decode cX0_take 35 = .ok (.getfield 22, 3) := by decide +kernel
theorem dX0_take_38 : decode cX0_take 38 = .ok (.invokestatic 28, 3) := by decide +kernel
theorem dX0_take_41 : decode cX0_take 41 = .ok (.aload_n 1, 1) := by decide +kernel
theorem dX0_take_42 : decode cX0_take 42 = .ok (.getfield 25, 3) := by decide +kernel
theorem dX0_take_45 : decode cX0_take 45 = .ok (.aload_n 0, 1) := by decide +kernel
theorem dX0_take_46 : decode cX0_take 46 = .ok (.getfield 25, 3) := by decide +kernel
theorem dX0_take_49 : decode cX0_take 49 = .ok (.invokestatic 28, 3) := by decide +kernel
theorem dX0_take_52 : decode cX0_take 52 = .ok (.return_, 1) := by decide +kernel
theorem dX0_with_0 : decode cX0_with 0 = .ok (.iconst 0, 1) := by decide +kernel
theorem dX0_with_1 : decode cX0_with 1 = .ok (.istore_n 3, 1) := by decide +kernel
theorem dX0_with_2 : decode cX0_with 2 = .ok (.iconst 0, 1) := by decide +kernel
theorem dX0_with_3 : decode cX0_with 3 = .ok (.istore 4, 2) := by decide +kernel
theorem dX0_with_5 : decode cX0_with 5 = .ok (.iload 4, 2) := by decide +kernel
theorem dX0_with_7 : decode cX0_with 7 = .ok (.aload_n 0, 1) := by decide +kernel
theorem dX0_with_8 : decode cX0_with 8 = .ok (.getfield 9, 3) := by decide +kernel
theorem dX0_with_11 : decode cX0_with 11 = .ok (.if_icmp .ge 20, 3) := by decide +kernel
theorem dX0_with_14 : decode cX0_with 14 = .ok (.aload_n 1, 1) := by decide +kernel
theorem dX0_with_15 : decode cX0_with 15 = .ok (.iload 4, 2) := by decide +kernel
theorem dX0_with_17 : decode cX0_with 17 = .ok (.iaload, 1) := by decide +kernel
theorem dX0_with_18 : decode cX0_with 18 = .ok (.iload_n 2, 1) := by decide +kernel
theorem dX0_with_19 : decode cX0_with 19 = .ok (.if_icmp .ne 6, 3) := by decide +kernel
theorem dX0_with_22 : decode cX0_with 22 = .ok (.iinc 3 1, 3) := by decide +kernel
theorem dX0_with_25 : decode cX0_with 25 = .ok (.iinc 4 1, 3) := by decide +kernel
theorem dX0_with_28 : decode cX0_with 28 = .ok (.goto (-23), 3) := by decide +kernel
theorem dX0_with_31 : decode cX0_with 31 = .ok (.iload_n 3, 1) := by decide +kernel
theorem dX0_with_32 : decode cX0_with 32 = .ok (.ireturn, 1) := by decide +kernel
theorem dX0_jokeOfFoolAt_0 : decode cX0_jokeOfFoolAt 0 = .ok (.iconst 0, 1) := by decide +kernel
theorem dX0_jokeOfFoolAt_1 : decode cX0_jokeOfFoolAt 1 = .ok (.istore_n 3, 1) := by decide +kernel
theorem dX0_jokeOfFoolAt_2 : decode cX0_jokeOfFoolAt 2 = .ok (.iload_n 3, 1) := by decide +kernel
theorem dX0_jokeOfFoolAt_3 : decode cX0_jokeOfFoolAt 3 = .ok (.aload_n 0, 1) := by decide +kernel
theorem dX0_jokeOfFoolAt_4 : decode cX0_jokeOfFoolAt 4 = .ok (.getfield 9, 3) := by decide +kernel
theorem dX0_jokeOfFoolAt_7 : decode cX0_jokeOfFoolAt 7 = .ok (.if_icmp .ge 36, 3) := by decide +kernel
theorem dX0_jokeOfFoolAt_10 : decode cX0_jokeOfFoolAt 10 = .ok (.aload_n 0, 1) := by decide +kernel
theorem dX0_jokeOfFoolAt_11 : decode cX0_jokeOfFoolAt 11 = .ok (.getfield 15, 3) := by decide +kernel
theorem dX0_jokeOfFoolAt_14 : decode cX0_jokeOfFoolAt 14 = .ok (.iload_n 3, 1) := by decide +kernel
theorem dX0_jokeOfFoolAt_15 : decode cX0_jokeOfFoolAt 15 = .ok (.iaload, 1) := by decide +kernel
theorem dX0_jokeOfFoolAt_16 : decode cX0_jokeOfFoolAt 16 = .ok (.iload_n 1, 1) := by decide +kernel
theorem dX0_jokeOfFoolAt_17 : decode cX0_jokeOfFoolAt 17 = .ok (.if_icmp .ne 20, 3) := by decide +kernel
theorem dX0_jokeOfFoolAt_20 : decode cX0_jokeOfFoolAt 20 = .ok (.aload_n 0, 1) := by decide +kernel
theorem dX0_jokeOfFoolAt_21 : decode cX0_jokeOfFoolAt 21 = .ok (.getfield 25, 3) := by decide +kernel
theorem dX0_jokeOfFoolAt_24 : decode cX0_jokeOfFoolAt 24 = .ok (.iload_n 3, 1) := by decide +kernel
theorem dX0_jokeOfFoolAt_25 : decode cX0_jokeOfFoolAt 25 = .ok (.iaload, 1) := by decide +kernel
theorem dX0_jokeOfFoolAt_26 : decode cX0_jokeOfFoolAt 26 = .ok (.iload_n 2, 1) := by decide +kernel
theorem dX0_jokeOfFoolAt_27 : decode cX0_jokeOfFoolAt 27 = .ok (.if_icmp .ne 10, 3) := by decide +kernel
theorem dX0_jokeOfFoolAt_30 : decode cX0_jokeOfFoolAt 30 = .ok (.aload_n 0, 1) := by decide +kernel
theorem dX0_jokeOfFoolAt_31 : decode cX0_jokeOfFoolAt 31 = .ok (.getfield 19, 3) := by decide +kernel
theorem dX0_jokeOfFoolAt_34 : decode cX0_jokeOfFoolAt 34 = .ok (.iload_n 3, 1) := by decide +kernel
theorem dX0_jokeOfFoolAt_35 : decode cX0_jokeOfFoolAt 35 = .ok (.iaload, 1) := by decide +kernel
theorem dX0_jokeOfFoolAt_36 : decode cX0_jokeOfFoolAt 36 = .ok (.ireturn, 1) := by decide +kernel
theorem dX0_jokeOfFoolAt_37 : decode cX0_jokeOfFoolAt 37 = .ok (.iinc 3 1, 3) := by decide +kernel
theorem dX0_jokeOfFoolAt_40 : decode cX0_jokeOfFoolAt 40 = .ok (.goto (-38), 3) := by decide +kernel
theorem dX0_jokeOfFoolAt_43 : decode cX0_jokeOfFoolAt 43 = .ok (.sipush (-1015), 3) := by decide +kernel
theorem dX0_jokeOfFoolAt_46 : decode cX0_jokeOfFoolAt 46 = .ok (.ireturn, 1) := by decide +kernel
theorem dX0_insert_0 : decode cX0_insert 0 = .ok (.aload_n 0, 1) := by decide +kernel
theorem dX0_insert_1 : decode cX0_insert 1 = .ok (.getfield 9, 3) := by decide +kernel
theorem dX0_insert_4 : decode cX0_insert 4 = .ok (.istore 6, 2) := by decide +kernel
theorem dX0_insert_6 : decode cX0_insert 6 = .ok (.iload 6, 2) := by decide +kernel
theorem dX0_insert_8 : decode cX0_insert 8 = .ok (.iload_n 1, 1) := by decide +kernel
theorem dX0_insert_9 : decode cX0_insert 9 = .ok (.if_icmp .le 19, 3) := by decide +kernel
theorem dX0_insert_12 : decode cX0_insert 12 = .ok (.aload_n 0, 1) := by decide +kernel
theorem dX0_insert_13 : decode cX0_insert 13 = .ok (.iload 6, 2) := by decide +kernel
theorem dX0_insert_15 : decode cX0_insert 15 = .ok (.iconst 1, 1) := by decide +kernel
theorem dX0_insert_16 : decode cX0_insert 16 = .ok (.isub, 1) := by decide +kernel
theorem dX0_insert_17 : decode cX0_insert 17 = .ok (.iload 6, 2) := by decide +kernel
theorem dX0_insert_19 : decode cX0_insert 19 = .ok (.invokevirtual 32, 3) := by decide +kernel
theorem dX0_insert_22 : decode cX0_insert 22 = .ok (.iinc 6 (-1), 3) := by decide +kernel
theorem dX0_insert_25 : decode cX0_insert 25 = .ok (.goto (-19), 3) := by decide +kernel
theorem dX0_insert_28 : decode cX0_insert 28 = .ok (.aload_n 0, 1) := by decide +kernel
theorem dX0_insert_29 : decode cX0_insert 29 = .ok (.getfield 15, 3) := by decide +kernel
theorem dX0_insert_32 : decode cX0_insert 32 = .ok (.iload_n 1, 1) := by decide +kernel
theorem dX0_insert_33 : decode cX0_insert 33 = .ok (.iload_n 2, 1) := by decide +kernel
theorem dX0_insert_34 : decode cX0_insert 34 = .ok (.iastore, 1) := by decide +kernel
theorem dX0_insert_35 : decode cX0_insert 35 = .ok (.aload_n 0, 1) := by decide +kernel
theorem dX0_insert_36 : decode cX0_insert 36 = .ok (.getfield 19, 3) := by decide +kernel
theorem dX0_insert_39 : decode cX0_insert 39 = .ok (.iload_n 1, 1) := by decide +kernel
theorem dX0_insert_40 : decode cX0_insert 40 = .ok (.iload_n 3, 1) := by decide +kernel
theorem dX0_insert_41 : decode cX0_insert 41 = .ok (.iastore, 1) := by decide +kernel
theorem dX0_insert_42 : decode cX0_insert 42 = .ok (.aload_n 0, 1) := by decide +kernel
theorem dX0_insert_43 : decode cX0_insert 43 = .ok (.getfield 22, 3) := by decide +kernel
theorem dX0_insert_46 : decode cX0_insert 46 = .ok (.iload_n 1, 1) := by decide +kernel
theorem dX0_insert_47 : decode cX0_insert 47 = .ok (.iload 4, 2) := by decide +kernel
theorem dX0_insert_49 : decode cX0_insert 49 = .ok (.iastore, 1) := by decide +kernel
theorem dX0_insert_50 : decode cX0_insert 50 = .ok (.aload_n 0, 1) := by decide +kernel
theorem dX0_insert_51 : decode cX0_insert 51 = .ok (.getfield 25, 3) := by decide +kernel
theorem dX0_insert_54 : decode cX0_insert 54 = .ok (.iload_n 1, 1) := by decide +kernel
theorem dX0_insert_55 : decode cX0_insert 55 = .ok (.iload 5, 2) := by decide +kernel
theorem dX0_insert_57 : decode cX0_insert 57 = .ok (.iastore, 1) := by decide +kernel
theorem dX0_insert_58 : decode cX0_insert 58 = .ok (.aload_n 0, 1) := by decide +kernel
theorem dX0_insert_59 : decode cX0_insert 59 = .ok (.dup, 1) := by decide +kernel
theorem dX0_insert_60 : decode cX0_insert 60 = .ok (.getfield 9, 3) := by decide +kernel
theorem dX0_insert_63 : decode cX0_insert 63 = .ok (.iconst 1, 1) := by decide +kernel
theorem dX0_insert_64 : decode cX0_insert 64 = .ok (.iadd, 1) := by decide +kernel
theorem dX0_insert_65 : decode cX0_insert 65 = .ok (.putfield 9, 3) := by decide +kernel
theorem dX0_insert_68 : decode cX0_insert 68 = .ok (.return_, 1) := by decide +kernel
theorem dX0_removeFirst_0 : decode cX0_removeFirst 0 = .ok (.iconst 1, 1) := by decide +kernel
theorem dX0_removeFirst_1 : decode cX0_removeFirst 1 = .ok (.istore_n 1, 1) := by decide +kernel
theorem dX0_removeFirst_2 : decode cX0_removeFirst 2 = .ok (.iload_n 1, 1) := by decide +kernel
theorem dX0_removeFirst_3 : decode cX0_removeFirst 3 = .ok (.aload_n 0, 1) := by decide +kernel
theorem dX0_removeFirst_4 : decode cX0_removeFirst 4 = .ok (.getfield 9, 3) := by decide +kernel
theorem dX0_removeFirst_7 : decode cX0_removeFirst 7 = .ok (.if_icmp .ge 17, 3) := by decide +kernel
theorem dX0_removeFirst_10 : decode cX0_removeFirst 10 = .ok (.aload_n 0, 1) := by decide +kernel
theorem dX0_removeFirst_11 : decode cX0_removeFirst 11 = .ok (.iload_n 1, 1) := by decide +kernel
theorem dX0_removeFirst_12 : decode cX0_removeFirst 12 = .ok (.iload_n 1, 1) := by decide +kernel
theorem dX0_removeFirst_13 : decode cX0_removeFirst 13 = .ok (.iconst 1, 1) := by decide +kernel
theorem dX0_removeFirst_14 : decode cX0_removeFirst 14 = .ok (.isub, 1) := by decide +kernel
theorem dX0_removeFirst_15 : decode cX0_removeFirst 15 = .ok (.invokevirtual 32, 3) := by decide +kernel
theorem dX0_removeFirst_18 : decode cX0_removeFirst 18 = .ok (.iinc 1 1, 3) := by decide +kernel
theorem dX0_removeFirst_21 : decode cX0_removeFirst 21 = .ok (.goto (-19), 3) := by decide +kernel
theorem dX0_removeFirst_24 : decode cX0_removeFirst 24 = .ok (.aload_n 0, 1) := by decide +kernel
theorem dX0_removeFirst_25 : decode cX0_removeFirst 25 = .ok (.dup, 1) := by decide +kernel
theorem dX0_removeFirst_26 : decode cX0_removeFirst 26 = .ok (.getfield 9, 3) := by decide +kernel
theorem dX0_removeFirst_29 : decode cX0_removeFirst 29 = .ok (.iconst 1, 1) := by decide +kernel
theorem dX0_removeFirst_30 : decode cX0_removeFirst 30 = .ok (.isub, 1) := by decide +kernel
theorem dX0_removeFirst_31 : decode cX0_removeFirst 31 = .ok (.putfield 9, 3) := by decide +kernel
theorem dX0_removeFirst_34 : decode cX0_removeFirst 34 = .ok (.return_, 1) := by decide +kernel
theorem dX0_move_0 : decode cX0_move 0 = .ok (.aload_n 0, 1) := by decide +kernel
theorem dX0_move_1 : decode cX0_move 1 = .ok (.getfield 15, 3) := by decide +kernel
theorem dX0_move_4 : decode cX0_move 4 = .ok (.iload_n 2, 1) := by decide +kernel
theorem dX0_move_5 : decode cX0_move 5 = .ok (.aload_n 0, 1) := by decide +kernel
theorem dX0_move_6 : decode cX0_move 6 = .ok (.getfield 15, 3) := by decide +kernel
theorem dX0_move_9 : decode cX0_move 9 = .ok (.iload_n 1, 1) := by decide +kernel
theorem dX0_move_10 : decode cX0_move 10 = .ok (.iaload, 1) := by decide +kernel
theorem dX0_move_11 : decode cX0_move 11 = .ok (.iastore, 1) := by decide +kernel
theorem dX0_move_12 : decode cX0_move 12 = .ok (.aload_n 0, 1) := by decide +kernel
theorem dX0_move_13 : decode cX0_move 13 = .ok (.getfield 19, 3) := by decide +kernel
theorem dX0_move_16 : decode cX0_move 16 = .ok (.iload_n 2, 1) := by decide +kernel
theorem dX0_move_17 : decode cX0_move 17 = .ok (.aload_n 0, 1) := by decide +kernel
theorem dX0_move_18 : decode cX0_move 18 = .ok (.getfield 19, 3) := by decide +kernel
theorem dX0_move_21 : decode cX0_move 21 = .ok (.iload_n 1, 1) := by decide +kernel
theorem dX0_move_22 : decode cX0_move 22 = .ok (.iaload, 1) := by decide +kernel
theorem dX0_move_23 : decode cX0_move 23 = .ok (.iastore, 1) := by decide +kernel
theorem dX0_move_24 : decode cX0_move 24 = .ok (.aload_n 0, 1) := by decide +kernel
theorem dX0_move_25 : decode cX0_move 25 = .ok (.getfield 22, 3) := by decide +kernel
theorem dX0_move_28 : decode cX0_move 28 = .ok (.iload_n 2, 1) := by decide +kernel
theorem dX0_move_29 : decode cX0_move 29 = .ok (.aload_n 0, 1) := by decide +kernel
theorem dX0_move_30 : decode cX0_move 30 = .ok (.getfield 22, 3) := by decide +kernel
theorem dX0_move_33 : decode cX0_move 33 = .ok (.iload_n 1, 1) := by decide +kernel
theorem dX0_move_34 : decode cX0_move 34 = .ok (.iaload, 1) := by decide +kernel
theorem dX0_move_35 : decode cX0_move 35 = .ok (.iastore, 1) := by decide +kernel
theorem dX0_move_36 : decode cX0_move 36 = .ok (.aload_n 0, 1) := by decide +kernel
theorem dX0_move_37 : decode cX0_move 37 = .ok (.getfield 25, 3) := by decide +kernel
theorem dX0_move_40 : decode cX0_move 40 = .ok (.iload_n 2, 1) := by decide +kernel
theorem dX0_move_41 : decode cX0_move 41 = .ok (.aload_n 0, 1) := by decide +kernel
theorem dX0_move_42 : decode cX0_move 42 = .ok (.getfield 25, 3) := by decide +kernel
theorem dX0_move_45 : decode cX0_move 45 = .ok (.iload_n 1, 1) := by decide +kernel
theorem dX0_move_46 : decode cX0_move 46 = .ok (.iaload, 1) := by decide +kernel
theorem dX0_move_47 : decode cX0_move 47 = .ok (.iastore, 1) := by decide +kernel
theorem dX0_move_48 : decode cX0_move 48 = .ok (.return_, 1) := by decide +kernel
theorem dX1_init_0 : decode cX1_init 0 = .ok (.aload_n 0, 1) := by decide +kernel
theorem dX1_init_1 : decode cX1_init 1 = .ok (.invokespecial 3, 3) := by decide +kernel
theorem dX1_init_4 : decode cX1_init 4 = .ok (.aload_n 0, 1) := by decide +kernel
theorem dX1_init_5 : decode cX1_init 5 = .ok (.new 9, 3) := by decide +kernel
theorem dX1_init_8 : decode cX1_init 8 = .ok (.dup, 1) := by decide +kernel
theorem dX1_init_9 : decode cX1_init 9 = .ok (.invokespecial 11, 3) := by decide +kernel
theorem dX1_init_12 : decode cX1_init 12 = .ok (.putfield 12, 3) := by decide +kernel
theorem dX1_init_15 : decode cX1_init 15 = .ok (.aload_n 0, 1) := by decide +kernel
theorem dX1_init_16 : decode cX1_init 16 = .ok (.new 18, 3) := by decide +kernel
theorem dX1_init_19 : decode cX1_init 19 = .ok (.dup, 1) := by decide +kernel
theorem dX1_init_20 : decode cX1_init 20 = .ok (.invokespecial 20, 3) := by decide +kernel
theorem dX1_init_23 : decode cX1_init 23 = .ok (.putfield 21, 3) := by decide +kernel
theorem dX1_init_26 : decode cX1_init 26 = .ok (.aload_n 0, 1) := by decide +kernel
theorem dX1_init_27 : decode cX1_init 27 = .ok (.new 25, 3) := by decide +kernel
theorem dX1_init_30 : decode cX1_init 30 = .ok (.dup, 1) := by decide +kernel
theorem dX1_init_31 : decode cX1_init 31 = .ok (.invokespecial 27, 3) := by decide +kernel
theorem dX1_init_34 : decode cX1_init 34 = .ok (.putfield 28, 3) := by decide +kernel
theorem dX1_init_37 : decode cX1_init 37 = .ok (.aload_n 0, 1) := by decide +kernel
theorem dX1_init_38 : decode cX1_init 38 = .ok (.iconst 4, 1) := by decide +kernel
theorem dX1_init_39 : decode cX1_init 39 = .ok (.newarray .int, 2) := by decide +kernel
theorem dX1_init_41 : decode cX1_init 41 = .ok (.putfield 32, 3) := by decide +kernel
theorem dX1_init_44 : decode cX1_init 44 = .ok (.aload_n 0, 1) := by decide +kernel
theorem dX1_init_45 : decode cX1_init 45 = .ok (.iconst 4, 1) := by decide +kernel
theorem dX1_init_46 : decode cX1_init 46 = .ok (.newarray .int, 2) := by decide +kernel
theorem dX1_init_48 : decode cX1_init 48 = .ok (.putfield 36, 3) := by decide +kernel
theorem dX1_init_51 : decode cX1_init 51 = .ok (.aload_n 0, 1) := by decide +kernel
theorem dX1_init_52 : decode cX1_init 52 = .ok (.iconst 0, 1) := by decide +kernel
theorem dX1_init_53 : decode cX1_init 53 = .ok (.putfield 39, 3) := by decide +kernel
theorem dX1_init_56 : decode cX1_init 56 = .ok (.aload_n 0, 1) := by decide +kernel
theorem dX1_init_57 : decode cX1_init 57 = .ok (.iconst 0, 1) := by decide +kernel
theorem dX1_init_58 : decode cX1_init 58 = .ok (.putfield 43, 3) := by decide +kernel
theorem dX1_init_61 : decode cX1_init 61 = .ok (.aload_n 0, 1) := by decide +kernel
theorem dX1_init_62 : decode cX1_init 62 = .ok (.iconst 0, 1) := by decide +kernel
theorem dX1_init_63 : decode cX1_init 63 = .ok (.putfield 46, 3) := by decide +kernel
theorem dX1_init_66 : decode cX1_init 66 = .ok (.aload_n 0, 1) := by decide +kernel
theorem dX1_init_67 : decode cX1_init 67 = .ok (.iconst 0, 1) := by decide +kernel
theorem dX1_init_68 : decode cX1_init 68 = .ok (.putfield 49, 3) := by decide +kernel
theorem dX1_init_71 : decode cX1_init 71 = .ok (.aload_n 0, 1) := by decide +kernel
theorem dX1_init_72 : decode cX1_init 72 = .ok (.iconst 0, 1) := by decide +kernel
theorem dX1_init_73 : decode cX1_init 73 = .ok (.putfield 52, 3) := by decide +kernel
theorem dX1_init_76 : decode cX1_init 76 = .ok (.return_, 1) := by decide +kernel
theorem dX1_take_0 : decode cX1_take 0 = .ok (.aload_n 0, 1) := by decide +kernel
theorem dX1_take_1 : decode cX1_take 1 = .ok (.getfield 12, 3) := by decide +kernel
theorem dX1_take_4 : decode cX1_take 4 = .ok (.aload_n 1, 1) := by decide +kernel
theorem dX1_take_5 : decode cX1_take 5 = .ok (.getfield 12, 3) := by decide +kernel
theorem dX1_take_8 : decode cX1_take 8 = .ok (.invokevirtual 55, 3) := by decide +kernel
theorem dX1_take_11 : decode cX1_take 11 = .ok (.aload_n 0, 1) := by decide +kernel
theorem dX1_take_12 : decode cX1_take 12 = .ok (.getfield 21, 3) := by decide +kernel
theorem dX1_take_15 : decode cX1_take 15 = .ok (.aload_n 1, 1) := by decide +kernel
theorem dX1_take_16 : decode cX1_take 16 = .ok (.getfield 21, 3) := by decide +kernel
theorem dX1_take_19 : decode cX1_take 19 = .ok (.invokevirtual 59, 3) := by decide +kernel
theorem dX1_take_22 : decode cX1_take 22 = .ok (.aload_n 0, 1) := by decide +kernel
theorem dX1_take_23 : decode cX1_take 23 = .ok (.getfield 28, 3) := by decide +kernel
theorem dX1_take_26 : decode cX1_take 26 = .ok (.aload_n 1, 1) := by decide +kernel
theorem dX1_take_27 : decode cX1_take 27 = .ok (.getfield 28, 3) := by decide +kernel
theorem dX1_take_30 : decode cX1_take 30 = .ok (.invokevirtual 62, 3) := by decide +kernel
theorem dX1_take_33 : decode cX1_take 33 = .ok (.aload_n 1, 1) := by decide +kernel
theorem dX1_take_34 : decode cX1_take 34 = .ok (.getfield 32, 3) := by decide +kernel
theorem dX1_take_37 : decode cX1_take 37 = .ok (.aload_n 0, 1) := by decide +kernel
theorem dX1_take_38 : decode cX1_take 38 = .ok (.getfield 32, 3) := by decide +kernel
theorem dX1_take_41 : decode cX1_take 41 = .ok (.invokestatic 65, 3) := by decide +kernel
theorem dX1_take_44 : decode cX1_take 44 = .ok (.aload_n 1, 1) := by decide +kernel
theorem dX1_take_45 : decode cX1_take 45 = .ok (.getfield 36, 3) := by decide +kernel
theorem dX1_take_48 : decode cX1_take 48 = .ok (.aload_n 0, 1) := by decide +kernel
theorem dX1_take_49 : decode cX1_take 49 = .ok (.getfield 36, 3) := by decide +kernel
theorem dX1_take_52 : decode cX1_take 52 = .ok (.invokestatic 65, 3) := by decide +kernel
theorem dX1_take_55 : decode cX1_take 55 = .ok (.aload_n 0, 1) := by decide +kernel
theorem dX1_take_56 : decode cX1_take 56 = .ok (.aload_n 1, 1) := by decide +kernel
theorem dX1_take_57 : decode cX1_take 57 = .ok (.getfield 39, 3) := by decide +kernel
theorem dX1_take_60 : decode cX1_take 60 = .ok (.putfield 39, 3) := by decide +kernel
theorem dX1_take_63 : decode cX1_take 63 = .ok (.aload_n 0, 1) := by decide +kernel
theorem dX1_take_64 : decode cX1_take 64 = .ok (.aload_n 1, 1) := by decide +kernel
theorem dX1_take_65 : decode cX1_take 65 = .ok (.getfield 43, 3) := by decide +kernel
theorem dX1_take_68 : decode cX1_take 68 = .ok (.putfield 43, 3) := by decide +kernel
theorem dX1_take_71 : decode cX1_take 71 = .ok (.aload_n 0, 1) := by decide +kernel
theorem dX1_take_72 : decode cX1_take 72 = .ok (.aload_n 1, 1) := by decide +kernel
theorem dX1_take_73 : decode cX1_take 73 = .ok (.getfield 46, 3) := by decide +kernel
theorem dX1_take_76 : decode cX1_take 76 = .ok (.putfield 46, 3) := by decide +kernel
theorem dX1_take_79 : decode cX1_take 79 = .ok (.aload_n 0, 1) := by decide +kernel
theorem dX1_take_80 : decode cX1_take 80 = .ok (.aload_n 1, 1) := by decide +kernel
theorem dX1_take_81 : decode cX1_take 81 = .ok (.getfield 49, 3) := by decide +kernel
theorem dX1_take_84 : decode cX1_take 84 = .ok (.putfield 49, 3) := by decide +kernel
theorem dX1_take_87 : decode cX1_take 87 = .ok (.aload_n 0, 1) := by decide +kernel
theorem dX1_take_88 : decode cX1_take 88 = .ok (.aload_n 1, 1) := by decide +kernel
theorem dX1_take_89 : decode cX1_take 89 = .ok (.getfield 52, 3) := by decide +kernel
theorem dX1_take_92 : decode cX1_take 92 = .ok (.putfield 52, 3) := by decide +kernel
theorem dX1_take_95 : decode cX1_take 95 = .ok (.return_, 1) := by decide +kernel
theorem dX1_holds_0 : decode cX1_holds 0 = .ok (.aload_n 0, 1) := by decide +kernel
theorem dX1_holds_1 : decode cX1_holds 1 = .ok (.getfield 39, 3) := by decide +kernel
theorem dX1_holds_4 : decode cX1_holds 4 = .ok (.aload_n 0, 1) := by decide +kernel
theorem dX1_holds_5 : decode cX1_holds 5 = .ok (.getfield 21, 3) := by decide +kernel
theorem dX1_holds_8 : decode cX1_holds 8 = .ok (.getfield 69, 3) := by decide +kernel
theorem dX1_holds_11 : decode cX1_holds 11 = .ok (.iload_n 1, 1) := by decide +kernel
theorem dX1_holds_12 : decode cX1_holds 12 = .ok (.iaload, 1) := by decide +kernel
theorem dX1_holds_13 : decode cX1_holds 13 = .ok (.if_icmp .ge 7, 3) := by decide +kernel
theorem dX1_holds_16 : decode cX1_holds 16 = .ok (.iconst 1, 1) := by decide +kernel
theorem dX1_holds_17 : decode cX1_holds 17 = .ok (.goto 4, 3) := by decide +kernel
theorem dX1_holds_20 : decode cX1_holds 20 = .ok (.iconst 0, 1) := by decide +kernel
theorem dX1_holds_21 : decode cX1_holds 21 = .ok (.ireturn, 1) := by decide +kernel
theorem dX1_isBarred_0 : decode cX1_isBarred 0 = .ok (.aload_n 0, 1) := by decide +kernel
theorem dX1_isBarred_1 : decode cX1_isBarred 1 = .ok (.iload_n 2, 1) := by decide +kernel
theorem dX1_isBarred_2 : decode cX1_isBarred 2 = .ok (.invokevirtual 72, 3) := by decide +kernel
theorem dX1_isBarred_5 : decode cX1_isBarred 5 = .ok (.ifCond .eq 20, 3) := by decide +kernel
theorem dX1_isBarred_8 : decode cX1_isBarred 8 = .ok (.aload_n 0, 1) := by decide +kernel
theorem dX1_isBarred_9 : decode cX1_isBarred 9 = .ok (.getfield 21, 3) := by decide +kernel
theorem dX1_isBarred_12 : decode cX1_isBarred 12 = .ok (.getfield 76, 3) := by decide +kernel
theorem dX1_isBarred_15 : decode cX1_isBarred 15 = .ok (.iload_n 2, 1) := by decide +kernel
theorem dX1_isBarred_16 : decode cX1_isBarred 16 = .ok (.iaload, 1) := by decide +kernel
theorem dX1_isBarred_17 : decode cX1_isBarred 17 = .ok (.iload_n 1, 1) := by decide +kernel
theorem dX1_isBarred_18 : decode cX1_isBarred 18 = .ok (.if_icmp .eq 7, 3) := by decide +kernel
theorem dX1_isBarred_21 : decode cX1_isBarred 21 = .ok (.iconst 1, 1) := by decide +kernel
theorem dX1_isBarred_22 : decode cX1_isBarred 22 = .ok (.goto 4, 3) := by decide +kernel
theorem dX1_isBarred_25 : decode cX1_isBarred 25 = .ok (.iconst 0, 1) := by decide +kernel
theorem dX1_isBarred_26 : decode cX1_isBarred 26 = .ok (.ireturn, 1) := by decide +kernel
theorem dX1_patents_0 : decode cX1_patents 0 = .ok (.iconst 0, 1) := by decide +kernel
theorem dX1_patents_1 : decode cX1_patents 1 = .ok (.istore_n 1, 1) := by decide +kernel
theorem dX1_patents_2 : decode cX1_patents 2 = .ok (.iconst 0, 1) := by decide +kernel
theorem dX1_patents_3 : decode cX1_patents 3 = .ok (.istore_n 2, 1) := by decide +kernel
theorem dX1_patents_4 : decode cX1_patents 4 = .ok (.iload_n 2, 1) := by decide +kernel
theorem dX1_patents_5 : decode cX1_patents 5 = .ok (.aload_n 0, 1) := by decide +kernel
theorem dX1_patents_6 : decode cX1_patents 6 = .ok (.getfield 21, 3) := by decide +kernel
theorem dX1_patents_9 : decode cX1_patents 9 = .ok (.getfield 79, 3) := by decide +kernel
theorem dX1_patents_12 : decode cX1_patents 12 = .ok (.if_icmp .ge 20, 3) := by decide +kernel
theorem dX1_patents_15 : decode cX1_patents 15 = .ok (.aload_n 0, 1) := by decide +kernel
theorem dX1_patents_16 : decode cX1_patents 16 = .ok (.iload_n 2, 1) := by decide +kernel
theorem dX1_patents_17 : decode cX1_patents 17 = .ok (.invokevirtual 72, 3) := by decide +kernel
theorem dX1_patents_20 : decode cX1_patents 20 = .ok (.ifCond .eq 6, 3) := by decide +kernel
theorem dX1_patents_23 : decode cX1_patents 23 = .ok (.iinc 1 1, 3) := by decide +kernel
theorem dX1_patents_26 : decode cX1_patents 26 = .ok (.iinc 2 1, 3) := by decide +kernel
theorem dX1_patents_29 : decode cX1_patents 29 = .ok (.goto (-25), 3) := by decide +kernel
theorem dX1_patents_32 : decode cX1_patents 32 = .ok (.iload_n 1, 1) := by decide +kernel
theorem dX1_patents_33 : decode cX1_patents 33 = .ok (.ireturn, 1) := by decide +kernel
theorem dX1_patentsOf_0 : decode cX1_patentsOf 0 = .ok (.iconst 0, 1) := by decide +kernel
theorem dX1_patentsOf_1 : decode cX1_patentsOf 1 = .ok (.istore_n 2, 1) := by decide +kernel
theorem dX1_patentsOf_2 : decode cX1_patentsOf 2 = .ok (.iconst 0, 1) := by decide +kernel
theorem dX1_patentsOf_3 : decode cX1_patentsOf 3 = .ok (.istore_n 3, 1) := by decide +kernel
theorem dX1_patentsOf_4 : decode cX1_patentsOf 4 = .ok (.iload_n 3, 1) := by decide +kernel
theorem dX1_patentsOf_5 : decode cX1_patentsOf 5 = .ok (.aload_n 0, 1) := by decide +kernel
theorem dX1_patentsOf_6 : decode cX1_patentsOf 6 = .ok (.getfield 21, 3) := by decide +kernel
theorem dX1_patentsOf_9 : decode cX1_patentsOf 9 = .ok (.getfield 79, 3) := by decide +kernel
theorem dX1_patentsOf_12 : decode cX1_patentsOf 12 = .ok (.if_icmp .ge 33, 3) := by decide +kernel
theorem dX1_patentsOf_15 : decode cX1_patentsOf 15 = .ok (.aload_n 0, 1) := by decide +kernel
theorem dX1_patentsOf_16 : decode cX1_patentsOf 16 = .ok (.iload_n 3, 1) := by decide +kernel
theorem dX1_patentsOf_17 : decode cX1_patentsOf 17 = .ok (.invokevirtual 72, 3) := by decide +kernel
theorem dX1_patentsOf_20 : decode cX1_patentsOf 20 = .ok (.ifCond .eq 19, 3) := by decide +kernel
theorem dX1_patentsOf_23 : decode cX1_patentsOf 23 = .ok (.aload_n 0, 1) := by decide +kernel
theorem dX1_patentsOf_24 : decode cX1_patentsOf 24 = .ok (.getfield 21, 3) := by decide +kernel
theorem dX1_patentsOf_27 : decode cX1_patentsOf 27 = .ok (.getfield 76, 3) := by decide +kernel
theorem dX1_patentsOf_30 : decode cX1_patentsOf 30 = .ok (.iload_n 3, 1) := by decide +kernel
theorem dX1_patentsOf_31 : decode cX1_patentsOf 31 = .ok (.iaload, 1) := by decide +kernel
theorem dX1_patentsOf_32 : decode cX1_patentsOf 32 = .ok (.iload_n 1, 1) := by decide +kernel
theorem dX1_patentsOf_33 : decode cX1_patentsOf 33 = .ok (.if_icmp .ne 6, 3) := by decide +kernel
theorem dX1_patentsOf_36 : decode cX1_patentsOf 36 = .ok (.iinc 2 1, 3) := by decide +kernel
theorem dX1_patentsOf_39 : decode cX1_patentsOf 39 = .ok (.iinc 3 1, 3) := by decide +kernel
theorem dX1_patentsOf_42 : decode cX1_patentsOf 42 = .ok (.goto (-38), 3) := by decide +kernel
theorem dX1_patentsOf_45 : decode cX1_patentsOf 45 = .ok (.iload_n 2, 1) := by decide +kernel
theorem dX1_patentsOf_46 : decode cX1_patentsOf 46 = .ok (.ireturn, 1) := by decide +kernel
theorem dX1_endJokeByJoke_0 : decode cX1_endJokeByJoke 0 = .ok (.sipush (-1015), 3) := by decide +kernel
theorem dX1_endJokeByJoke_3 : decode cX1_endJokeByJoke 3 = .ok (.istore_n 1, 1) := by decide +kernel
theorem dX1_endJokeByJoke_4 : decode cX1_endJokeByJoke 4 = .ok (.iconst 0, 1) := by decide +kernel
theorem dX1_endJokeByJoke_5 : decode cX1_endJokeByJoke 5 = .ok (.istore_n 2, 1) := by decide +kernel
theorem dX1_endJokeByJoke_6 : decode cX1_endJokeByJoke 6 = .ok (.iload_n 2, 1) := by decide +kernel
theorem dX1_endJokeByJoke_7 : decode cX1_endJokeByJoke 7 = .ok (.aload_n 0, 1) := by decide +kernel
theorem dX1_endJokeByJoke_8 : decode cX1_endJokeByJoke 8 = .ok (.getfield 21, 3) := by decide +kernel
theorem dX1_endJokeByJoke_11 : decode cX1_endJokeByJoke 11 = .ok (.getfield 79, 3) := by decide +kernel
theorem dX1_endJokeByJoke_14 : decode cX1_endJokeByJoke 14 = .ok (.if_icmp .ge 47, 3) := by decide +kernel
theorem dX1_endJokeByJoke_17 : decode cX1_endJokeByJoke 17 = .ok (.aload_n 0, 1) := by decide +kernel
theorem dX1_endJokeByJoke_18 : decode cX1_endJokeByJoke 18 = .ok (.iload_n 2, 1) := by decide +kernel
theorem dX1_endJokeByJoke_19 : decode cX1_endJokeByJoke 19 = .ok (.invokevirtual 72, 3) := by decide +kernel
theorem dX1_endJokeByJoke_22 : decode cX1_endJokeByJoke 22 = .ok (.ifCond .eq 33, 3) := by decide +kernel
theorem dX1_endJokeByJoke_25 : decode cX1_endJokeByJoke 25 = .ok (.iload_n 1, 1) := by decide +kernel
theorem dX1_endJokeByJoke_26 : decode cX1_endJokeByJoke 26 = .ok (.sipush (-1015), 3) := by decide +kernel
theorem dX1_endJokeByJoke_29 : decode cX1_endJokeByJoke 29 = .ok (.if_icmp .eq 16, 3) := by decide +kernel
theorem dX1_endJokeByJoke_32 : decode cX1_endJokeByJoke 32 = .ok (.aload_n 0, 1) := by decide +kernel
theorem dX1_endJokeByJoke_33 : decode cX1_endJokeByJoke 33 = .ok (.getfield 21, 3) := by decide +kernel
theorem dX1_endJokeByJoke_36 : decode cX1_endJokeByJoke 36 = .ok (.getfield 69, 3) := by decide +kernel
theorem dX1_endJokeByJoke_39 : decode cX1_endJokeByJoke 39 = .ok (.iload_n 2, 1) := by decide +kernel
theorem dX1_endJokeByJoke_40 : decode cX1_endJokeByJoke 40 = .ok (.iaload, 1) := by decide +kernel
theorem dX1_endJokeByJoke_41 : decode cX1_endJokeByJoke 41 = .ok (.iload_n 1, 1) := by decide +kernel
theorem dX1_endJokeByJoke_42 : decode cX1_endJokeByJoke 42 = .ok (.if_icmp .ge 13, 3) := by decide +kernel
theorem dX1_endJokeByJoke_45 : decode cX1_endJokeByJoke 45 = .ok (.aload_n 0, 1) := by decide +kernel
theorem dX1_endJokeByJoke_46 : decode cX1_endJokeByJoke 46 = .ok (.getfield 21, 3) := by decide +kernel
theorem dX1_endJokeByJoke_49 : decode cX1_endJokeByJoke 49 = .ok (.getfield 69, 3) := by decide +kernel
theorem dX1_endJokeByJoke_52 : decode cX1_endJokeByJoke 52 = .ok (.iload_n 2, 1) := by decide +kernel
theorem dX1_endJokeByJoke_53 : decode cX1_endJokeByJoke 53 = .ok (.iaload, 1) := by decide +kernel
theorem dX1_endJokeByJoke_54 : decode cX1_endJokeByJoke 54 = .ok (.istore_n 1, 1) := by decide +kernel
theorem dX1_endJokeByJoke_55 : decode cX1_endJokeByJoke 55 = .ok (.iinc 2 1, 3) := by decide +kernel
theorem dX1_endJokeByJoke_58 : decode cX1_endJokeByJoke 58 = .ok (.goto (-52), 3) := by decide +kernel
theorem dX1_endJokeByJoke_61 : decode cX1_endJokeByJoke 61 = .ok (.iload_n 1, 1) := by decide +kernel
theorem dX1_endJokeByJoke_62 : decode cX1_endJokeByJoke 62 = .ok (.ireturn, 1) := by decide +kernel
theorem dX1_endHourByHour_0 : decode cX1_endHourByHour 0 = .ok (.iconst 1, 1) := by decide +kernel
theorem dX1_endHourByHour_1 : decode cX1_endHourByHour 1 = .ok (.istore_n 1, 1) := by decide +kernel
theorem dX1_endHourByHour_2 : decode cX1_endHourByHour 2 = .ok (.iload_n 1, 1) := by decide +kernel
theorem dX1_endHourByHour_3 : decode cX1_endHourByHour 3 = .ok (.bipush 48, 2) := by decide +kernel
theorem dX1_endHourByHour_5 : decode cX1_endHourByHour 5 = .ok (.if_icmp .gt 29, 3) := by decide +kernel
theorem dX1_endHourByHour_8 : decode cX1_endHourByHour 8 = .ok (.aload_n 0, 1) := by decide +kernel
theorem dX1_endHourByHour_9 : decode cX1_endHourByHour 9 = .ok (.aload_n 0, 1) := by decide +kernel
theorem dX1_endHourByHour_10 : decode cX1_endHourByHour 10 = .ok (.getfield 39, 3) := by decide +kernel
theorem dX1_endHourByHour_13 : decode cX1_endHourByHour 13 = .ok (.iload_n 1, 1) := by decide +kernel
theorem dX1_endHourByHour_14 : decode cX1_endHourByHour 14 = .ok (.iadd, 1) := by decide +kernel
theorem dX1_endHourByHour_15 : decode cX1_endHourByHour 15 = .ok (.invokevirtual 82, 3) := by decide +kernel
theorem dX1_endHourByHour_18 : decode cX1_endHourByHour 18 = .ok (.ifCond .eq 10, 3) := by decide +kernel
theorem dX1_endHourByHour_21 : decode cX1_endHourByHour 21 = .ok (.aload_n 0, 1) := by decide +kernel
theorem dX1_endHourByHour_22 : decode cX1_endHourByHour 22 = .ok (.getfield 39, 3) := by decide +kernel
theorem dX1_endHourByHour_25 : decode cX1_endHourByHour 25 = .ok (.iload_n 1, 1) := by decide +kernel
theorem dX1_endHourByHour_26 : decode cX1_endHourByHour 26 = .ok (.iadd, 1) := by decide +kernel
theorem dX1_endHourByHour_27 : decode cX1_endHourByHour 27 = .ok (.ireturn, 1) := by decide +kernel
theorem dX1_endHourByHour_28 : decode cX1_endHourByHour 28 = .ok (.iinc 1 1, 3) := by decide +kernel
theorem dX1_endHourByHour_31 : decode cX1_endHourByHour 31 = .ok (.goto (-29), 3) := by decide +kernel
theorem dX1_endHourByHour_34 : decode cX1_endHourByHour 34 = .ok (.sipush (-1015), 3) := by decide +kernel
theorem dX1_endHourByHour_37 : decode cX1_endHourByHour 37 = .ok (.ireturn, 1) := by decide +kernel
theorem dX1_doesAnyEndAt_0 : decode cX1_doesAnyEndAt 0 = .ok (.iconst 0, 1) := by decide +kernel
theorem dX1_doesAnyEndAt_1 : decode cX1_doesAnyEndAt 1 = .ok (.istore_n 2, 1) := by decide +kernel
theorem dX1_doesAnyEndAt_2 : decode cX1_doesAnyEndAt 2 = .ok (.iload_n 2, 1) := by decide +kernel
theorem dX1_doesAnyEndAt_3 : decode cX1_doesAnyEndAt 3 = .ok (.aload_n 0, 1) := by decide +kernel
theorem dX1_doesAnyEndAt_4 : decode cX1_doesAnyEndAt 4 = .ok (.getfield 21, 3) := by decide +kernel
theorem dX1_doesAnyEndAt_7 : decode cX1_doesAnyEndAt 7 = .ok (.getfield 79, 3) := by decide +kernel
theorem dX1_doesAnyEndAt_10 : decode cX1_doesAnyEndAt 10 = .ok (.if_icmp .ge 24, 3) := by decide +kernel
theorem dX1_doesAnyEndAt_13 : decode cX1_doesAnyEndAt 13 = .ok (.aload_n 0, 1) := by decide +kernel
theorem dX1_doesAnyEndAt_14 : decode cX1_doesAnyEndAt 14 = .ok (.getfield 21, 3) := by decide +kernel
theorem dX1_doesAnyEndAt_17 : decode cX1_doesAnyEndAt 17 = .ok (.getfield 69, 3) := by decide +kernel
theorem dX1_doesAnyEndAt_20 : decode cX1_doesAnyEndAt 20 = .ok (.iload_n 2, 1) := by decide +kernel
theorem dX1_doesAnyEndAt_21 : decode cX1_doesAnyEndAt 21 = .ok (.iaload, 1) := by decide +kernel
theorem dX1_doesAnyEndAt_22 : decode cX1_doesAnyEndAt 22 = .ok (.iload_n 1, 1) := by decide +kernel
theorem dX1_doesAnyEndAt_23 : decode cX1_doesAnyEndAt 23 = .ok (.if_icmp .ne 5, 3) := by decide +kernel
theorem dX1_doesAnyEndAt_26 : decode cX1_doesAnyEndAt 26 = .ok (.iconst 1, 1) := by decide +kernel
theorem dX1_doesAnyEndAt_27 : decode cX1_doesAnyEndAt 27 = .ok (.ireturn, 1) := by decide +kernel
theorem dX1_doesAnyEndAt_28 : decode cX1_doesAnyEndAt 28 = .ok (.iinc 2 1, 3) := by decide +kernel
theorem dX1_doesAnyEndAt_31 : decode cX1_doesAnyEndAt 31 = .ok (.goto (-29), 3) := by decide +kernel
theorem dX1_doesAnyEndAt_34 : decode cX1_doesAnyEndAt 34 = .ok (.iconst 0, 1) := by decide +kernel
theorem dX1_doesAnyEndAt_35 : decode cX1_doesAnyEndAt 35 = .ok (.ireturn, 1) := by decide +kernel
theorem dX1_laughs_0 : decode cX1_laughs 0 = .ok (.iconst 2, 1) := by decide +kernel
theorem dX1_laughs_1 : decode cX1_laughs 1 = .ok (.aload_n 0, 1) := by decide +kernel
theorem dX1_laughs_2 : decode cX1_laughs 2 = .ok (.getfield 21, 3) := by decide +kernel
theorem dX1_laughs_5 : decode cX1_laughs 5 = .ok (.iload_n 2, 1) := by decide +kernel
theorem dX1_laughs_6 : decode cX1_laughs 6 = .ok (.iload_n 3, 1) := by decide +kernel
theorem dX1_laughs_7 : decode cX1_laughs 7 = .ok (.invokevirtual 85, 3) := by decide +kernel
theorem dX1_laughs_10 : decode cX1_laughs 10 = .ok (.imul, 1) := by decide +kernel
theorem dX1_laughs_11 : decode cX1_laughs 11 = .ok (.istore 4, 2) := by decide +kernel
theorem dX1_laughs_13 : decode cX1_laughs 13 = .ok (.iconst 0, 1) := by decide +kernel
theorem dX1_laughs_14 : decode cX1_laughs 14 = .ok (.aload_n 0, 1) := by decide +kernel
theorem dX1_laughs_15 : decode cX1_laughs 15 = .ok (.getfield 21, 3) := by decide +kernel
theorem dX1_laughs_18 : decode cX1_laughs 18 = .ok (.getfield 89, 3) := by decide +kernel
theorem dX1_laughs_21 : decode cX1_laughs 21 = .ok (.iload_n 2, 1) := by decide +kernel
theorem dX1_laughs_22 : decode cX1_laughs 22 = .ok (.iaload, 1) := by decide +kernel
theorem dX1_laughs_23 : decode cX1_laughs 23 = .ok (.aload_n 0, 1) := by decide +kernel
theorem dX1_laughs_24 : decode cX1_laughs 24 = .ok (.getfield 12, 3) := by decide +kernel
theorem dX1_laughs_27 : decode cX1_laughs 27 = .ok (.getfield 92, 3) := by decide +kernel
theorem dX1_laughs_30 : decode cX1_laughs 30 = .ok (.iload_n 1, 1) := by decide +kernel
theorem dX1_laughs_31 : decode cX1_laughs 31 = .ok (.iaload, 1) := by decide +kernel
theorem dX1_laughs_32 : decode cX1_laughs 32 = .ok (.iadd, 1) := by decide +kernel
theorem dX1_laughs_33 : decode cX1_laughs 33 = .ok (.iload 4, 2) := by decide +kernel
theorem dX1_laughs_35 : decode cX1_laughs 35 = .ok (.isub, 1) := by decide +kernel
theorem dX1_laughs_36 : decode cX1_laughs 36 = .ok (.invokestatic 95, 3) := by decide +kernel
theorem dX1_laughs_39 : decode cX1_laughs 39 = .ok (.ireturn, 1) := by decide +kernel
theorem dX1_laughsNow_0 : decode cX1_laughsNow 0 = .ok (.aload_n 0, 1) := by decide +kernel
theorem dX1_laughsNow_1 : decode cX1_laughsNow 1 = .ok (.getfield 32, 3) := by decide +kernel
theorem dX1_laughsNow_4 : decode cX1_laughsNow 4 = .ok (.iload_n 3, 1) := by decide +kernel
theorem dX1_laughsNow_5 : decode cX1_laughsNow 5 = .ok (.iaload, 1) := by decide +kernel
theorem dX1_laughsNow_6 : decode cX1_laughsNow 6 = .ok (.iconst 1, 1) := by decide +kernel
theorem dX1_laughsNow_7 : decode cX1_laughsNow 7 = .ok (.if_icmp .eq 12, 3) := by decide +kernel
theorem dX1_laughsNow_10 : decode cX1_laughsNow 10 = .ok (.aload_n 0, 1) := by decide +kernel
theorem dX1_laughsNow_11 : decode cX1_laughsNow 11 = .ok (.iload_n 1, 1) := by decide +kernel
theorem dX1_laughsNow_12 : decode cX1_laughsNow 12 = .ok (.iload_n 2, 1) := by decide +kernel
theorem dX1_laughsNow_13 : decode cX1_laughsNow 13 = .ok (.invokevirtual 100, 3) := by decide +kernel
theorem dX1_laughsNow_16 : decode cX1_laughsNow 16 = .ok (.ifCond .eq 5, 3) := by decide +kernel
theorem dX1_laughsNow_19 : decode cX1_laughsNow 19 = .ok (.iconst 0, 1) := by decide +kernel
theorem dX1_laughsNow_20 : decode cX1_laughsNow 20 = .ok (.ireturn, 1) := by decide +kernel
theorem dX1_laughsNow_21 : decode cX1_laughsNow 21 = .ok (.aload_n 0, 1) := by decide +kernel
theorem dX1_laughsNow_22 : decode cX1_laughsNow 22 = .ok (.iload_n 1, 1) := by decide +kernel
theorem dX1_laughsNow_23 : decode cX1_laughsNow 23 = .ok (.iload_n 2, 1) := by decide +kernel
theorem dX1_laughsNow_24 : decode cX1_laughsNow 24 = .ok (.iload_n 3, 1) := by decide +kernel
theorem dX1_laughsNow_25 : decode cX1_laughsNow 25 = .ok (.invokevirtual 104, 3) := by decide +kernel
theorem dX1_laughsNow_28 : decode cX1_laughsNow 28 = .ok (.ireturn, 1) := by decide +kernel
theorem dX1_bestJokeByJoke_0 : decode cX1_bestJokeByJoke 0 = .ok (.sipush (-1015), 3) := by decide +kernel
theorem dX1_bestJokeByJoke_3 : decode cX1_bestJokeByJoke 3 = .ok (.istore_n 3, 1) := by decide +kernel
theorem dX1_bestJokeByJoke_4 : decode cX1_bestJokeByJoke 4 = .ok (.iconst 0, 1) := by decide +kernel
theorem dX1_bestJokeByJoke_5 : decode cX1_bestJokeByJoke 5 = .ok (.istore 4, 2) := by decide +kernel
theorem dX1_bestJokeByJoke_7 : decode cX1_bestJokeByJoke 7 = .ok (.iconst 0, 1) := by decide +kernel
theorem dX1_bestJokeByJoke_8 : decode cX1_bestJokeByJoke 8 = .ok (.istore 5, 2) := by decide +kernel
theorem dX1_bestJokeByJoke_10 : decode cX1_bestJokeByJoke 10 = .ok (.iload 5, 2) := by decide +kernel
theorem dX1_bestJokeByJoke_12 : decode cX1_bestJokeByJoke 12 = .ok (.aload_n 0, 1) := by decide +kernel
theorem dX1_bestJokeByJoke_13 : decode cX1_bestJokeByJoke 13 = .ok (.getfield 21, 3) := by decide +kernel
theorem dX1_bestJokeByJoke_16 : decode cX1_bestJokeByJoke 16 = .ok (.getfield 79, 3) := by decide +kernel
theorem dX1_bestJokeByJoke_19 : decode cX1_bestJokeByJoke 19 = .ok (.if_icmp .ge 33, 3) := by decide +kernel
theorem dX1_bestJokeByJoke_22 : decode cX1_bestJokeByJoke 22 = .ok (.aload_n 0, 1) := by decide +kernel
theorem dX1_bestJokeByJoke_23 : decode cX1_bestJokeByJoke 23 = .ok (.iload_n 1, 1) := by decide +kernel
theorem dX1_bestJokeByJoke_24 : decode cX1_bestJokeByJoke 24 = .ok (.iload 5, 2) := by decide +kernel
theorem dX1_bestJokeByJoke_26 : decode cX1_bestJokeByJoke 26 = .ok (.iload_n 2, 1) := by decide +kernel
theorem dX1_bestJokeByJoke_27 : decode cX1_bestJokeByJoke 27 = .ok (.invokevirtual 108, 3) := by decide +kernel
theorem dX1_bestJokeByJoke_30 : decode cX1_bestJokeByJoke 30 = .ok (.istore 6, 2) := by decide +kernel
theorem dX1_bestJokeByJoke_32 : decode cX1_bestJokeByJoke 32 = .ok (.iload 6, 2) := by decide +kernel
theorem dX1_bestJokeByJoke_34 : decode cX1_bestJokeByJoke 34 = .ok (.iload 4, 2) := by decide +kernel
theorem dX1_bestJokeByJoke_36 : decode cX1_bestJokeByJoke 36 = .ok (.if_icmp .le 10, 3) := by decide +kernel
theorem dX1_bestJokeByJoke_39 : decode cX1_bestJokeByJoke 39 = .ok (.iload 5, 2) := by decide +kernel
theorem dX1_bestJokeByJoke_41 : decode cX1_bestJokeByJoke 41 = .ok (.istore_n 3, 1) := by decide +kernel
theorem dX1_bestJokeByJoke_42 : decode cX1_bestJokeByJoke 42 = .ok (.iload 6, 2) := by decide +kernel
theorem dX1_bestJokeByJoke_44 : decode cX1_bestJokeByJoke 44 = .ok (.istore 4, 2) := by decide +kernel
theorem dX1_bestJokeByJoke_46 : decode cX1_bestJokeByJoke 46 = .ok (.iinc 5 1, 3) := by decide +kernel
theorem dX1_bestJokeByJoke_49 : decode cX1_bestJokeByJoke 49 = .ok (.goto (-39), 3) := by decide +kernel
theorem dX1_bestJokeByJoke_52 : decode cX1_bestJokeByJoke 52 = .ok (.iload_n 3, 1) := by decide +kernel
theorem dX1_bestJokeByJoke_53 : decode cX1_bestJokeByJoke 53 = .ok (.ireturn, 1) := by decide +kernel
theorem dX1_bestByWit_0 : decode cX1_bestByWit 0 = .ok (.sipush (-1015), 3) := by decide +kernel
theorem dX1_bestByWit_3 : decode cX1_bestByWit 3 = .ok (.istore_n 3, 1) := by decide +kernel
theorem dX1_bestByWit_4 : decode cX1_bestByWit 4 = .ok (.iconst 0, 1) := by decide +kernel
theorem dX1_bestByWit_5 : decode cX1_bestByWit 5 = .ok (.istore 4, 2) := by decide +kernel
theorem dX1_bestByWit_7 : decode cX1_bestByWit 7 = .ok (.bipush 9, 2) := by decide +kernel
theorem dX1_bestByWit_9 : decode cX1_bestByWit 9 = .ok (.istore 5, 2) := by decide +kernel
theorem dX1_bestByWit_11 : decode cX1_bestByWit 11 = .ok (.iload 5, 2) := by decide +kernel
theorem dX1_bestByWit_13 : decode cX1_bestByWit 13 = .ok (.iconst 1, 1) := by decide +kernel
theorem dX1_bestByWit_14 : decode cX1_bestByWit 14 = .ok (.if_icmp .lt 115, 3) := by decide +kernel
theorem dX1_bestByWit_17 : decode cX1_bestByWit 17 = .ok (.iload 5, 2) := by decide +kernel
theorem dX1_bestByWit_19 : decode cX1_bestByWit 19 = .ok (.aload_n 0, 1) := by decide +kernel
theorem dX1_bestByWit_20 : decode cX1_bestByWit 20 = .ok (.getfield 12, 3) := by decide +kernel
theorem dX1_bestByWit_23 : decode cX1_bestByWit 23 = .ok (.getfield 92, 3) := by decide +kernel
theorem dX1_bestByWit_26 : decode cX1_bestByWit 26 = .ok (.iload_n 1, 1) := by decide +kernel
theorem dX1_bestByWit_27 : decode cX1_bestByWit 27 = .ok (.iaload, 1) := by decide +kernel
theorem dX1_bestByWit_28 : decode cX1_bestByWit 28 = .ok (.iadd, 1) := by decide +kernel
theorem dX1_bestByWit_29 : decode cX1_bestByWit 29 = .ok (.iload 4, 2) := by decide +kernel
theorem dX1_bestByWit_31 : decode cX1_bestByWit 31 = .ok (.if_icmp .lt 98, 3) := by decide +kernel
theorem dX1_bestByWit_34 : decode cX1_bestByWit 34 = .ok (.iconst 0, 1) := by decide +kernel
theorem dX1_bestByWit_35 : decode cX1_bestByWit 35 = .ok (.istore 6, 2) := by decide +kernel
theorem dX1_bestByWit_37 : decode cX1_bestByWit 37 = .ok (.iload 6, 2) := by decide +kernel
theorem dX1_bestByWit_39 : decode cX1_bestByWit 39 = .ok (.aload_n 0, 1) := by decide +kernel
theorem dX1_bestByWit_40 : decode cX1_bestByWit 40 = .ok (.getfield 21, 3) := by decide +kernel
theorem dX1_bestByWit_43 : decode cX1_bestByWit 43 = .ok (.getfield 79, 3) := by decide +kernel
theorem dX1_bestByWit_46 : decode cX1_bestByWit 46 = .ok (.if_icmp .ge 77, 3) := by decide +kernel
theorem dX1_bestByWit_49 : decode cX1_bestByWit 49 = .ok (.aload_n 0, 1) := by decide +kernel
theorem dX1_bestByWit_50 : decode cX1_bestByWit 50 = .ok (.getfield 21, 3) := by decide +kernel
theorem dX1_bestByWit_53 : decode cX1_bestByWit 53 = .ok (.getfield 89, 3) := by decide +kernel
theorem dX1_bestByWit_56 : decode cX1_bestByWit 56 = .ok (.iload 6, 2) := by decide +kernel
theorem dX1_bestByWit_58 : decode cX1_bestByWit 58 = .ok (.iaload, 1) := by decide +kernel
theorem dX1_bestByWit_59 : decode cX1_bestByWit 59 = .ok (.iload 5, 2) := by decide +kernel
theorem dX1_bestByWit_61 : decode cX1_bestByWit 61 = .ok (.if_icmp .ne 14, 3) := by decide +kernel
theorem dX1_bestByWit_64 : decode cX1_bestByWit 64 = .ok (.aload_n 0, 1) := by decide +kernel
theorem dX1_bestByWit_65 : decode cX1_bestByWit 65 = .ok (.iload_n 1, 1) := by decide +kernel
theorem dX1_bestByWit_66 : decode cX1_bestByWit 66 = .ok (.iload 6, 2) := by decide +kernel
theorem dX1_bestByWit_68 : decode cX1_bestByWit 68 = .ok (.iload_n 2, 1) := by decide +kernel
theorem dX1_bestByWit_69 : decode cX1_bestByWit 69 = .ok (.invokevirtual 108, 3) := by decide +kernel
theorem dX1_bestByWit_72 : decode cX1_bestByWit 72 = .ok (.goto 4, 3) := by decide +kernel
theorem dX1_bestByWit_75 : decode cX1_bestByWit 75 = .ok (.iconst 0, 1) := by decide +kernel
theorem dX1_bestByWit_76 : decode cX1_bestByWit 76 = .ok (.istore 7, 2) := by decide +kernel
theorem dX1_bestByWit_78 : decode cX1_bestByWit 78 = .ok (.iload 7, 2) := by decide +kernel
theorem dX1_bestByWit_80 : decode cX1_bestByWit 80 = .ok (.iload 4, 2) := by decide +kernel
theorem dX1_bestByWit_82 : decode cX1_bestByWit 82 = .ok (.if_icmp .ne 13, 3) := by decide +kernel
theorem dX1_bestByWit_85 : decode cX1_bestByWit 85 = .ok (.iload 6, 2) := by decide +kernel
theorem dX1_bestByWit_87 : decode cX1_bestByWit 87 = .ok (.iload_n 3, 1) := by decide +kernel
theorem dX1_bestByWit_88 : decode cX1_bestByWit 88 = .ok (.if_icmp .ge 7, 3) := by decide +kernel
theorem dX1_bestByWit_91 : decode cX1_bestByWit 91 = .ok (.iconst 1, 1) := by decide +kernel
theorem dX1_bestByWit_92 : decode cX1_bestByWit 92 = .ok (.goto 4, 3) := by decide +kernel
theorem dX1_bestByWit_95 : decode cX1_bestByWit 95 = .ok (.iconst 0, 1) := by decide +kernel
theorem dX1_bestByWit_96 : decode cX1_bestByWit 96 = .ok (.istore 8, 2) := by decide +kernel
theorem dX1_bestByWit_98 : decode cX1_bestByWit 98 = .ok (.iload 7, 2) := by decide +kernel
theorem dX1_bestByWit_100 : decode cX1_bestByWit 100 = .ok (.iload 4, 2) := by decide +kernel
theorem dX1_bestByWit_102 : decode cX1_bestByWit 102 = .ok (.if_icmp .gt 8, 3) := by decide +kernel
theorem dX1_bestByWit_105 : decode cX1_bestByWit 105 = .ok (.iload 8, 2) := by decide +kernel
theorem dX1_bestByWit_107 : decode cX1_bestByWit 107 = .ok (.ifCond .eq 10, 3) := by decide +kernel
theorem dX1_bestByWit_110 : decode cX1_bestByWit 110 = .ok (.iload 6, 2) := by decide +kernel
theorem dX1_bestByWit_112 : decode cX1_bestByWit 112 = .ok (.istore_n 3, 1) := by decide +kernel
theorem dX1_bestByWit_113 : decode cX1_bestByWit 113 = .ok (.iload 7, 2) := by decide +kernel
theorem dX1_bestByWit_115 : decode cX1_bestByWit 115 = .ok (.istore 4, 2) := by decide +kernel
theorem dX1_bestByWit_117 : decode cX1_bestByWit 117 = .ok (.iinc 6 1, 3) := by decide +kernel
theorem dX1_bestByWit_120 : decode cX1_bestByWit 120 = .ok (.goto (-83), 3) := by decide +kernel
theorem dX1_bestByWit_123 : decode cX1_bestByWit 123 = .ok (.iinc 5 (-1), 3) := by decide +kernel
theorem dX1_bestByWit_126 : decode cX1_bestByWit 126 = .ok (.goto (-115), 3) := by decide +kernel
theorem dX1_bestByWit_129 : decode cX1_bestByWit 129 = .ok (.iload_n 3, 1) := by decide +kernel
theorem dX1_bestByWit_130 : decode cX1_bestByWit 130 = .ok (.ireturn, 1) := by decide +kernel
theorem dX1_placeFor_0 : decode cX1_placeFor 0 = .ok (.iconst 0, 1) := by decide +kernel
theorem dX1_placeFor_1 : decode cX1_placeFor 1 = .ok (.istore 4, 2) := by decide +kernel
theorem dX1_placeFor_3 : decode cX1_placeFor 3 = .ok (.iload 4, 2) := by decide +kernel
theorem dX1_placeFor_5 : decode cX1_placeFor 5 = .ok (.aload_n 0, 1) := by decide +kernel
theorem dX1_placeFor_6 : decode cX1_placeFor 6 = .ok (.getfield 28, 3) := by decide +kernel
theorem dX1_placeFor_9 : decode cX1_placeFor 9 = .ok (.getfield 111, 3) := by decide +kernel
theorem dX1_placeFor_12 : decode cX1_placeFor 12 = .ok (.if_icmp .ge 21, 3) := by decide +kernel
theorem dX1_placeFor_15 : decode cX1_placeFor 15 = .ok (.aload_n 0, 1) := by decide +kernel
theorem dX1_placeFor_16 : decode cX1_placeFor 16 = .ok (.iload 4, 2) := by decide +kernel
theorem dX1_placeFor_18 : decode cX1_placeFor 18 = .ok (.iload_n 1, 1) := by decide +kernel
theorem dX1_placeFor_19 : decode cX1_placeFor 19 = .ok (.iload_n 2, 1) := by decide +kernel
theorem dX1_placeFor_20 : decode cX1_placeFor 20 = .ok (.iload_n 3, 1) := by decide +kernel
theorem dX1_placeFor_21 : decode cX1_placeFor 21 = .ok (.invokevirtual 112, 3) := by decide +kernel
theorem dX1_placeFor_24 : decode cX1_placeFor 24 = .ok (.ifCond .eq 9, 3) := by decide +kernel
theorem dX1_placeFor_27 : decode cX1_placeFor 27 = .ok (.iinc 4 1, 3) := by decide +kernel
theorem dX1_placeFor_30 : decode cX1_placeFor 30 = .ok (.goto (-27), 3) := by decide +kernel
theorem dX1_placeFor_33 : decode cX1_placeFor 33 = .ok (.iload 4, 2) := by decide +kernel
theorem dX1_placeFor_35 : decode cX1_placeFor 35 = .ok (.ireturn, 1) := by decide +kernel
theorem dX1_isAhead_0 : decode cX1_isAhead 0 = .ok (.aload_n 0, 1) := by decide +kernel
theorem dX1_isAhead_1 : decode cX1_isAhead 1 = .ok (.getfield 28, 3) := by decide +kernel
theorem dX1_isAhead_4 : decode cX1_isAhead 4 = .ok (.getfield 116, 3) := by decide +kernel
theorem dX1_isAhead_7 : decode cX1_isAhead 7 = .ok (.iload_n 1, 1) := by decide +kernel
theorem dX1_isAhead_8 : decode cX1_isAhead 8 = .ok (.iaload, 1) := by decide +kernel
theorem dX1_isAhead_9 : decode cX1_isAhead 9 = .ok (.iload 4, 2) := by decide +kernel
theorem dX1_isAhead_11 : decode cX1_isAhead 11 = .ok (.if_icmp .eq 23, 3) := by decide +kernel
theorem dX1_isAhead_14 : decode cX1_isAhead 14 = .ok (.aload_n 0, 1) := by decide +kernel
theorem dX1_isAhead_15 : decode cX1_isAhead 15 = .ok (.getfield 28, 3) := by decide +kernel
theorem dX1_isAhead_18 : decode cX1_isAhead 18 = .ok (.getfield 116, 3) := by decide +kernel
theorem dX1_isAhead_21 : decode cX1_isAhead 21 = .ok (.iload_n 1, 1) := by decide +kernel
theorem dX1_isAhead_22 : decode cX1_isAhead 22 = .ok (.iaload, 1) := by decide +kernel
theorem dX1_isAhead_23 : decode cX1_isAhead 23 = .ok (.iload 4, 2) := by decide +kernel
theorem dX1_isAhead_25 : decode cX1_isAhead 25 = .ok (.if_icmp .ge 7, 3) := by decide +kernel
theorem dX1_isAhead_28 : decode cX1_isAhead 28 = .ok (.iconst 1, 1) := by decide +kernel
theorem dX1_isAhead_29 : decode cX1_isAhead 29 = .ok (.goto 4, 3) := by decide +kernel
theorem dX1_isAhead_32 : decode cX1_isAhead 32 = .ok (.iconst 0, 1) := by decide +kernel
theorem dX1_isAhead_33 : decode cX1_isAhead 33 = .ok (.ireturn, 1) := by decide +kernel
theorem dX1_isAhead_34 : decode cX1_isAhead 34 = .ok (.aload_n 0, 1) := by decide +kernel
theorem dX1_isAhead_35 : decode cX1_isAhead 35 = .ok (.getfield 21, 3) := by decide +kernel
theorem dX1_isAhead_38 : decode cX1_isAhead 38 = .ok (.getfield 89, 3) := by decide +kernel
theorem dX1_isAhead_41 : decode cX1_isAhead 41 = .ok (.aload_n 0, 1) := by decide +kernel
theorem dX1_isAhead_42 : decode cX1_isAhead 42 = .ok (.getfield 28, 3) := by decide +kernel
theorem dX1_isAhead_45 : decode cX1_isAhead 45 = .ok (.getfield 118, 3) := by decide +kernel
theorem dX1_isAhead_48 : decode cX1_isAhead 48 = .ok (.iload_n 1, 1) := by decide +kernel
theorem dX1_isAhead_49 : decode cX1_isAhead 49 = .ok (.iaload, 1) := by decide +kernel
theorem dX1_isAhead_50 : decode cX1_isAhead 50 = .ok (.iaload, 1) := by decide +kernel
theorem dX1_isAhead_51 : decode cX1_isAhead 51 = .ok (.istore 5, 2) := by decide +kernel
theorem dX1_isAhead_53 : decode cX1_isAhead 53 = .ok (.iload 5, 2) := by decide +kernel
theorem dX1_isAhead_55 : decode cX1_isAhead 55 = .ok (.aload_n 0, 1) := by decide +kernel
theorem dX1_isAhead_56 : decode cX1_isAhead 56 = .ok (.getfield 21, 3) := by decide +kernel
theorem dX1_isAhead_59 : decode cX1_isAhead 59 = .ok (.getfield 89, 3) := by decide +kernel
theorem dX1_isAhead_62 : decode cX1_isAhead 62 = .ok (.iload_n 3, 1) := by decide +kernel
theorem dX1_isAhead_63 : decode cX1_isAhead 63 = .ok (.iaload, 1) := by decide +kernel
theorem dX1_isAhead_64 : decode cX1_isAhead 64 = .ok (.if_icmp .eq 23, 3) := by decide +kernel
theorem dX1_isAhead_67 : decode cX1_isAhead 67 = .ok (.iload 5, 2) := by decide +kernel
theorem dX1_isAhead_69 : decode cX1_isAhead 69 = .ok (.aload_n 0, 1) := by decide +kernel
theorem dX1_isAhead_70 : decode cX1_isAhead 70 = .ok (.getfield 21, 3) := by decide +kernel
theorem dX1_isAhead_73 : decode cX1_isAhead 73 = .ok (.getfield 89, 3) := by decide +kernel
theorem dX1_isAhead_76 : decode cX1_isAhead 76 = .ok (.iload_n 3, 1) := by decide +kernel
theorem dX1_isAhead_77 : decode cX1_isAhead 77 = .ok (.iaload, 1) := by decide +kernel
theorem dX1_isAhead_78 : decode cX1_isAhead 78 = .ok (.if_icmp .le 7, 3) := by decide +kernel
theorem dX1_isAhead_81 : decode cX1_isAhead 81 = .ok (.iconst 1, 1) := by decide +kernel
theorem dX1_isAhead_82 : decode cX1_isAhead 82 = .ok (.goto 4, 3) := by decide +kernel
theorem dX1_isAhead_85 : decode cX1_isAhead 85 = .ok (.iconst 0, 1) := by decide +kernel
theorem dX1_isAhead_86 : decode cX1_isAhead 86 = .ok (.ireturn, 1) := by decide +kernel
theorem dX1_isAhead_87 : decode cX1_isAhead 87 = .ok (.aload_n 0, 1) := by decide +kernel
theorem dX1_isAhead_88 : decode cX1_isAhead 88 = .ok (.getfield 28, 3) := by decide +kernel
theorem dX1_isAhead_91 : decode cX1_isAhead 91 = .ok (.getfield 121, 3) := by decide +kernel
theorem dX1_isAhead_94 : decode cX1_isAhead 94 = .ok (.iload_n 1, 1) := by decide +kernel
theorem dX1_isAhead_95 : decode cX1_isAhead 95 = .ok (.iaload, 1) := by decide +kernel
theorem dX1_isAhead_96 : decode cX1_isAhead 96 = .ok (.iload_n 2, 1) := by decide +kernel
theorem dX1_isAhead_97 : decode cX1_isAhead 97 = .ok (.if_icmp .ge 7, 3) := by decide +kernel
theorem dX1_isAhead_100 : decode cX1_isAhead 100 = .ok (.iconst 1, 1) := by decide +kernel
theorem dX1_isAhead_101 : decode cX1_isAhead 101 = .ok (.goto 4, 3) := by decide +kernel
theorem dX1_isAhead_104 : decode cX1_isAhead 104 = .ok (.iconst 0, 1) := by decide +kernel
theorem dX1_isAhead_105 : decode cX1_isAhead 105 = .ok (.ireturn, 1) := by decide +kernel
theorem dX1_carryFirstOut_0 : decode cX1_carryFirstOut 0 = .ok (.aload_n 0, 1) := by decide +kernel
theorem dX1_carryFirstOut_1 : decode cX1_carryFirstOut 1 = .ok (.getfield 28, 3) := by decide +kernel
theorem dX1_carryFirstOut_4 : decode cX1_carryFirstOut 4 = .ok (.getfield 121, 3) := by decide +kernel
theorem dX1_carryFirstOut_7 : decode cX1_carryFirstOut 7 = .ok (.iconst 0, 1) := by decide +kernel
theorem dX1_carryFirstOut_8 : decode cX1_carryFirstOut 8 = .ok (.iaload, 1) := by decide +kernel
theorem dX1_carryFirstOut_9 : decode cX1_carryFirstOut 9 = .ok (.istore_n 1, 1) := by decide +kernel
theorem dX1_carryFirstOut_10 : decode cX1_carryFirstOut 10 = .ok (.aload_n 0, 1) := by decide +kernel
theorem dX1_carryFirstOut_11 : decode cX1_carryFirstOut 11 = .ok (.getfield 28, 3) := by decide +kernel
theorem dX1_carryFirstOut_14 : decode cX1_carryFirstOut 14 = .ok (.getfield 118, 3) := by decide +kernel
theorem dX1_carryFirstOut_17 : decode cX1_carryFirstOut 17 = .ok (.iconst 0, 1) := by decide +kernel
theorem dX1_carryFirstOut_18 : decode cX1_carryFirstOut 18 = .ok (.iaload, 1) := by decide +kernel
theorem dX1_carryFirstOut_19 : decode cX1_carryFirstOut 19 = .ok (.istore_n 2, 1) := by decide +kernel
theorem dX1_carryFirstOut_20 : decode cX1_carryFirstOut 20 = .ok (.aload_n 0, 1) := by decide +kernel
theorem dX1_carryFirstOut_21 : decode cX1_carryFirstOut 21 = .ok (.getfield 28, 3) := by decide +kernel
theorem dX1_carryFirstOut_24 : decode cX1_carryFirstOut 24 = .ok (.getfield 124, 3) := by decide +kernel
theorem dX1_carryFirstOut_27 : decode cX1_carryFirstOut 27 = .ok (.iconst 0, 1) := by decide +kernel
theorem dX1_carryFirstOut_28 : decode cX1_carryFirstOut 28 = .ok (.iaload, 1) := by decide +kernel
theorem dX1_carryFirstOut_29 : decode cX1_carryFirstOut 29 = .ok (.istore_n 3, 1) := by decide +kernel
theorem dX1_carryFirstOut_30 : decode cX1_carryFirstOut 30 = .ok (.aload_n 0, 1) := by decide +kernel
theorem dX1_carryFirstOut_31 : decode cX1_carryFirstOut 31 = .ok (.aload_n 0, 1) := by decide +kernel
theorem dX1_carryFirstOut_32 : decode cX1_carryFirstOut 32 = .ok (.getfield 28, 3) := by decide +kernel
theorem dX1_carryFirstOut_35 : decode cX1_carryFirstOut 35 = .ok (.getfield 116, 3) := by decide +kernel
theorem dX1_carryFirstOut_38 : decode cX1_carryFirstOut 38 = .ok (.iconst 0, 1) := by decide +kernel
theorem dX1_carryFirstOut_39 : decode cX1_carryFirstOut 39 = .ok (.iaload, 1) := by decide +kernel
theorem dX1_carryFirstOut_40 : decode cX1_carryFirstOut 40 = .ok (.putfield 39, 3) := by decide +kernel
theorem dX1_carryFirstOut_43 : decode cX1_carryFirstOut 43 = .ok (.aload_n 0, 1) := by decide +kernel
theorem dX1_carryFirstOut_44 : decode cX1_carryFirstOut 44 = .ok (.getfield 28, 3) := by decide +kernel
theorem dX1_carryFirstOut_47 : decode cX1_carryFirstOut 47 = .ok (.invokevirtual 127, 3) := by decide +kernel
theorem dX1_carryFirstOut_50 : decode cX1_carryFirstOut 50 = .ok (.aload_n 0, 1) := by decide +kernel
theorem dX1_carryFirstOut_51 : decode cX1_carryFirstOut 51 = .ok (.dup, 1) := by decide +kernel
theorem dX1_carryFirstOut_52 : decode cX1_carryFirstOut 52 = .ok (.getfield 52, 3) := by decide +kernel
theorem dX1_carryFirstOut_55 : decode cX1_carryFirstOut 55 = .ok (.iconst 1, 1) := by decide +kernel
theorem dX1_carryFirstOut_56 : decode cX1_carryFirstOut 56 = .ok (.iadd, 1) := by decide +kernel
theorem dX1_carryFirstOut_57 : decode cX1_carryFirstOut 57 = .ok (.putfield 52, 3) := by decide +kernel
theorem dX1_carryFirstOut_60 : decode cX1_carryFirstOut 60 = .ok (.aload_n 0, 1) := by decide +kernel
theorem dX1_carryFirstOut_61 : decode cX1_carryFirstOut 61 = .ok (.getfield 32, 3) := by decide +kernel
theorem dX1_carryFirstOut_64 : decode cX1_carryFirstOut 64 = .ok (.iload_n 3, 1) := by decide +kernel
theorem dX1_carryFirstOut_65 : decode cX1_carryFirstOut 65 = .ok (.iaload, 1) := by decide +kernel
theorem dX1_carryFirstOut_66 : decode cX1_carryFirstOut 66 = .ok (.iconst 1, 1) := by decide +kernel
theorem dX1_carryFirstOut_67 : decode cX1_carryFirstOut 67 = .ok (.if_icmp .ne 5, 3) := by decide +kernel
theorem dX1_carryFirstOut_70 : decode cX1_carryFirstOut 70 = .ok (.iconst 0, 1) := by decide +kernel
theorem dX1_carryFirstOut_71 : decode cX1_carryFirstOut 71 = .ok (.ireturn, 1) := by decide +kernel
theorem dX1_carryFirstOut_72 : decode cX1_carryFirstOut 72 = .ok (.aload_n 0, 1) := by decide +kernel
theorem dX1_carryFirstOut_73 : decode cX1_carryFirstOut 73 = .ok (.iload_n 1, 1) := by decide +kernel
theorem dX1_carryFirstOut_74 : decode cX1_carryFirstOut 74 = .ok (.iload_n 2, 1) := by decide +kernel
theorem dX1_carryFirstOut_75 : decode cX1_carryFirstOut 75 = .ok (.invokevirtual 100, 3) := by decide +kernel
theorem dX1_carryFirstOut_78 : decode cX1_carryFirstOut 78 = .ok (.ifCond .eq 19, 3) := by decide +kernel
theorem dX1_carryFirstOut_81 : decode cX1_carryFirstOut 81 = .ok (.aload_n 0, 1) := by decide +kernel
theorem dX1_carryFirstOut_82 : decode cX1_carryFirstOut 82 = .ok (.iload_n 1, 1) := by decide +kernel
theorem dX1_carryFirstOut_83 : decode cX1_carryFirstOut 83 = .ok (.aload_n 0, 1) := by decide +kernel
theorem dX1_carryFirstOut_84 : decode cX1_carryFirstOut 84 = .ok (.getfield 21, 3) := by decide +kernel
theorem dX1_carryFirstOut_87 : decode cX1_carryFirstOut 87 = .ok (.getfield 76, 3) := by decide +kernel
theorem dX1_carryFirstOut_90 : decode cX1_carryFirstOut 90 = .ok (.iload_n 2, 1) := by decide +kernel
theorem dX1_carryFirstOut_91 : decode cX1_carryFirstOut 91 = .ok (.iaload, 1) := by decide +kernel
theorem dX1_carryFirstOut_92 : decode cX1_carryFirstOut 92 = .ok (.invokevirtual 130, 3) := by decide +kernel
theorem dX1_carryFirstOut_95 : decode cX1_carryFirstOut 95 = .ok (.iconst 0, 1) := by decide +kernel
theorem dX1_carryFirstOut_96 : decode cX1_carryFirstOut 96 = .ok (.ireturn, 1) := by decide +kernel
theorem dX1_carryFirstOut_97 : decode cX1_carryFirstOut 97 = .ok (.aload_n 0, 1) := by decide +kernel
theorem dX1_carryFirstOut_98 : decode cX1_carryFirstOut 98 = .ok (.iload_n 1, 1) := by decide +kernel
theorem dX1_carryFirstOut_99 : decode cX1_carryFirstOut 99 = .ok (.iload_n 2, 1) := by decide +kernel
theorem dX1_carryFirstOut_100 : decode cX1_carryFirstOut 100 = .ok (.iload_n 3, 1) := by decide +kernel
theorem dX1_carryFirstOut_101 : decode cX1_carryFirstOut 101 = .ok (.invokevirtual 134, 3) := by decide +kernel
theorem dX1_carryFirstOut_104 : decode cX1_carryFirstOut 104 = .ok (.ireturn, 1) := by decide +kernel
theorem dX1_perform_0 : decode cX1_perform 0 = .ok (.aload_n 0, 1) := by decide +kernel
theorem dX1_perform_1 : decode cX1_perform 1 = .ok (.iload_n 1, 1) := by decide +kernel
theorem dX1_perform_2 : decode cX1_perform 2 = .ok (.iload_n 2, 1) := by decide +kernel
theorem dX1_perform_3 : decode cX1_perform 3 = .ok (.iload_n 3, 1) := by decide +kernel
theorem dX1_perform_4 : decode cX1_perform 4 = .ok (.invokevirtual 104, 3) := by decide +kernel
theorem dX1_perform_7 : decode cX1_perform 7 = .ok (.istore 4, 2) := by decide +kernel
theorem dX1_perform_9 : decode cX1_perform 9 = .ok (.aload_n 0, 1) := by decide +kernel
theorem dX1_perform_10 : decode cX1_perform 10 = .ok (.getfield 21, 3) := by decide +kernel
theorem dX1_perform_13 : decode cX1_perform 13 = .ok (.iload_n 2, 1) := by decide +kernel
theorem dX1_perform_14 : decode cX1_perform 14 = .ok (.iload_n 3, 1) := by decide +kernel
theorem dX1_perform_15 : decode cX1_perform 15 = .ok (.invokevirtual 137, 3) := by decide +kernel
theorem dX1_perform_18 : decode cX1_perform 18 = .ok (.aload_n 0, 1) := by decide +kernel
theorem dX1_perform_19 : decode cX1_perform 19 = .ok (.getfield 12, 3) := by decide +kernel
theorem dX1_perform_22 : decode cX1_perform 22 = .ok (.getfield 140, 3) := by decide +kernel
theorem dX1_perform_25 : decode cX1_perform 25 = .ok (.iload_n 1, 1) := by decide +kernel
theorem dX1_perform_26 : decode cX1_perform 26 = .ok (.dup2, 1) := by decide +kernel
theorem dX1_perform_27 : decode cX1_perform 27 = .ok (.iaload, 1) := by decide +kernel
theorem dX1_perform_28 : decode cX1_perform 28 = .ok (.iconst 1, 1) := by decide +kernel
theorem dX1_perform_29 : decode cX1_perform 29 = .ok (.iadd, 1) := by decide +kernel
theorem dX1_perform_30 : decode cX1_perform 30 = .ok (.iastore, 1) := by decide +kernel
theorem dX1_perform_31 : decode cX1_perform 31 = .ok (.iload 4, 2) := by decide +kernel
theorem dX1_perform_33 : decode cX1_perform 33 = .ok (.iconst 5, 1) := by decide +kernel
theorem dX1_perform_34 : decode cX1_perform 34 = .ok (.if_icmp .lt 45, 3) := by decide +kernel
theorem dX1_perform_37 : decode cX1_perform 37 = .ok (.aload_n 0, 1) := by decide +kernel
theorem dX1_perform_38 : decode cX1_perform 38 = .ok (.getfield 36, 3) := by decide +kernel
theorem dX1_perform_41 : decode cX1_perform 41 = .ok (.iload_n 3, 1) := by decide +kernel
theorem dX1_perform_42 : decode cX1_perform 42 = .ok (.dup2, 1) := by decide +kernel
theorem dX1_perform_43 : decode cX1_perform 43 = .ok (.iaload, 1) := by decide +kernel
theorem dX1_perform_44 : decode cX1_perform 44 = .ok (.iload 4, 2) := by decide +kernel
theorem dX1_perform_46 : decode cX1_perform 46 = .ok (.iadd, 1) := by decide +kernel
theorem dX1_perform_47 : decode cX1_perform 47 = .ok (.iastore, 1) := by decide +kernel
theorem dX1_perform_48 : decode cX1_perform 48 = .ok (.aload_n 0, 1) := by decide +kernel
theorem dX1_perform_49 : decode cX1_perform 49 = .ok (.iload_n 1, 1) := by decide +kernel
theorem dX1_perform_50 : decode cX1_perform 50 = .ok (.iload 4, 2) := by decide +kernel
theorem dX1_perform_52 : decode cX1_perform 52 = .ok (.invokevirtual 143, 3) := by decide +kernel
theorem dX1_perform_55 : decode cX1_perform 55 = .ok (.aload_n 0, 1) := by decide +kernel
theorem dX1_perform_56 : decode cX1_perform 56 = .ok (.getfield 12, 3) := by decide +kernel
theorem dX1_perform_59 : decode cX1_perform 59 = .ok (.getfield 146, 3) := by decide +kernel
theorem dX1_perform_62 : decode cX1_perform 62 = .ok (.iload_n 1, 1) := by decide +kernel
theorem dX1_perform_63 : decode cX1_perform 63 = .ok (.dup2, 1) := by decide +kernel
theorem dX1_perform_64 : decode cX1_perform 64 = .ok (.iaload, 1) := by decide +kernel
theorem dX1_perform_65 : decode cX1_perform 65 = .ok (.iconst 0, 1) := by decide +kernel
theorem dX1_perform_66 : decode cX1_perform 66 = .ok (.iload 4, 2) := by decide +kernel
theorem dX1_perform_68 : decode cX1_perform 68 = .ok (.bipush 11, 2) := by decide +kernel
theorem dX1_perform_70 : decode cX1_perform 70 = .ok (.isub, 1) := by decide +kernel
theorem dX1_perform_71 : decode cX1_perform 71 = .ok (.invokestatic 95, 3) := by decide +kernel
theorem dX1_perform_74 : decode cX1_perform 74 = .ok (.iadd, 1) := by decide +kernel
theorem dX1_perform_75 : decode cX1_perform 75 = .ok (.iastore, 1) := by decide +kernel
theorem dX1_perform_76 : decode cX1_perform 76 = .ok (.iload 4, 2) := by decide +kernel
theorem dX1_perform_78 : decode cX1_perform 78 = .ok (.ireturn, 1) := by decide +kernel
theorem dX1_perform_79 : decode cX1_perform 79 = .ok (.aload_n 0, 1) := by decide +kernel
theorem dX1_perform_80 : decode cX1_perform 80 = .ok (.getfield 12, 3) := by decide +kernel
theorem dX1_perform_83 : decode cX1_perform 83 = .ok (.getfield 149, 3) := by decide +kernel
theorem dX1_perform_86 : decode cX1_perform 86 = .ok (.iload_n 1, 1) := by decide +kernel
theorem dX1_perform_87 : decode cX1_perform 87 = .ok (.dup2, 1) := by decide +kernel
theorem dX1_perform_88 : decode cX1_perform 88 = .ok (.iaload, 1) := by decide +kernel
theorem dX1_perform_89 : decode cX1_perform 89 = .ok (.iconst 1, 1) := by decide +kernel
theorem dX1_perform_90 : decode cX1_perform 90 = .ok (.iadd, 1) := by decide +kernel
theorem dX1_perform_91 : decode cX1_perform 91 = .ok (.iastore, 1) := by decide +kernel
theorem dX1_perform_92 : decode cX1_perform 92 = .ok (.aload_n 0, 1) := by decide +kernel
theorem dX1_perform_93 : decode cX1_perform 93 = .ok (.getfield 12, 3) := by decide +kernel
theorem dX1_perform_96 : decode cX1_perform 96 = .ok (.getfield 152, 3) := by decide +kernel
theorem dX1_perform_99 : decode cX1_perform 99 = .ok (.iload_n 1, 1) := by decide +kernel
theorem dX1_perform_100 : decode cX1_perform 100 = .ok (.iaload, 1) := by decide +kernel
theorem dX1_perform_101 : decode cX1_perform 101 = .ok (.ifCond .le 19, 3) := by decide +kernel
theorem dX1_perform_104 : decode cX1_perform 104 = .ok (.aload_n 0, 1) := by decide +kernel
theorem dX1_perform_105 : decode cX1_perform 105 = .ok (.getfield 12, 3) := by decide +kernel
theorem dX1_perform_108 : decode cX1_perform 108 = .ok (.getfield 152, 3) := by decide +kernel
theorem dX1_perform_111 : decode cX1_perform 111 = .ok (.iload_n 1, 1) := by decide +kernel
theorem dX1_perform_112 : decode cX1_perform 112 = .ok (.dup2, 1) := by decide +kernel
theorem dX1_perform_113 : decode cX1_perform 113 = .ok (.iaload, 1) := by decide +kernel
theorem dX1_perform_114 : decode cX1_perform 114 = .ok (.iconst 1, 1) := by decide +kernel
theorem dX1_perform_115 : decode cX1_perform 115 = .ok (.isub, 1) := by decide +kernel
theorem dX1_perform_116 : decode cX1_perform 116 = .ok (.iastore, 1) := by decide +kernel
theorem dX1_perform_117 : decode cX1_perform 117 = .ok (.goto 10, 3) := by decide +kernel
theorem dX1_perform_120 : decode cX1_perform 120 = .ok (.aload_n 0, 1) := by decide +kernel
theorem dX1_perform_121 : decode cX1_perform 121 = .ok (.iload_n 1, 1) := by decide +kernel
theorem dX1_perform_122 : decode cX1_perform 122 = .ok (.iconst 3, 1) := by decide +kernel
theorem dX1_perform_123 : decode cX1_perform 123 = .ok (.invokevirtual 155, 3) := by decide +kernel
theorem dX1_perform_126 : decode cX1_perform 126 = .ok (.pop, 1) := by decide +kernel
theorem dX1_perform_127 : decode cX1_perform 127 = .ok (.iload 4, 2) := by decide +kernel
theorem dX1_perform_129 : decode cX1_perform 129 = .ok (.ireturn, 1) := by decide +kernel
theorem dX1_payUnion_0 : decode cX1_payUnion 0 = .ok (.iload_n 2, 1) := by decide +kernel
theorem dX1_payUnion_1 : decode cX1_payUnion 1 = .ok (.aload_n 0, 1) := by decide +kernel
theorem dX1_payUnion_2 : decode cX1_payUnion 2 = .ok (.getfield 12, 3) := by decide +kernel
theorem dX1_payUnion_5 : decode cX1_payUnion 5 = .ok (.getfield 158, 3) := by decide +kernel
theorem dX1_payUnion_8 : decode cX1_payUnion 8 = .ok (.iload_n 1, 1) := by decide +kernel
theorem dX1_payUnion_9 : decode cX1_payUnion 9 = .ok (.iaload, 1) := by decide +kernel
theorem dX1_payUnion_10 : decode cX1_payUnion 10 = .ok (.invokestatic 161, 3) := by decide +kernel
theorem dX1_payUnion_13 : decode cX1_payUnion 13 = .ok (.istore_n 3, 1) := by decide +kernel
theorem dX1_payUnion_14 : decode cX1_payUnion 14 = .ok (.aload_n 0, 1) := by decide +kernel
theorem dX1_payUnion_15 : decode cX1_payUnion 15 = .ok (.getfield 12, 3) := by decide +kernel
theorem dX1_payUnion_18 : decode cX1_payUnion 18 = .ok (.getfield 158, 3) := by decide +kernel
theorem dX1_payUnion_21 : decode cX1_payUnion 21 = .ok (.iload_n 1, 1) := by decide +kernel
theorem dX1_payUnion_22 : decode cX1_payUnion 22 = .ok (.dup2, 1) := by decide +kernel
theorem dX1_payUnion_23 : decode cX1_payUnion 23 = .ok (.iaload, 1) := by decide +kernel
theorem dX1_payUnion_24 : decode cX1_payUnion 24 = .ok (.iload_n 3, 1) := by decide +kernel
theorem dX1_payUnion_25 : decode cX1_payUnion 25 = .ok (.isub, 1) := by decide +kernel
theorem dX1_payUnion_26 : decode cX1_payUnion 26 = .ok (.iastore, 1) := by decide +kernel
theorem dX1_payUnion_27 : decode cX1_payUnion 27 = .ok (.aload_n 0, 1) := by decide +kernel
theorem dX1_payUnion_28 : decode cX1_payUnion 28 = .ok (.dup, 1) := by decide +kernel
theorem dX1_payUnion_29 : decode cX1_payUnion 29 = .ok (.getfield 46, 3) := by decide +kernel
theorem dX1_payUnion_32 : decode cX1_payUnion 32 = .ok (.iload_n 3, 1) := by decide +kernel
theorem dX1_payUnion_33 : decode cX1_payUnion 33 = .ok (.iadd, 1) := by decide +kernel
theorem dX1_payUnion_34 : decode cX1_payUnion 34 = .ok (.putfield 46, 3) := by decide +kernel
theorem dX1_payUnion_37 : decode cX1_payUnion 37 = .ok (.iload_n 3, 1) := by decide +kernel
theorem dX1_payUnion_38 : decode cX1_payUnion 38 = .ok (.ireturn, 1) := by decide +kernel
theorem dX1_payFine_0 : decode cX1_payFine 0 = .ok (.iconst 2, 1) := by decide +kernel
theorem dX1_payFine_1 : decode cX1_payFine 1 = .ok (.aload_n 0, 1) := by decide +kernel
theorem dX1_payFine_2 : decode cX1_payFine 2 = .ok (.getfield 12, 3) := by decide +kernel
theorem dX1_payFine_5 : decode cX1_payFine 5 = .ok (.getfield 158, 3) := by decide +kernel
theorem dX1_payFine_8 : decode cX1_payFine 8 = .ok (.iload_n 1, 1) := by decide +kernel
theorem dX1_payFine_9 : decode cX1_payFine 9 = .ok (.iaload, 1) := by decide +kernel
theorem dX1_payFine_10 : decode cX1_payFine 10 = .ok (.invokestatic 161, 3) := by decide +kernel
theorem dX1_payFine_13 : decode cX1_payFine 13 = .ok (.istore_n 3, 1) := by decide +kernel
theorem dX1_payFine_14 : decode cX1_payFine 14 = .ok (.aload_n 0, 1) := by decide +kernel
theorem dX1_payFine_15 : decode cX1_payFine 15 = .ok (.getfield 12, 3) := by decide +kernel
theorem dX1_payFine_18 : decode cX1_payFine 18 = .ok (.getfield 158, 3) := by decide +kernel
theorem dX1_payFine_21 : decode cX1_payFine 21 = .ok (.iload_n 1, 1) := by decide +kernel
theorem dX1_payFine_22 : decode cX1_payFine 22 = .ok (.dup2, 1) := by decide +kernel
theorem dX1_payFine_23 : decode cX1_payFine 23 = .ok (.iaload, 1) := by decide +kernel
theorem dX1_payFine_24 : decode cX1_payFine 24 = .ok (.iload_n 3, 1) := by decide +kernel
theorem dX1_payFine_25 : decode cX1_payFine 25 = .ok (.isub, 1) := by decide +kernel
theorem dX1_payFine_26 : decode cX1_payFine 26 = .ok (.iastore, 1) := by decide +kernel
theorem dX1_payFine_27 : decode cX1_payFine 27 = .ok (.aload_n 0, 1) := by decide +kernel
theorem dX1_payFine_28 : decode cX1_payFine 28 = .ok (.iload_n 2, 1) := by decide +kernel
theorem dX1_payFine_29 : decode cX1_payFine 29 = .ok (.iload_n 3, 1) := by decide +kernel
theorem dX1_payFine_30 : decode cX1_payFine 30 = .ok (.invokevirtual 143, 3) := by decide +kernel
theorem dX1_payFine_33 : decode cX1_payFine 33 = .ok (.return_, 1) := by decide +kernel
theorem dX1_gain_0 : decode cX1_gain 0 = .ok (.iload_n 2, 1) := by decide +kernel
theorem dX1_gain_1 : decode cX1_gain 1 = .ok (.bipush 99, 2) := by decide +kernel
theorem dX1_gain_3 : decode cX1_gain 3 = .ok (.aload_n 0, 1) := by decide +kernel
theorem dX1_gain_4 : decode cX1_gain 4 = .ok (.getfield 12, 3) := by decide +kernel
theorem dX1_gain_7 : decode cX1_gain 7 = .ok (.getfield 158, 3) := by decide +kernel
theorem dX1_gain_10 : decode cX1_gain 10 = .ok (.iload_n 1, 1) := by decide +kernel
theorem dX1_gain_11 : decode cX1_gain 11 = .ok (.iaload, 1) := by decide +kernel
theorem dX1_gain_12 : decode cX1_gain 12 = .ok (.isub, 1) := by decide +kernel
theorem dX1_gain_13 : decode cX1_gain 13 = .ok (.invokestatic 161, 3) := by decide +kernel
theorem dX1_gain_16 : decode cX1_gain 16 = .ok (.istore_n 3, 1) := by decide +kernel
theorem dX1_gain_17 : decode cX1_gain 17 = .ok (.aload_n 0, 1) := by decide +kernel
theorem dX1_gain_18 : decode cX1_gain 18 = .ok (.getfield 12, 3) := by decide +kernel
theorem dX1_gain_21 : decode cX1_gain 21 = .ok (.getfield 158, 3) := by decide +kernel
theorem dX1_gain_24 : decode cX1_gain 24 = .ok (.iload_n 1, 1) := by decide +kernel
theorem dX1_gain_25 : decode cX1_gain 25 = .ok (.dup2, 1) := by decide +kernel
theorem dX1_gain_26 : decode cX1_gain 26 = .ok (.iaload, 1) := by decide +kernel
theorem dX1_gain_27 : decode cX1_gain 27 = .ok (.iload_n 3, 1) := by decide +kernel
theorem dX1_gain_28 : decode cX1_gain 28 = .ok (.iadd, 1) := by decide +kernel
theorem dX1_gain_29 : decode cX1_gain 29 = .ok (.iastore, 1) := by decide +kernel
theorem dX1_gain_30 : decode cX1_gain 30 = .ok (.aload_n 0, 1) := by decide +kernel
theorem dX1_gain_31 : decode cX1_gain 31 = .ok (.dup, 1) := by decide +kernel
theorem dX1_gain_32 : decode cX1_gain 32 = .ok (.getfield 49, 3) := by decide +kernel
theorem dX1_gain_35 : decode cX1_gain 35 = .ok (.iload_n 2, 1) := by decide +kernel
theorem dX1_gain_36 : decode cX1_gain 36 = .ok (.iload_n 3, 1) := by decide +kernel
theorem dX1_gain_37 : decode cX1_gain 37 = .ok (.isub, 1) := by decide +kernel
theorem dX1_gain_38 : decode cX1_gain 38 = .ok (.iadd, 1) := by decide +kernel
theorem dX1_gain_39 : decode cX1_gain 39 = .ok (.putfield 49, 3) := by decide +kernel
theorem dX1_gain_42 : decode cX1_gain 42 = .ok (.return_, 1) := by decide +kernel
theorem dX2_init_0 : decode cX2_init 0 = .ok (.aload_n 0, 1) := by decide +kernel
theorem dX2_init_1 : decode cX2_init 1 = .ok (.invokespecial 3, 3) := by decide +kernel
theorem dX2_init_4 : decode cX2_init 4 = .ok (.aload_n 0, 1) := by decide +kernel
theorem dX2_init_5 : decode cX2_init 5 = .ok (.iconst 0, 1) := by decide +kernel
theorem dX2_init_6 : decode cX2_init 6 = .ok (.putfield 9, 3) := by decide +kernel
theorem dX2_init_9 : decode cX2_init 9 = .ok (.aload_n 0, 1) := by decide +kernel
theorem dX2_init_10 : decode cX2_init 10 = .ok (.bipush 6, 2) := by decide +kernel
theorem dX2_init_12 : decode cX2_init 12 = .ok (.newarray .int, 2) := by decide +kernel
theorem dX2_init_14 : decode cX2_init 14 = .ok (.putfield 15, 3) := by decide +kernel
theorem dX2_init_17 : decode cX2_init 17 = .ok (.aload_n 0, 1) := by decide +kernel
theorem dX2_init_18 : decode cX2_init 18 = .ok (.bipush 6, 2) := by decide +kernel
theorem dX2_init_20 : decode cX2_init 20 = .ok (.newarray .int, 2) := by decide +kernel
theorem dX2_init_22 : decode cX2_init 22 = .ok (.putfield 19, 3) := by decide +kernel
theorem dX2_init_25 : decode cX2_init 25 = .ok (.aload_n 0, 1) := by decide +kernel
theorem dX2_init_26 : decode cX2_init 26 = .ok (.bipush 6, 2) := by decide +kernel
theorem dX2_init_28 : decode cX2_init 28 = .ok (.newarray .int, 2) := by decide +kernel
theorem dX2_init_30 : decode cX2_init 30 = .ok (.putfield 22, 3) := by decide +kernel
theorem dX2_init_33 : decode cX2_init 33 = .ok (.aload_n 0, 1) := by decide +kernel
theorem dX2_init_34 : decode cX2_init 34 = .ok (.bipush 6, 2) := by decide +kernel
theorem dX2_init_36 : decode cX2_init 36 = .ok (.newarray .int, 2) := by decide +kernel
theorem dX2_init_38 : decode cX2_init 38 = .ok (.putfield 25, 3) := by decide +kernel
theorem dX2_init_41 : decode cX2_init 41 = .ok (.aload_n 0, 1) := by decide +kernel
theorem dX2_init_42 : decode cX2_init 42 = .ok (.bipush 6, 2) := by decide +kernel
theorem dX2_init_44 : decode cX2_init 44 = .ok (.newarray .int, 2) := by decide +kernel
theorem dX2_init_46 : decode cX2_init 46 = .ok (.putfield 28, 3) := by decide +kernel
theorem dX2_init_49 : decode cX2_init 49 = .ok (.aload_n 0, 1) := by decide +kernel
theorem dX2_init_50 : decode cX2_init 50 = .ok (.bipush 6, 2) := by decide +kernel
theorem dX2_init_52 : decode cX2_init 52 = .ok (.newarray .int, 2) := by decide +kernel
theorem dX2_init_54 : decode cX2_init 54 = .ok (.putfield 31, 3) := by decide +kernel
theorem dX2_init_57 : decode cX2_init 57 = .ok (.return_, 1) := by decide +kernel
theorem dX2_take_0 : decode cX2_take 0 = .ok (.aload_n 0, 1) := by decide +kernel
theorem dX2_take_1 : decode cX2_take 1 = .ok (.aload_n 1, 1) := by decide +kernel
theorem dX2_take_2 : decode cX2_take 2 = .ok (.getfield 9, 3) := by decide +kernel
theorem dX2_take_5 : decode cX2_take 5 = .ok (.putfield 9, 3) := by decide +kernel
theorem dX2_take_8 : decode cX2_take 8 = .ok (.aload_n 1, 1) := by decide +kernel
theorem dX2_take_9 : decode cX2_take 9 = .ok (.getfield 15, 3) := by decide +kernel
theorem dX2_take_12 : decode cX2_take 12 = .ok (.aload_n 0, 1) := by decide +kernel
theorem dX2_take_13 : decode cX2_take 13 = .ok (.getfield 15, 3) := by decide +kernel
theorem dX2_take_16 : decode cX2_take 16 = .ok (.invokestatic 34, 3) := by decide +kernel
theorem dX2_take_19 : decode cX2_take 19 = .ok (.aload_n 1, 1) := by decide +kernel
theorem dX2_take_20 : decode cX2_take 20 = .ok (.getfield 19, 3) := by decide +kernel
theorem dX2_take_23 : decode cX2_take 23 = .ok (.aload_n 0, 1) := by decide +kernel
theorem dX2_take_24 : decode cX2_take 24 = .ok (.getfield 19, 3) := by decide +kernel
theorem dX2_take_27 : decode cX2_take 27 = .ok (.invokestatic 34, 3) := by decide +kernel
theorem dX2_take_30 : decode cX2_take 30 = .ok (.aload_n 1, 1) := by decide +kernel
theorem dX2_take_31 : decode cX2_take 31 = .ok (.getfield 22, 3) := by decide +kernel
theorem dX2_take_34 : decode cX2_take 34 = .ok (.aload_n 0, 1) := by decide +kernel
theorem dX2_take_35 : decode cX2_take 35 = .ok (.getfield 22, 3) := by decide +kernel
theorem dX2_take_38 : decode cX2_take 38 = .ok (.invokestatic 34, 3) := by decide +kernel
theorem dX2_take_41 : decode cX2_take 41 = .ok (.aload_n 1, 1) := by decide +kernel
theorem dX2_take_42 : decode cX2_take 42 = .ok (.getfield 25, 3) := by decide +kernel
theorem dX2_take_45 : decode cX2_take 45 = .ok (.aload_n 0, 1) := by decide +kernel
theorem dX2_take_46 : decode cX2_take 46 = .ok (.getfield 25, 3) := by decide +kernel
theorem dX2_take_49 : decode cX2_take 49 = .ok (.invokestatic 34, 3) := by decide +kernel
theorem dX2_take_52 : decode cX2_take 52 = .ok (.aload_n 1, 1) := by decide +kernel
theorem dX2_take_53 : decode cX2_take 53 = .ok (.getfield 28, 3) := by decide +kernel
theorem dX2_take_56 : decode cX2_take 56 = .ok (.aload_n 0, 1) := by decide +kernel
theorem dX2_take_57 : decode cX2_take 57 = .ok (.getfield 28, 3) := by decide +kernel
theorem dX2_take_60 : decode cX2_take 60 = .ok (.invokestatic 34, 3) := by decide +kernel
theorem dX2_take_63 : decode cX2_take 63 = .ok (.aload_n 1, 1) := by decide +kernel
theorem dX2_take_64 : decode cX2_take 64 = .ok (.getfield 31, 3) := by decide +kernel
theorem dX2_take_67 : decode cX2_take 67 = .ok (.aload_n 0, 1) := by decide +kernel
theorem dX2_take_68 : decode cX2_take 68 = .ok (.getfield 31, 3) := by decide +kernel
theorem dX2_take_71 : decode cX2_take 71 = .ok (.invokestatic 34, 3) := by decide +kernel
theorem dX2_take_74 : decode cX2_take 74 = .ok (.return_, 1) := by decide +kernel
theorem dX2_has_0 : decode cX2_has 0 = .ok (.iload_n 1, 1) := by decide +kernel
theorem dX2_has_1 : decode cX2_has 1 = .ok (.ifCond .lt 15, 3) := by decide +kernel
theorem dX2_has_4 : decode cX2_has 4 = .ok (.iload_n 1, 1) := by decide +kernel
theorem dX2_has_5 : decode cX2_has 5 = .ok (.aload_n 0, 1) := by decide +kernel
theorem dX2_has_6 : decode cX2_has 6 = .ok (.getfield 9, 3) := by decide +kernel
theorem dX2_has_9 : decode cX2_has 9 = .ok (.if_icmp .ge 7, 3) := by decide +kernel
theorem dX2_has_12 : decode cX2_has 12 = .ok (.iconst 1, 1) := by decide +kernel
theorem dX2_has_13 : decode cX2_has 13 = .ok (.goto 4, 3) := by decide +kernel
theorem dX2_has_16 : decode cX2_has 16 = .ok (.iconst 0, 1) := by decide +kernel
theorem dX2_has_17 : decode cX2_has 17 = .ok (.ireturn, 1) := by decide +kernel
theorem dX2_add_0 : decode cX2_add 0 = .ok (.aload_n 0, 1) := by decide +kernel
theorem dX2_add_1 : decode cX2_add 1 = .ok (.getfield 9, 3) := by decide +kernel
theorem dX2_add_4 : decode cX2_add 4 = .ok (.istore_n 2, 1) := by decide +kernel
theorem dX2_add_5 : decode cX2_add 5 = .ok (.aload_n 0, 1) := by decide +kernel
theorem dX2_add_6 : decode cX2_add 6 = .ok (.getfield 15, 3) := by decide +kernel
theorem dX2_add_9 : decode cX2_add 9 = .ok (.iload_n 2, 1) := by decide +kernel
theorem dX2_add_10 : decode cX2_add 10 = .ok (.iload_n 1, 1) := by decide +kernel
theorem dX2_add_11 : decode cX2_add 11 = .ok (.iastore, 1) := by decide +kernel
theorem dX2_add_12 : decode cX2_add 12 = .ok (.aload_n 0, 1) := by decide +kernel
theorem dX2_add_13 : decode cX2_add 13 = .ok (.getfield 19, 3) := by decide +kernel
theorem dX2_add_16 : decode cX2_add 16 = .ok (.iload_n 2, 1) := by decide +kernel
theorem dX2_add_17 : decode cX2_add 17 = .ok (.bipush 10, 2) := by decide +kernel
theorem dX2_add_19 : decode cX2_add 19 = .ok (.iastore, 1) := by decide +kernel
theorem dX2_add_20 : decode cX2_add 20 = .ok (.aload_n 0, 1) := by decide +kernel
theorem dX2_add_21 : decode cX2_add 21 = .ok (.dup, 1) := by decide +kernel
theorem dX2_add_22 : decode cX2_add 22 = .ok (.getfield 9, 3) := by decide +kernel
theorem dX2_add_25 : decode cX2_add 25 = .ok (.iconst 1, 1) := by decide +kernel
theorem dX2_add_26 : decode cX2_add 26 = .ok (.iadd, 1) := by decide +kernel
theorem dX2_add_27 : decode cX2_add 27 = .ok (.putfield 9, 3) := by decide +kernel
theorem dX2_add_30 : decode cX2_add 30 = .ok (.iload_n 2, 1) := by decide +kernel
theorem dX2_add_31 : decode cX2_add 31 = .ok (.ireturn, 1) := by decide +kernel
theorem dX2_atRank_0 : decode cX2_atRank 0 = .ok (.iconst 0, 1) := by decide +kernel
theorem dX2_atRank_1 : decode cX2_atRank 1 = .ok (.istore_n 2, 1) := by decide +kernel
theorem dX2_atRank_2 : decode cX2_atRank 2 = .ok (.iload_n 2, 1) := by decide +kernel
theorem dX2_atRank_3 : decode cX2_atRank 3 = .ok (.aload_n 0, 1) := by decide +kernel
theorem dX2_atRank_4 : decode cX2_atRank 4 = .ok (.getfield 9, 3) := by decide +kernel
theorem dX2_atRank_7 : decode cX2_atRank 7 = .ok (.if_icmp .ge 20, 3) := by decide +kernel
theorem dX2_atRank_10 : decode cX2_atRank 10 = .ok (.aload_n 0, 1) := by decide +kernel
theorem dX2_atRank_11 : decode cX2_atRank 11 = .ok (.iload_n 2, 1) := by decide +kernel
theorem dX2_atRank_12 : decode cX2_atRank 12 = .ok (.invokevirtual 38, 3) := by decide +kernel
theorem dX2_atRank_15 : decode cX2_atRank 15 = .ok (.iload_n 1, 1) := by decide +kernel
theorem dX2_atRank_16 : decode cX2_atRank 16 = .ok (.if_icmp .ne 5, 3) := by decide +kernel
theorem dX2_atRank_19 : decode cX2_atRank 19 = .ok (.iload_n 2, 1) := by decide +kernel
theorem dX2_atRank_20 : decode cX2_atRank 20 = .ok (.ireturn, 1) := by decide +kernel
theorem dX2_atRank_21 : decode cX2_atRank 21 = .ok (.iinc 2 1, 3) := by decide +kernel
theorem dX2_atRank_24 : decode cX2_atRank 24 = .ok (.goto (-22), 3) := by decide +kernel
theorem dX2_atRank_27 : decode cX2_atRank 27 = .ok (.sipush (-1011), 3) := by decide +kernel
theorem dX2_atRank_30 : decode cX2_atRank 30 = .ok (.ireturn, 1) := by decide +kernel
theorem dX2_countAhead_0 : decode cX2_countAhead 0 = .ok (.iconst 0, 1) := by decide +kernel
theorem dX2_countAhead_1 : decode cX2_countAhead 1 = .ok (.istore_n 2, 1) := by decide +kernel
theorem dX2_countAhead_2 : decode cX2_countAhead 2 = .ok (.iconst 0, 1) := by decide +kernel
theorem dX2_countAhead_3 : decode cX2_countAhead 3 = .ok (.istore_n 3, 1) := by decide +kernel
theorem dX2_countAhead_4 : decode cX2_countAhead 4 = .ok (.iload_n 3, 1) := by decide +kernel
theorem dX2_countAhead_5 : decode cX2_countAhead 5 = .ok (.aload_n 0, 1) := by decide +kernel
theorem dX2_countAhead_6 : decode cX2_countAhead 6 = .ok (.getfield 9, 3) := by decide +kernel
theorem dX2_countAhead_9 : decode cX2_countAhead 9 = .ok (.if_icmp .ge 21, 3) := by decide +kernel
theorem dX2_countAhead_12 : decode cX2_countAhead 12 = .ok (.aload_n 0, 1) := by decide +kernel
theorem dX2_countAhead_13 : decode cX2_countAhead 13 = .ok (.iload_n 3, 1) := by decide +kernel
theorem dX2_countAhead_14 : decode cX2_countAhead 14 = .ok (.iload_n 1, 1) := by decide +kernel
theorem dX2_countAhead_15 : decode cX2_countAhead 15 = .ok (.invokevirtual 42, 3) := by decide +kernel
theorem dX2_countAhead_18 : decode cX2_countAhead 18 = .ok (.ifCond .eq 6, 3) := by decide +kernel
theorem dX2_countAhead_21 : decode cX2_countAhead 21 = .ok (.iinc 2 1, 3) := by decide +kernel
theorem dX2_countAhead_24 : decode cX2_countAhead 24 = .ok (.iinc 3 1, 3) := by decide +kernel
theorem dX2_countAhead_27 : decode cX2_countAhead 27 = .ok (.goto (-23), 3) := by decide +kernel
theorem dX2_countAhead_30 : decode cX2_countAhead 30 = .ok (.iload_n 2, 1) := by decide +kernel
theorem dX2_countAhead_31 : decode cX2_countAhead 31 = .ok (.ireturn, 1) := by decide +kernel
theorem dX2_isAhead_0 : decode cX2_isAhead 0 = .ok (.aload_n 0, 1) := by decide +kernel
theorem dX2_isAhead_1 : decode cX2_isAhead 1 = .ok (.getfield 22, 3) := by decide +kernel
theorem dX2_isAhead_4 : decode cX2_isAhead 4 = .ok (.iload_n 1, 1) := by decide +kernel
theorem dX2_isAhead_5 : decode cX2_isAhead 5 = .ok (.iaload, 1) := by decide +kernel
theorem dX2_isAhead_6 : decode cX2_isAhead 6 = .ok (.aload_n 0, 1) := by decide +kernel
theorem dX2_isAhead_7 : decode cX2_isAhead 7 = .ok (.getfield 22, 3) := by decide +kernel
theorem dX2_isAhead_10 : decode cX2_isAhead 10 = .ok (.iload_n 2, 1) := by decide +kernel
theorem dX2_isAhead_11 : decode cX2_isAhead 11 = .ok (.iaload, 1) := by decide +kernel
theorem dX2_isAhead_12 : decode cX2_isAhead 12 = .ok (.if_icmp .eq 24, 3) := by decide +kernel
theorem dX2_isAhead_15 : decode cX2_isAhead 15 = .ok (.aload_n 0, 1) := by decide +kernel
theorem dX2_isAhead_16 : decode cX2_isAhead 16 = .ok (.getfield 22, 3) := by decide +kernel
theorem dX2_isAhead_19 : decode cX2_isAhead 19 = .ok (.iload_n 1, 1) := by decide +kernel
theorem dX2_isAhead_20 : decode cX2_isAhead 20 = .ok (.iaload, 1) := by decide +kernel
theorem dX2_isAhead_21 : decode cX2_isAhead 21 = .ok (.aload_n 0, 1) := by decide +kernel
theorem dX2_isAhead_22 : decode cX2_isAhead 22 = .ok (.getfield 22, 3) := by decide +kernel
theorem dX2_isAhead_25 : decode cX2_isAhead 25 = .ok (.iload_n 2, 1) := by decide +kernel
theorem dX2_isAhead_26 : decode cX2_isAhead 26 = .ok (.iaload, 1) := by decide +kernel
theorem dX2_isAhead_27 : decode cX2_isAhead 27 = .ok (.if_icmp .le 7, 3) := by decide +kernel
theorem dX2_isAhead_30 : decode cX2_isAhead 30 = .ok (.iconst 1, 1) := by decide +kernel
theorem dX2_isAhead_31 : decode cX2_isAhead 31 = .ok (.goto 4, 3) := by decide +kernel
theorem dX2_isAhead_34 : decode cX2_isAhead 34 = .ok (.iconst 0, 1) := by decide +kernel
theorem dX2_isAhead_35 : decode cX2_isAhead 35 = .ok (.ireturn, 1) := by decide +kernel
theorem dX2_isAhead_36 : decode cX2_isAhead 36 = .ok (.aload_n 0, 1) := by decide +kernel
theorem dX2_isAhead_37 : decode cX2_isAhead 37 = .ok (.getfield 19, 3) := by decide +kernel
theorem dX2_isAhead_40 : decode cX2_isAhead 40 = .ok (.iload_n 1, 1) := by decide +kernel
theorem dX2_isAhead_41 : decode cX2_isAhead 41 = .ok (.iaload, 1) := by decide +kernel
theorem dX2_isAhead_42 : decode cX2_isAhead 42 = .ok (.aload_n 0, 1) := by decide +kernel
theorem dX2_isAhead_43 : decode cX2_isAhead 43 = .ok (.getfield 19, 3) := by decide +kernel
theorem dX2_isAhead_46 : decode cX2_isAhead 46 = .ok (.iload_n 2, 1) := by decide +kernel
theorem dX2_isAhead_47 : decode cX2_isAhead 47 = .ok (.iaload, 1) := by decide +kernel
theorem dX2_isAhead_48 : decode cX2_isAhead 48 = .ok (.if_icmp .eq 24, 3) := by decide +kernel
theorem dX2_isAhead_51 : decode cX2_isAhead 51 = .ok (.aload_n 0, 1) := by decide +kernel
theorem dX2_isAhead_52 : decode cX2_isAhead 52 = .ok (.getfield 19, 3) := by decide +kernel
theorem dX2_isAhead_55 : decode cX2_isAhead 55 = .ok (.iload_n 1, 1) := by decide +kernel
theorem dX2_isAhead_56 : decode cX2_isAhead 56 = .ok (.iaload, 1) := by decide +kernel
theorem dX2_isAhead_57 : decode cX2_isAhead 57 = .ok (.aload_n 0, 1) := by decide +kernel
theorem dX2_isAhead_58 : decode cX2_isAhead 58 = .ok (.getfield 19, 3) := by decide +kernel
theorem dX2_isAhead_61 : decode cX2_isAhead 61 = .ok (.iload_n 2, 1) := by decide +kernel
theorem dX2_isAhead_62 : decode cX2_isAhead 62 = .ok (.iaload, 1) := by decide +kernel
theorem dX2_isAhead_63 : decode cX2_isAhead 63 = .ok (.if_icmp .le 7, 3) := by decide +kernel
theorem dX2_isAhead_66 : decode cX2_isAhead 66 = .ok (.iconst 1, 1) := by decide +kernel
theorem dX2_isAhead_67 : decode cX2_isAhead 67 = .ok (.goto 4, 3) := by decide +kernel
theorem dX2_isAhead_70 : decode cX2_isAhead 70 = .ok (.iconst 0, 1) := by decide +kernel
theorem dX2_isAhead_71 : decode cX2_isAhead 71 = .ok (.ireturn, 1) := by decide +kernel
theorem dX2_isAhead_72 : decode cX2_isAhead 72 = .ok (.iload_n 1, 1) := by decide +kernel
theorem dX2_isAhead_73 : decode cX2_isAhead 73 = .ok (.iload_n 2, 1) := by decide +kernel
theorem dX2_isAhead_74 : decode cX2_isAhead 74 = .ok (.if_icmp .ge 7, 3) := by decide +kernel
theorem dX2_isAhead_77 : decode cX2_isAhead 77 = .ok (.iconst 1, 1) := by decide +kernel
theorem dX2_isAhead_78 : decode cX2_isAhead 78 = .ok (.goto 4, 3) := by decide +kernel
theorem dX2_isAhead_81 : decode cX2_isAhead 81 = .ok (.iconst 0, 1) := by decide +kernel
theorem dX2_isAhead_82 : decode cX2_isAhead 82 = .ok (.ireturn, 1) := by decide +kernel
theorem dX3_init_0 : decode cX3_init 0 = .ok (.aload_n 0, 1) := by decide +kernel
theorem dX3_init_1 : decode cX3_init 1 = .ok (.invokespecial 3, 3) := by decide +kernel
theorem dX3_init_4 : decode cX3_init 4 = .ok (.aload_n 0, 1) := by decide +kernel
theorem dX3_init_5 : decode cX3_init 5 = .ok (.iconst 0, 1) := by decide +kernel
theorem dX3_init_6 : decode cX3_init 6 = .ok (.putfield 9, 3) := by decide +kernel
theorem dX3_init_9 : decode cX3_init 9 = .ok (.aload_n 0, 1) := by decide +kernel
theorem dX3_init_10 : decode cX3_init 10 = .ok (.iconst 0, 1) := by decide +kernel
theorem dX3_init_11 : decode cX3_init 11 = .ok (.putfield 15, 3) := by decide +kernel
theorem dX3_init_14 : decode cX3_init 14 = .ok (.aload_n 0, 1) := by decide +kernel
theorem dX3_init_15 : decode cX3_init 15 = .ok (.bipush 8, 2) := by decide +kernel
theorem dX3_init_17 : decode cX3_init 17 = .ok (.anewarray 18, 3) := by decide +kernel
theorem dX3_init_20 : decode cX3_init 20 = .ok (.putfield 20, 3) := by decide +kernel
theorem dX3_init_23 : decode cX3_init 23 = .ok (.iconst 0, 1) := by decide +kernel
theorem dX3_init_24 : decode cX3_init 24 = .ok (.istore_n 1, 1) := by decide +kernel
theorem dX3_init_25 : decode cX3_init 25 = .ok (.iload_n 1, 1) := by decide +kernel
theorem dX3_init_26 : decode cX3_init 26 = .ok (.bipush 8, 2) := by decide +kernel
theorem dX3_init_28 : decode cX3_init 28 = .ok (.if_icmp .ge 22, 3) := by decide +kernel
theorem dX3_init_31 : decode cX3_init 31 = .ok (.aload_n 0, 1) := by decide +kernel
theorem dX3_init_32 : decode cX3_init 32 = .ok (.getfield 20, 3) := by decide +kernel
theorem dX3_init_35 : decode cX3_init 35 = .ok (.iload_n 1, 1) := by decide +kernel
theorem dX3_init_36 : decode cX3_init 36 = .ok (.new 18, 3) := by decide +kernel
theorem dX3_init_39 : decode cX3_init 39 = .ok (.dup, 1) := by decide +kernel
theorem dX3_init_40 : decode cX3_init 40 = .ok (.invokespecial 24, 3) := by decide +kernel
theorem dX3_init_43 : decode cX3_init 43 = .ok (.aastore, 1) := by decide +kernel
theorem dX3_init_44 : decode cX3_init 44 = .ok (.iinc 1 1, 3) := by decide +kernel
theorem dX3_init_47 : decode cX3_init 47 = .ok (.goto (-22), 3) := by decide +kernel
theorem dX3_init_50 : decode cX3_init 50 = .ok (.return_, 1) := by decide +kernel
theorem dX3_keep_0 : decode cX3_keep 0 = .ok (.aload_n 0, 1) := by decide +kernel
theorem dX3_keep_1 : decode cX3_keep 1 = .ok (.getfield 20, 3) := by decide +kernel
theorem dX3_keep_4 : decode cX3_keep 4 = .ok (.aload_n 0, 1) := by decide +kernel
theorem dX3_keep_5 : decode cX3_keep 5 = .ok (.getfield 15, 3) := by decide +kernel
theorem dX3_keep_8 : decode cX3_keep 8 = .ok (.aaload, 1) := by decide +kernel
theorem dX3_keep_9 : decode cX3_keep 9 = .ok (.aload_n 1, 1) := by decide +kernel
theorem dX3_keep_10 : decode cX3_keep 10 = .ok (.invokevirtual 25, 3) := by decide +kernel
theorem dX3_keep_13 : decode cX3_keep 13 = .ok (.aload_n 0, 1) := by decide +kernel
theorem dX3_keep_14 : decode cX3_keep 14 = .ok (.aload_n 0, 1) := by decide +kernel
theorem dX3_keep_15 : decode cX3_keep 15 = .ok (.getfield 15, 3) := by decide +kernel
theorem dX3_keep_18 : decode cX3_keep 18 = .ok (.iconst 1, 1) := by decide +kernel
theorem dX3_keep_19 : decode cX3_keep 19 = .ok (.iadd, 1) := by decide +kernel
theorem dX3_keep_20 : decode cX3_keep 20 = .ok (.bipush 8, 2) := by decide +kernel
theorem dX3_keep_22 : decode cX3_keep 22 = .ok (.irem, 1) := by decide +kernel
theorem dX3_keep_23 : decode cX3_keep 23 = .ok (.putfield 15, 3) := by decide +kernel
theorem dX3_keep_26 : decode cX3_keep 26 = .ok (.aload_n 0, 1) := by decide +kernel
theorem dX3_keep_27 : decode cX3_keep 27 = .ok (.aload_n 0, 1) := by decide +kernel
theorem dX3_keep_28 : decode cX3_keep 28 = .ok (.getfield 9, 3) := by decide +kernel
theorem dX3_keep_31 : decode cX3_keep 31 = .ok (.iconst 1, 1) := by decide +kernel
theorem dX3_keep_32 : decode cX3_keep 32 = .ok (.iadd, 1) := by decide +kernel
theorem dX3_keep_33 : decode cX3_keep 33 = .ok (.bipush 8, 2) := by decide +kernel
theorem dX3_keep_35 : decode cX3_keep 35 = .ok (.invokestatic 29, 3) := by decide +kernel
theorem dX3_keep_38 : decode cX3_keep 38 = .ok (.putfield 9, 3) := by decide +kernel
theorem dX3_keep_41 : decode cX3_keep 41 = .ok (.return_, 1) := by decide +kernel
theorem dX3_giveLatestBack_0 : decode cX3_giveLatestBack 0 = .ok (.aload_n 0, 1) := by decide +kernel
theorem dX3_giveLatestBack_1 : decode cX3_giveLatestBack 1 = .ok (.aload_n 0, 1) := by decide +kernel
theorem dX3_giveLatestBack_2 : decode cX3_giveLatestBack 2 = .ok (.getfield 15, 3) := by decide +kernel
theorem dX3_giveLatestBack_5 : decode cX3_giveLatestBack 5 = .ok (.bipush 8, 2) := by decide +kernel
theorem dX3_giveLatestBack_7 : decode cX3_giveLatestBack 7 = .ok (.iadd, 1) := by decide +kernel
theorem dX3_giveLatestBack_8 : decode cX3_giveLatestBack 8 = .ok (.iconst 1, 1) := by decide +kernel
theorem dX3_giveLatestBack_9 : decode cX3_giveLatestBack 9 = .ok (.isub, 1) := by decide +kernel
theorem dX3_giveLatestBack_10 : decode cX3_giveLatestBack 10 = .ok (.bipush 8, 2) := by decide +kernel
theorem dX3_giveLatestBack_12 : decode cX3_giveLatestBack 12 = .ok (.irem, 1) := by decide +kernel
theorem dX3_giveLatestBack_13 : decode cX3_giveLatestBack 13 = .ok (.putfield 15, 3) := by decide +kernel
theorem dX3_giveLatestBack_16 : decode cX3_giveLatestBack 16 = .ok (.aload_n 0, 1) := by decide +kernel
theorem dX3_giveLatestBack_17 : decode cX3_giveLatestBack 17 = .ok (.dup, 1) := by decide +kernel
theorem dX3_giveLatestBack_18 : decode cX3_giveLatestBack 18 = .ok (.getfield 9, 3) := by decide +kernel
theorem dX3_giveLatestBack_21 : decode cX3_giveLatestBack 21 = .ok (.iconst 1, 1) := by decide +kernel
theorem dX3_giveLatestBack_22 : decode cX3_giveLatestBack 22 = .ok (.isub, 1) := by decide +kernel
theorem dX3_giveLatestBack_23 : decode cX3_giveLatestBack 23 = .ok (.putfield 9, 3) := by decide +kernel
theorem dX3_giveLatestBack_26 : decode cX3_giveLatestBack 26 = .ok (.aload_n 1, 1) := by decide +kernel
theorem dX3_giveLatestBack_27 : decode cX3_giveLatestBack 27 = .ok (.aload_n 0, 1) := by decide +kernel
theorem dX3_giveLatestBack_28 : decode cX3_giveLatestBack 28 = .ok (.getfield 20, 3) := by decide +kernel
theorem dX3_giveLatestBack_31 : decode cX3_giveLatestBack 31 = .ok (.aload_n 0, 1) := by decide +kernel
theorem dX3_giveLatestBack_32 : decode cX3_giveLatestBack 32 = .ok (.getfield 15, 3) := by decide +kernel
theorem dX3_giveLatestBack_35 : decode cX3_giveLatestBack 35 = .ok (.aaload, 1) := by decide +kernel
theorem dX3_giveLatestBack_36 : decode cX3_giveLatestBack 36 = .ok (.invokevirtual 25, 3) := by decide +kernel
theorem dX3_giveLatestBack_39 : decode cX3_giveLatestBack 39 = .ok (.return_, 1) := by decide +kernel
theorem dX3_forgetAll_0 : decode cX3_forgetAll 0 = .ok (.aload_n 0, 1) := by decide +kernel
theorem dX3_forgetAll_1 : decode cX3_forgetAll 1 = .ok (.iconst 0, 1) := by decide +kernel
theorem dX3_forgetAll_2 : decode cX3_forgetAll 2 = .ok (.putfield 9, 3) := by decide +kernel
theorem dX3_forgetAll_5 : decode cX3_forgetAll 5 = .ok (.return_, 1) := by decide +kernel
theorem dX4_init_0 : decode cX4_init 0 = .ok (.aload_n 0, 1) := by decide +kernel
theorem dX4_init_1 : decode cX4_init 1 = .ok (.invokespecial 3, 3) := by decide +kernel
theorem dX4_init_4 : decode cX4_init 4 = .ok (.aload_n 0, 1) := by decide +kernel
theorem dX4_init_5 : decode cX4_init 5 = .ok (.iconst 0, 1) := by decide +kernel
theorem dX4_init_6 : decode cX4_init 6 = .ok (.putfield 9, 3) := by decide +kernel
theorem dX4_init_9 : decode cX4_init 9 = .ok (.aload_n 0, 1) := by decide +kernel
theorem dX4_init_10 : decode cX4_init 10 = .ok (.bipush 12, 2) := by decide +kernel
theorem dX4_init_12 : decode cX4_init 12 = .ok (.newarray .int, 2) := by decide +kernel
theorem dX4_init_14 : decode cX4_init 14 = .ok (.putfield 15, 3) := by decide +kernel
theorem dX4_init_17 : decode cX4_init 17 = .ok (.aload_n 0, 1) := by decide +kernel
theorem dX4_init_18 : decode cX4_init 18 = .ok (.bipush 12, 2) := by decide +kernel
theorem dX4_init_20 : decode cX4_init 20 = .ok (.newarray .int, 2) := by decide +kernel
theorem dX4_init_22 : decode cX4_init 22 = .ok (.putfield 19, 3) := by decide +kernel
theorem dX4_init_25 : decode cX4_init 25 = .ok (.aload_n 0, 1) := by decide +kernel
theorem dX4_init_26 : decode cX4_init 26 = .ok (.bipush 12, 2) := by decide +kernel
theorem dX4_init_28 : decode cX4_init 28 = .ok (.newarray .int, 2) := by decide +kernel
theorem dX4_init_30 : decode cX4_init 30 = .ok (.putfield 22, 3) := by decide +kernel
theorem dX4_init_33 : decode cX4_init 33 = .ok (.aload_n 0, 1) := by decide +kernel
theorem dX4_init_34 : decode cX4_init 34 = .ok (.bipush 48, 2) := by decide +kernel
theorem dX4_init_36 : decode cX4_init 36 = .ok (.newarray .int, 2) := by decide +kernel
theorem dX4_init_38 : decode cX4_init 38 = .ok (.putfield 25, 3) := by decide +kernel
theorem dX4_init_41 : decode cX4_init 41 = .ok (.return_, 1) := by decide +kernel
theorem dX4_take_0 : decode cX4_take 0 = .ok (.aload_n 0, 1) := by decide +kernel
theorem dX4_take_1 : decode cX4_take 1 = .ok (.aload_n 1, 1) := by decide +kernel
theorem dX4_take_2 : decode cX4_take 2 = .ok (.getfield 9, 3) := by decide +kernel
theorem dX4_take_5 : decode cX4_take 5 = .ok (.putfield 9, 3) := by decide +kernel
theorem dX4_take_8 : decode cX4_take 8 = .ok (.aload_n 1, 1) := by decide +kernel
theorem dX4_take_9 : decode cX4_take 9 = .ok (.getfield 15, 3) := by decide +kernel
theorem dX4_take_12 : decode cX4_take 12 = .ok (.aload_n 0, 1) := by decide +kernel
theorem dX4_take_13 : decode cX4_take 13 = .ok (.getfield 15, 3) := by decide +kernel
theorem dX4_take_16 : decode cX4_take 16 = .ok (.invokestatic 28, 3) := by decide +kernel
theorem dX4_take_19 : decode cX4_take 19 = .ok (.aload_n 1, 1) := by decide +kernel
theorem dX4_take_20 : decode cX4_take 20 = .ok (.getfield 19, 3) := by decide +kernel
theorem dX4_take_23 : decode cX4_take 23 = .ok (.aload_n 0, 1) := by decide +kernel
theorem dX4_take_24 : decode cX4_take 24 = .ok (.getfield 19, 3) := by decide +kernel
theorem dX4_take_27 : decode cX4_take 27 = .ok (.invokestatic 28, 3) := by decide +kernel
theorem dX4_take_30 : decode cX4_take 30 = .ok (.aload_n 1, 1) := by decide +kernel
theorem dX4_take_31 : decode cX4_take 31 = .ok (.getfield 22, 3) := by decide +kernel
theorem dX4_take_34 : decode cX4_take 34 = .ok (.aload_n 0, 1) := by decide +kernel
theorem dX4_take_35 : decode cX4_take 35 = .ok (.getfield 22, 3) := by decide +kernel
theorem dX4_take_38 : decode cX4_take 38 = .ok (.invokestatic 28, 3) := by decide +kernel
theorem dX4_take_41 : decode cX4_take 41 = .ok (.aload_n 1, 1) := by decide +kernel
theorem dX4_take_42 : decode cX4_take 42 = .ok (.getfield 25, 3) := by decide +kernel
theorem dX4_take_45 : decode cX4_take 45 = .ok (.aload_n 0, 1) := by decide +kernel
theorem dX4_take_46 : decode cX4_take 46 = .ok (.getfield 25, 3) := by decide +kernel
theorem dX4_take_49 : decode cX4_take 49 = .ok (.invokestatic 28, 3) := by decide +kernel
theorem dX4_take_52 : decode cX4_take 52 = .ok (.return_, 1) := by decide +kernel
theorem dX4_has_0 : decode cX4_has 0 = .ok (.iload_n 1, 1) := by decide +kernel
theorem dX4_has_1 : decode cX4_has 1 = .ok (.ifCond .lt 15, 3) := by decide +kernel
theorem dX4_has_4 : decode cX4_has 4 = .ok (.iload_n 1, 1) := by decide +kernel
theorem dX4_has_5 : decode cX4_has 5 = .ok (.aload_n 0, 1) := by decide +kernel
theorem dX4_has_6 : decode cX4_has 6 = .ok (.getfield 9, 3) := by decide +kernel
theorem dX4_has_9 : decode cX4_has 9 = .ok (.if_icmp .ge 7, 3) := by decide +kernel
theorem dX4_has_12 : decode cX4_has 12 = .ok (.iconst 1, 1) := by decide +kernel
theorem dX4_has_13 : decode cX4_has 13 = .ok (.goto 4, 3) := by decide +kernel
theorem dX4_has_16 : decode cX4_has 16 = .ok (.iconst 0, 1) := by decide +kernel
theorem dX4_has_17 : decode cX4_has 17 = .ok (.ireturn, 1) := by decide +kernel
theorem dX4_add_0 : decode cX4_add 0 = .ok (.aload_n 0, 1) := by decide +kernel
theorem dX4_add_1 : decode cX4_add 1 = .ok (.getfield 9, 3) := by decide +kernel
theorem dX4_add_4 : decode cX4_add 4 = .ok (.istore_n 2, 1) := by decide +kernel
theorem dX4_add_5 : decode cX4_add 5 = .ok (.aload_n 0, 1) := by decide +kernel
theorem dX4_add_6 : decode cX4_add 6 = .ok (.getfield 15, 3) := by decide +kernel
theorem dX4_add_9 : decode cX4_add 9 = .ok (.iload_n 2, 1) := by decide +kernel
theorem dX4_add_10 : decode cX4_add 10 = .ok (.iload_n 1, 1) := by decide +kernel
theorem dX4_add_11 : decode cX4_add 11 = .ok (.iastore, 1) := by decide +kernel
theorem dX4_add_12 : decode cX4_add 12 = .ok (.aload_n 0, 1) := by decide +kernel
theorem dX4_add_13 : decode cX4_add 13 = .ok (.dup, 1) := by decide +kernel
theorem dX4_add_14 : decode cX4_add 14 = .ok (.getfield 9, 3) := by decide +kernel
theorem dX4_add_17 : decode cX4_add 17 = .ok (.iconst 1, 1) := by decide +kernel
theorem dX4_add_18 : decode cX4_add 18 = .ok (.iadd, 1) := by decide +kernel
theorem dX4_add_19 : decode cX4_add 19 = .ok (.putfield 9, 3) := by decide +kernel
theorem dX4_add_22 : decode cX4_add 22 = .ok (.iload_n 2, 1) := by decide +kernel
theorem dX4_add_23 : decode cX4_add 23 = .ok (.ireturn, 1) := by decide +kernel
theorem dX4_toldAt_0 : decode cX4_toldAt 0 = .ok (.aload_n 0, 1) := by decide +kernel
theorem dX4_toldAt_1 : decode cX4_toldAt 1 = .ok (.getfield 25, 3) := by decide +kernel
theorem dX4_toldAt_4 : decode cX4_toldAt 4 = .ok (.iload_n 1, 1) := by decide +kernel
theorem dX4_toldAt_5 : decode cX4_toldAt 5 = .ok (.iconst 4, 1) := by decide +kernel
theorem dX4_toldAt_6 : decode cX4_toldAt 6 = .ok (.imul, 1) := by decide +kernel
theorem dX4_toldAt_7 : decode cX4_toldAt 7 = .ok (.iload_n 2, 1) := by decide +kernel
theorem dX4_toldAt_8 : decode cX4_toldAt 8 = .ok (.iadd, 1) := by decide +kernel
theorem dX4_toldAt_9 : decode cX4_toldAt 9 = .ok (.iaload, 1) := by decide +kernel
theorem dX4_toldAt_10 : decode cX4_toldAt 10 = .ok (.ireturn, 1) := by decide +kernel
theorem dX4_addTelling_0 : decode cX4_addTelling 0 = .ok (.aload_n 0, 1) := by decide +kernel
theorem dX4_addTelling_1 : decode cX4_addTelling 1 = .ok (.getfield 25, 3) := by decide +kernel
theorem dX4_addTelling_4 : decode cX4_addTelling 4 = .ok (.iload_n 1, 1) := by decide +kernel
theorem dX4_addTelling_5 : decode cX4_addTelling 5 = .ok (.iconst 4, 1) := by decide +kernel
theorem dX4_addTelling_6 : decode cX4_addTelling 6 = .ok (.imul, 1) := by decide +kernel
theorem dX4_addTelling_7 : decode cX4_addTelling 7 = .ok (.iload_n 2, 1) := by decide +kernel
theorem dX4_addTelling_8 : decode cX4_addTelling 8 = .ok (.iadd, 1) := by decide +kernel
theorem dX4_addTelling_9 : decode cX4_addTelling 9 = .ok (.dup2, 1) := by decide +kernel
theorem dX4_addTelling_10 : decode cX4_addTelling 10 = .ok (.iaload, 1) := by decide +kernel
theorem dX4_addTelling_11 : decode cX4_addTelling 11 = .ok (.iconst 1, 1) := by decide +kernel
theorem dX4_addTelling_12 : decode cX4_addTelling 12 = .ok (.iadd, 1) := by decide +kernel
theorem dX4_addTelling_13 : decode cX4_addTelling 13 = .ok (.iastore, 1) := by decide +kernel
theorem dX4_addTelling_14 : decode cX4_addTelling 14 = .ok (.return_, 1) := by decide +kernel
theorem dX4_tellings_0 : decode cX4_tellings 0 = .ok (.iconst 0, 1) := by decide +kernel
theorem dX4_tellings_1 : decode cX4_tellings 1 = .ok (.istore_n 2, 1) := by decide +kernel
theorem dX4_tellings_2 : decode cX4_tellings 2 = .ok (.iconst 0, 1) := by decide +kernel
theorem dX4_tellings_3 : decode cX4_tellings 3 = .ok (.istore_n 3, 1) := by decide +kernel
theorem dX4_tellings_4 : decode cX4_tellings 4 = .ok (.iload_n 3, 1) := by decide +kernel
theorem dX4_tellings_5 : decode cX4_tellings 5 = .ok (.iconst 4, 1) := by decide +kernel
theorem dX4_tellings_6 : decode cX4_tellings 6 = .ok (.if_icmp .ge 18, 3) := by decide +kernel
theorem dX4_tellings_9 : decode cX4_tellings 9 = .ok (.iload_n 2, 1) := by decide +kernel
theorem dX4_tellings_10 : decode cX4_tellings 10 = .ok (.aload_n 0, 1) := by decide +kernel
theorem dX4_tellings_11 : decode cX4_tellings 11 = .ok (.iload_n 1, 1) := by decide +kernel
theorem dX4_tellings_12 : decode cX4_tellings 12 = .ok (.iload_n 3, 1) := by decide +kernel
theorem dX4_tellings_13 : decode cX4_tellings 13 = .ok (.invokevirtual 32, 3) := by decide +kernel
theorem dX4_tellings_16 : decode cX4_tellings 16 = .ok (.iadd, 1) := by decide +kernel
theorem dX4_tellings_17 : decode cX4_tellings 17 = .ok (.istore_n 2, 1) := by decide +kernel
theorem dX4_tellings_18 : decode cX4_tellings 18 = .ok (.iinc 3 1, 3) := by decide +kernel
theorem dX4_tellings_21 : decode cX4_tellings 21 = .ok (.goto (-17), 3) := by decide +kernel
theorem dX4_tellings_24 : decode cX4_tellings 24 = .ok (.iload_n 2, 1) := by decide +kernel
theorem dX4_tellings_25 : decode cX4_tellings 25 = .ok (.ireturn, 1) := by decide +kernel
theorem dX4_tellingsAt_0 : decode cX4_tellingsAt 0 = .ok (.iconst 0, 1) := by decide +kernel
theorem dX4_tellingsAt_1 : decode cX4_tellingsAt 1 = .ok (.istore_n 2, 1) := by decide +kernel
theorem dX4_tellingsAt_2 : decode cX4_tellingsAt 2 = .ok (.iconst 0, 1) := by decide +kernel
theorem dX4_tellingsAt_3 : decode cX4_tellingsAt 3 = .ok (.istore_n 3, 1) := by decide +kernel
theorem dX4_tellingsAt_4 : decode cX4_tellingsAt 4 = .ok (.iload_n 3, 1) := by decide +kernel
theorem dX4_tellingsAt_5 : decode cX4_tellingsAt 5 = .ok (.aload_n 0, 1) := by decide +kernel
theorem dX4_tellingsAt_6 : decode cX4_tellingsAt 6 = .ok (.getfield 9, 3) := by decide +kernel
theorem dX4_tellingsAt_9 : decode cX4_tellingsAt 9 = .ok (.if_icmp .ge 18, 3) := by decide +kernel
theorem dX4_tellingsAt_12 : decode cX4_tellingsAt 12 = .ok (.iload_n 2, 1) := by decide +kernel
theorem dX4_tellingsAt_13 : decode cX4_tellingsAt 13 = .ok (.aload_n 0, 1) := by decide +kernel
theorem dX4_tellingsAt_14 : decode cX4_tellingsAt 14 = .ok (.iload_n 3, 1) := by decide +kernel
theorem dX4_tellingsAt_15 : decode cX4_tellingsAt 15 = .ok (.iload_n 1, 1) := by decide +kernel
theorem dX4_tellingsAt_16 : decode cX4_tellingsAt 16 = .ok (.invokevirtual 32, 3) := by decide +kernel
theorem dX4_tellingsAt_19 : decode cX4_tellingsAt 19 = .ok (.iadd, 1) := by decide +kernel
theorem dX4_tellingsAt_20 : decode cX4_tellingsAt 20 = .ok (.istore_n 2, 1) := by decide +kernel
theorem dX4_tellingsAt_21 : decode cX4_tellingsAt 21 = .ok (.iinc 3 1, 3) := by decide +kernel
theorem dX4_tellingsAt_24 : decode cX4_tellingsAt 24 = .ok (.goto (-20), 3) := by decide +kernel
theorem dX4_tellingsAt_27 : decode cX4_tellingsAt 27 = .ok (.iload_n 2, 1) := by decide +kernel
theorem dX4_tellingsAt_28 : decode cX4_tellingsAt 28 = .ok (.ireturn, 1) := by decide +kernel
theorem dX4_atRank_0 : decode cX4_atRank 0 = .ok (.iconst 0, 1) := by decide +kernel
theorem dX4_atRank_1 : decode cX4_atRank 1 = .ok (.istore_n 2, 1) := by decide +kernel
theorem dX4_atRank_2 : decode cX4_atRank 2 = .ok (.iload_n 2, 1) := by decide +kernel
theorem dX4_atRank_3 : decode cX4_atRank 3 = .ok (.aload_n 0, 1) := by decide +kernel
theorem dX4_atRank_4 : decode cX4_atRank 4 = .ok (.getfield 9, 3) := by decide +kernel
theorem dX4_atRank_7 : decode cX4_atRank 7 = .ok (.if_icmp .ge 20, 3) := by decide +kernel
theorem dX4_atRank_10 : decode cX4_atRank 10 = .ok (.aload_n 0, 1) := by decide +kernel
theorem dX4_atRank_11 : decode cX4_atRank 11 = .ok (.iload_n 2, 1) := by decide +kernel
theorem dX4_atRank_12 : decode cX4_atRank 12 = .ok (.invokevirtual 36, 3) := by decide +kernel
theorem dX4_atRank_15 : decode cX4_atRank 15 = .ok (.iload_n 1, 1) := by decide +kernel
theorem dX4_atRank_16 : decode cX4_atRank 16 = .ok (.if_icmp .ne 5, 3) := by decide +kernel
theorem dX4_atRank_19 : decode cX4_atRank 19 = .ok (.iload_n 2, 1) := by decide +kernel
theorem dX4_atRank_20 : decode cX4_atRank 20 = .ok (.ireturn, 1) := by decide +kernel
theorem dX4_atRank_21 : decode cX4_atRank 21 = .ok (.iinc 2 1, 3) := by decide +kernel
theorem dX4_atRank_24 : decode cX4_atRank 24 = .ok (.goto (-22), 3) := by decide +kernel
theorem dX4_atRank_27 : decode cX4_atRank 27 = .ok (.sipush (-1011), 3) := by decide +kernel
theorem dX4_atRank_30 : decode cX4_atRank 30 = .ok (.ireturn, 1) := by decide +kernel
theorem dX4_countAhead_0 : decode cX4_countAhead 0 = .ok (.iconst 0, 1) := by decide +kernel
theorem dX4_countAhead_1 : decode cX4_countAhead 1 = .ok (.istore_n 2, 1) := by decide +kernel
theorem dX4_countAhead_2 : decode cX4_countAhead 2 = .ok (.iconst 0, 1) := by decide +kernel
theorem dX4_countAhead_3 : decode cX4_countAhead 3 = .ok (.istore_n 3, 1) := by decide +kernel
theorem dX4_countAhead_4 : decode cX4_countAhead 4 = .ok (.iload_n 3, 1) := by decide +kernel
theorem dX4_countAhead_5 : decode cX4_countAhead 5 = .ok (.aload_n 0, 1) := by decide +kernel
theorem dX4_countAhead_6 : decode cX4_countAhead 6 = .ok (.getfield 9, 3) := by decide +kernel
theorem dX4_countAhead_9 : decode cX4_countAhead 9 = .ok (.if_icmp .ge 21, 3) := by decide +kernel
theorem dX4_countAhead_12 : decode cX4_countAhead 12 = .ok (.aload_n 0, 1) := by decide +kernel
theorem dX4_countAhead_13 : decode cX4_countAhead 13 = .ok (.iload_n 3, 1) := by decide +kernel
theorem dX4_countAhead_14 : decode cX4_countAhead 14 = .ok (.iload_n 1, 1) := by decide +kernel
theorem dX4_countAhead_15 : decode cX4_countAhead 15 = .ok (.invokevirtual 40, 3) := by decide +kernel
theorem dX4_countAhead_18 : decode cX4_countAhead 18 = .ok (.ifCond .eq 6, 3) := by decide +kernel
theorem dX4_countAhead_21 : decode cX4_countAhead 21 = .ok (.iinc 2 1, 3) := by decide +kernel
theorem dX4_countAhead_24 : decode cX4_countAhead 24 = .ok (.iinc 3 1, 3) := by decide +kernel
theorem dX4_countAhead_27 : decode cX4_countAhead 27 = .ok (.goto (-23), 3) := by decide +kernel
theorem dX4_countAhead_30 : decode cX4_countAhead 30 = .ok (.iload_n 2, 1) := by decide +kernel
theorem dX4_countAhead_31 : decode cX4_countAhead 31 = .ok (.ireturn, 1) := by decide +kernel
theorem dX4_isAhead_0 : decode cX4_isAhead 0 = .ok (.aload_n 0, 1) := by decide +kernel
theorem dX4_isAhead_1 : decode cX4_isAhead 1 = .ok (.iload_n 1, 1) := by decide +kernel
theorem dX4_isAhead_2 : decode cX4_isAhead 2 = .ok (.invokevirtual 44, 3) := by decide +kernel
theorem dX4_isAhead_5 : decode cX4_isAhead 5 = .ok (.istore_n 3, 1) := by decide +kernel
theorem dX4_isAhead_6 : decode cX4_isAhead 6 = .ok (.aload_n 0, 1) := by decide +kernel
theorem dX4_isAhead_7 : decode cX4_isAhead 7 = .ok (.iload_n 2, 1) := by decide +kernel
theorem dX4_isAhead_8 : decode cX4_isAhead 8 = .ok (.invokevirtual 44, 3) := by decide +kernel
theorem dX4_isAhead_11 : decode cX4_isAhead 11 = .ok (.istore 4, 2) := by decide +kernel
theorem dX4_isAhead_13 : decode cX4_isAhead 13 = .ok (.iload_n 3, 1) := by decide +kernel
theorem dX4_isAhead_14 : decode cX4_isAhead 14 = .ok (.iload 4, 2) := by decide +kernel
theorem dX4_isAhead_16 : decode cX4_isAhead 16 = .ok (.if_icmp .eq 15, 3) := by decide +kernel
theorem dX4_isAhead_19 : decode cX4_isAhead 19 = .ok (.iload_n 3, 1) := by decide +kernel
theorem dX4_isAhead_20 : decode cX4_isAhead 20 = .ok (.iload 4, 2) := by decide +kernel
theorem dX4_isAhead_22 : decode cX4_isAhead 22 = .ok (.if_icmp .le 7, 3) := by decide +kernel
theorem dX4_isAhead_25 : decode cX4_isAhead 25 = .ok (.iconst 1, 1) := by decide +kernel
theorem dX4_isAhead_26 : decode cX4_isAhead 26 = .ok (.goto 4, 3) := by decide +kernel
theorem dX4_isAhead_29 : decode cX4_isAhead 29 = .ok (.iconst 0, 1) := by decide +kernel
theorem dX4_isAhead_30 : decode cX4_isAhead 30 = .ok (.ireturn, 1) := by decide +kernel
theorem dX4_isAhead_31 : decode cX4_isAhead 31 = .ok (.aload_n 0, 1) := by decide +kernel
theorem dX4_isAhead_32 : decode cX4_isAhead 32 = .ok (.getfield 15, 3) := by decide +kernel
theorem dX4_isAhead_35 : decode cX4_isAhead 35 = .ok (.iload_n 1, 1) := by decide +kernel
theorem dX4_isAhead_36 : decode cX4_isAhead 36 = .ok (.iaload, 1) := by decide +kernel
theorem dX4_isAhead_37 : decode cX4_isAhead 37 = .ok (.aload_n 0, 1) := by decide +kernel
theorem dX4_isAhead_38 : decode cX4_isAhead 38 = .ok (.getfield 15, 3) := by decide +kernel
theorem dX4_isAhead_41 : decode cX4_isAhead 41 = .ok (.iload_n 2, 1) := by decide +kernel
theorem dX4_isAhead_42 : decode cX4_isAhead 42 = .ok (.iaload, 1) := by decide +kernel
theorem dX4_isAhead_43 : decode cX4_isAhead 43 = .ok (.if_icmp .eq 24, 3) := by decide +kernel
theorem dX4_isAhead_46 : decode cX4_isAhead 46 = .ok (.aload_n 0, 1) := by decide +kernel
theorem dX4_isAhead_47 : decode cX4_isAhead 47 = .ok (.getfield 15, 3) := by decide +kernel
theorem dX4_isAhead_50 : decode cX4_isAhead 50 = .ok (.iload_n 1, 1) := by decide +kernel
theorem dX4_isAhead_51 : decode cX4_isAhead 51 = .ok (.iaload, 1) := by decide +kernel
theorem dX4_isAhead_52 : decode cX4_isAhead 52 = .ok (.aload_n 0, 1) := by decide +kernel
theorem dX4_isAhead_53 : decode cX4_isAhead 53 = .ok (.getfield 15, 3) := by decide +kernel
theorem dX4_isAhead_56 : decode cX4_isAhead 56 = .ok (.iload_n 2, 1) := by decide +kernel
theorem dX4_isAhead_57 : decode cX4_isAhead 57 = .ok (.iaload, 1) := by decide +kernel
theorem dX4_isAhead_58 : decode cX4_isAhead 58 = .ok (.if_icmp .le 7, 3) := by decide +kernel
theorem dX4_isAhead_61 : decode cX4_isAhead 61 = .ok (.iconst 1, 1) := by decide +kernel
theorem dX4_isAhead_62 : decode cX4_isAhead 62 = .ok (.goto 4, 3) := by decide +kernel
theorem dX4_isAhead_65 : decode cX4_isAhead 65 = .ok (.iconst 0, 1) := by decide +kernel
theorem dX4_isAhead_66 : decode cX4_isAhead 66 = .ok (.ireturn, 1) := by decide +kernel
theorem dX4_isAhead_67 : decode cX4_isAhead 67 = .ok (.iload_n 1, 1) := by decide +kernel
theorem dX4_isAhead_68 : decode cX4_isAhead 68 = .ok (.iload_n 2, 1) := by decide +kernel
theorem dX4_isAhead_69 : decode cX4_isAhead 69 = .ok (.if_icmp .ge 7, 3) := by decide +kernel
theorem dX4_isAhead_72 : decode cX4_isAhead 72 = .ok (.iconst 1, 1) := by decide +kernel
theorem dX4_isAhead_73 : decode cX4_isAhead 73 = .ok (.goto 4, 3) := by decide +kernel
theorem dX4_isAhead_76 : decode cX4_isAhead 76 = .ok (.iconst 0, 1) := by decide +kernel
theorem dX4_isAhead_77 : decode cX4_isAhead 77 = .ok (.ireturn, 1) := by decide +kernel
theorem dX5_init_0 : decode cX5_init 0 = .ok (.aload_n 0, 1) := by decide +kernel
theorem dX5_init_1 : decode cX5_init 1 = .ok (.invokespecial 3, 3) := by decide +kernel
theorem dX5_init_4 : decode cX5_init 4 = .ok (.aload_n 0, 1) := by decide +kernel
theorem dX5_init_5 : decode cX5_init 5 = .ok (.new 9, 3) := by decide +kernel
theorem dX5_init_8 : decode cX5_init 8 = .ok (.dup, 1) := by decide +kernel
theorem dX5_init_9 : decode cX5_init 9 = .ok (.invokespecial 11, 3) := by decide +kernel
theorem dX5_init_12 : decode cX5_init 12 = .ok (.putfield 12, 3) := by decide +kernel
theorem dX5_init_15 : decode cX5_init 15 = .ok (.aload_n 0, 1) := by decide +kernel
theorem dX5_init_16 : decode cX5_init 16 = .ok (.iconst 0, 1) := by decide +kernel
theorem dX5_init_17 : decode cX5_init 17 = .ok (.putfield 18, 3) := by decide +kernel
theorem dX5_init_20 : decode cX5_init 20 = .ok (.aload_n 0, 1) := by decide +kernel
theorem dX5_init_21 : decode cX5_init 21 = .ok (.iconst 0, 1) := by decide +kernel
theorem dX5_init_22 : decode cX5_init 22 = .ok (.putfield 22, 3) := by decide +kernel
theorem dX5_init_25 : decode cX5_init 25 = .ok (.aload_n 0, 1) := by decide +kernel
theorem dX5_init_26 : decode cX5_init 26 = .ok (.iconst 0, 1) := by decide +kernel
theorem dX5_init_27 : decode cX5_init 27 = .ok (.putfield 25, 3) := by decide +kernel
theorem dX5_init_30 : decode cX5_init 30 = .ok (.aload_n 0, 1) := by decide +kernel
theorem dX5_init_31 : decode cX5_init 31 = .ok (.bipush 30, 2) := by decide +kernel
theorem dX5_init_33 : decode cX5_init 33 = .ok (.newarray .char, 2) := by decide +kernel
theorem dX5_init_35 : decode cX5_init 35 = .ok (.putfield 28, 3) := by decide +kernel
theorem dX5_init_38 : decode cX5_init 38 = .ok (.aload_n 0, 1) := by decide +kernel
theorem dX5_init_39 : decode cX5_init 39 = .ok (.bipush 120, 2) := by decide +kernel
theorem dX5_init_41 : decode cX5_init 41 = .ok (.newarray .int, 2) := by decide +kernel
theorem dX5_init_43 : decode cX5_init 43 = .ok (.putfield 32, 3) := by decide +kernel
theorem dX5_init_46 : decode cX5_init 46 = .ok (.return_, 1) := by decide +kernel
theorem dX5_letter_0 : decode cX5_letter 0 = .ok (.aload_n 0, 1) := by decide +kernel
theorem dX5_letter_1 : decode cX5_letter 1 = .ok (.getfield 28, 3) := by decide +kernel
theorem dX5_letter_4 : decode cX5_letter 4 = .ok (.iload_n 1, 1) := by decide +kernel
theorem dX5_letter_5 : decode cX5_letter 5 = .ok (.caload, 1) := by decide +kernel
theorem dX5_letter_6 : decode cX5_letter 6 = .ok (.ireturn, 1) := by decide +kernel
theorem dX5_number_0 : decode cX5_number 0 = .ok (.aload_n 0, 1) := by decide +kernel
theorem dX5_number_1 : decode cX5_number 1 = .ok (.getfield 32, 3) := by decide +kernel
theorem dX5_number_4 : decode cX5_number 4 = .ok (.iload_n 1, 1) := by decide +kernel
theorem dX5_number_5 : decode cX5_number 5 = .ok (.iconst 4, 1) := by decide +kernel
theorem dX5_number_6 : decode cX5_number 6 = .ok (.imul, 1) := by decide +kernel
theorem dX5_number_7 : decode cX5_number 7 = .ok (.iload_n 2, 1) := by decide +kernel
theorem dX5_number_8 : decode cX5_number 8 = .ok (.iadd, 1) := by decide +kernel
theorem dX5_number_9 : decode cX5_number 9 = .ok (.iaload, 1) := by decide +kernel
theorem dX5_number_10 : decode cX5_number 10 = .ok (.ireturn, 1) := by decide +kernel
theorem dX5_read_0 : decode cX5_read 0 = .ok (.aload_n 0, 1) := by decide +kernel
theorem dX5_read_1 : decode cX5_read 1 = .ok (.iconst 0, 1) := by decide +kernel
theorem dX5_read_2 : decode cX5_read 2 = .ok (.putfield 18, 3) := by decide +kernel
theorem dX5_read_5 : decode cX5_read 5 = .ok (.aload_n 0, 1) := by decide +kernel
theorem dX5_read_6 : decode cX5_read 6 = .ok (.iconst 0, 1) := by decide +kernel
theorem dX5_read_7 : decode cX5_read 7 = .ok (.putfield 22, 3) := by decide +kernel
theorem dX5_read_10 : decode cX5_read 10 = .ok (.aload_n 0, 1) := by decide +kernel
theorem dX5_read_11 : decode cX5_read 11 = .ok (.getfield 18, 3) := by decide +kernel
theorem dX5_read_14 : decode cX5_read 14 = .ok (.bipush 30, 2) := by decide +kernel
theorem dX5_read_16 : decode cX5_read 16 = .ok (.if_icmp .ge 49, 3) := by decide +kernel
theorem dX5_read_19 : decode cX5_read 19 = .ok (.aload_n 0, 1) := by decide +kernel
theorem dX5_read_20 : decode cX5_read 20 = .ok (.invokevirtual 36, 3) := by decide +kernel
theorem dX5_read_23 : decode cX5_read 23 = .ok (.ifCond .ne 5, 3) := by decide +kernel
theorem dX5_read_26 : decode cX5_read 26 = .ok (.iconst 0, 1) := by decide +kernel
theorem dX5_read_27 : decode cX5_read 27 = .ok (.ireturn, 1) := by decide +kernel
theorem dX5_read_28 : decode cX5_read 28 = .ok (.aload_n 0, 1) := by decide +kernel
theorem dX5_read_29 : decode cX5_read 29 = .ok (.dup, 1) := by decide +kernel
theorem dX5_read_30 : decode cX5_read 30 = .ok (.getfield 18, 3) := by decide +kernel
theorem dX5_read_33 : decode cX5_read 33 = .ok (.iconst 1, 1) := by decide +kernel
theorem dX5_read_34 : decode cX5_read 34 = .ok (.iadd, 1) := by decide +kernel
theorem dX5_read_35 : decode cX5_read 35 = .ok (.putfield 18, 3) := by decide +kernel
theorem dX5_read_38 : decode cX5_read 38 = .ok (.aload_n 0, 1) := by decide +kernel
theorem dX5_read_39 : decode cX5_read 39 = .ok (.getfield 22, 3) := by decide +kernel
theorem dX5_read_42 : decode cX5_read 42 = .ok (.aload_n 0, 1) := by decide +kernel
theorem dX5_read_43 : decode cX5_read 43 = .ok (.getfield 12, 3) := by decide +kernel
theorem dX5_read_46 : decode cX5_read 46 = .ok (.invokevirtual 40, 3) := by decide +kernel
theorem dX5_read_49 : decode cX5_read 49 = .ok (.if_icmp .ne 5, 3) := by decide +kernel
theorem dX5_read_52 : decode cX5_read 52 = .ok (.iconst 1, 1) := by decide +kernel
theorem dX5_read_53 : decode cX5_read 53 = .ok (.ireturn, 1) := by decide +kernel
theorem dX5_read_54 : decode cX5_read 54 = .ok (.aload_n 0, 1) := by decide +kernel
theorem dX5_read_55 : decode cX5_read 55 = .ok (.bipush 59, 2) := by decide +kernel
theorem dX5_read_57 : decode cX5_read 57 = .ok (.invokevirtual 44, 3) := by decide +kernel
theorem dX5_read_60 : decode cX5_read 60 = .ok (.ifCond .ne (-50), 3) := by decide +kernel
theorem dX5_read_63 : decode cX5_read 63 = .ok (.iconst 0, 1) := by decide +kernel
theorem dX5_read_64 : decode cX5_read 64 = .ok (.ireturn, 1) := by decide +kernel
theorem dX5_read_65 : decode cX5_read 65 = .ok (.iconst 0, 1) := by decide +kernel
theorem dX5_read_66 : decode cX5_read 66 = .ok (.ireturn, 1) := by decide +kernel
theorem dX5_readOrder_0 : decode cX5_readOrder 0 = .ok (.aload_n 0, 1) := by decide +kernel
theorem dX5_readOrder_1 : decode cX5_readOrder 1 = .ok (.getfield 22, 3) := by decide +kernel
theorem dX5_readOrder_4 : decode cX5_readOrder 4 = .ok (.aload_n 0, 1) := by decide +kernel
theorem dX5_readOrder_5 : decode cX5_readOrder 5 = .ok (.getfield 12, 3) := by decide +kernel
theorem dX5_readOrder_8 : decode cX5_readOrder 8 = .ok (.invokevirtual 40, 3) := by decide +kernel
theorem dX5_readOrder_11 : decode cX5_readOrder 11 = .ok (.if_icmp .lt 5, 3) := by decide +kernel
theorem dX5_readOrder_14 : decode cX5_readOrder 14 = .ok (.iconst 0, 1) := by decide +kernel
theorem dX5_readOrder_15 : decode cX5_readOrder 15 = .ok (.ireturn, 1) := by decide +kernel
theorem dX5_readOrder_16 : decode cX5_readOrder 16 = .ok (.aload_n 0, 1) := by decide +kernel
theorem dX5_readOrder_17 : decode cX5_readOrder 17 = .ok (.getfield 12, 3) := by decide +kernel
theorem dX5_readOrder_20 : decode cX5_readOrder 20 = .ok (.aload_n 0, 1) := by decide +kernel
theorem dX5_readOrder_21 : decode cX5_readOrder 21 = .ok (.getfield 22, 3) := by decide +kernel
theorem dX5_readOrder_24 : decode cX5_readOrder 24 = .ok (.invokevirtual 48, 3) := by decide +kernel
theorem dX5_readOrder_27 : decode cX5_readOrder 27 = .ok (.istore_n 1, 1) := by decide +kernel
theorem dX5_readOrder_28 : decode cX5_readOrder 28 = .ok (.iload_n 1, 1) := by decide +kernel
theorem dX5_readOrder_29 : decode cX5_readOrder 29 = .ok (.invokestatic 52, 3) := by decide +kernel
theorem dX5_readOrder_32 : decode cX5_readOrder 32 = .ok (.astore_n 2, 1) := by decide +kernel
theorem dX5_readOrder_33 : decode cX5_readOrder 33 = .ok (.aload_n 2, 1) := by decide +kernel
theorem dX5_readOrder_34 : decode cX5_readOrder 34 = .ok (.invokevirtual 56, 3) := by decide +kernel
theorem dX5_readOrder_37 : decode cX5_readOrder 37 = .ok (.ifCond .eq 5, 3) := by decide +kernel
theorem dX5_readOrder_40 : decode cX5_readOrder 40 = .ok (.iconst 0, 1) := by decide +kernel
theorem dX5_readOrder_41 : decode cX5_readOrder 41 = .ok (.ireturn, 1) := by decide +kernel
theorem dX5_readOrder_42 : decode cX5_readOrder 42 = .ok (.aload_n 0, 1) := by decide +kernel
theorem dX5_readOrder_43 : decode cX5_readOrder 43 = .ok (.getfield 28, 3) := by decide +kernel
theorem dX5_readOrder_46 : decode cX5_readOrder 46 = .ok (.aload_n 0, 1) := by decide +kernel
theorem dX5_readOrder_47 : decode cX5_readOrder 47 = .ok (.getfield 18, 3) := by decide +kernel
theorem dX5_readOrder_50 : decode cX5_readOrder 50 = .ok (.iload_n 1, 1) := by decide +kernel
theorem dX5_readOrder_51 : decode cX5_readOrder 51 = .ok (.castore, 1) := by decide +kernel
theorem dX5_readOrder_52 : decode cX5_readOrder 52 = .ok (.aload_n 0, 1) := by decide +kernel
theorem dX5_readOrder_53 : decode cX5_readOrder 53 = .ok (.iconst 0, 1) := by decide +kernel
theorem dX5_readOrder_54 : decode cX5_readOrder 54 = .ok (.putfield 25, 3) := by decide +kernel
theorem dX5_readOrder_57 : decode cX5_readOrder 57 = .ok (.iconst 0, 1) := by decide +kernel
theorem dX5_readOrder_58 : decode cX5_readOrder 58 = .ok (.istore_n 3, 1) := by decide +kernel
theorem dX5_readOrder_59 : decode cX5_readOrder 59 = .ok (.iload_n 3, 1) := by decide +kernel
theorem dX5_readOrder_60 : decode cX5_readOrder 60 = .ok (.aload_n 2, 1) := by decide +kernel
theorem dX5_readOrder_61 : decode cX5_readOrder 61 = .ok (.invokevirtual 61, 3) := by decide +kernel
theorem dX5_readOrder_64 : decode cX5_readOrder 64 = .ok (.if_icmp .ge 23, 3) := by decide +kernel
theorem dX5_readOrder_67 : decode cX5_readOrder 67 = .ok (.aload_n 0, 1) := by decide +kernel
theorem dX5_readOrder_68 : decode cX5_readOrder 68 = .ok (.aload_n 2, 1) := by decide +kernel
theorem dX5_readOrder_69 : decode cX5_readOrder 69 = .ok (.iload_n 3, 1) := by decide +kernel
theorem dX5_readOrder_70 : decode cX5_readOrder 70 = .ok (.invokevirtual 62, 3) := by decide +kernel
theorem dX5_readOrder_73 : decode cX5_readOrder 73 = .ok (.invokevirtual 63, 3) := by decide +kernel
theorem dX5_readOrder_76 : decode cX5_readOrder 76 = .ok (.ifCond .ne 5, 3) := by decide +kernel
theorem dX5_readOrder_79 : decode cX5_readOrder 79 = .ok (.iconst 0, 1) := by decide +kernel
theorem dX5_readOrder_80 : decode cX5_readOrder 80 = .ok (.ireturn, 1) := by decide +kernel
theorem dX5_readOrder_81 : decode cX5_readOrder 81 = .ok (.iinc 3 1, 3) := by decide +kernel
theorem dX5_readOrder_84 : decode cX5_readOrder 84 = .ok (.goto (-25), 3) := by decide +kernel
theorem dX5_readOrder_87 : decode cX5_readOrder 87 = .ok (.iconst 1, 1) := by decide +kernel
theorem dX5_readOrder_88 : decode cX5_readOrder 88 = .ok (.ireturn, 1) := by decide +kernel
theorem dX5_shapeOf_0 : decode cX5_shapeOf 0 = .ok (.iload_n 0, 1) := by decide +kernel
theorem dX5_shapeOf_1 : decode cX5_shapeOf 1 = .ok (.tableswitch 138 97 120 #[129, 120, 138, 138, 138, 111, 138, 138, 126, 114, 138, 138, 138, 123, 138, 117, 138, 138, 138, 138, 138, 138, 135, 132], 111) := by decide +kernel
theorem dX5_shapeOf_112 : decode cX5_shapeOf 112 = .ok (.ldc 66, 2) := by decide +kernel
theorem dX5_shapeOf_114 : decode cX5_shapeOf 114 = .ok (.areturn, 1) := by decide +kernel
theorem dX5_shapeOf_115 : decode cX5_shapeOf 115 = .ok (.ldc 68, 2) := by decide +kernel
theorem dX5_shapeOf_117 : decode cX5_shapeOf 117 = .ok (.areturn, 1) := by decide +kernel
theorem dX5_shapeOf_118 : decode cX5_shapeOf 118 = .ok (.ldc 70, 2) := by decide +kernel
theorem dX5_shapeOf_120 : decode cX5_shapeOf 120 = .ok (.areturn, 1) := by decide +kernel
theorem dX5_shapeOf_121 : decode cX5_shapeOf 121 = .ok (.ldc 72, 2) := by decide +kernel
theorem dX5_shapeOf_123 : decode cX5_shapeOf 123 = .ok (.areturn, 1) := by decide +kernel
theorem dX5_shapeOf_124 : decode cX5_shapeOf 124 = .ok (.ldc 74, 2) := by decide +kernel
theorem dX5_shapeOf_126 : decode cX5_shapeOf 126 = .ok (.areturn, 1) := by decide +kernel
theorem dX5_shapeOf_127 : decode cX5_shapeOf 127 = .ok (.ldc 76, 2) := by decide +kernel
theorem dX5_shapeOf_129 : decode cX5_shapeOf 129 = .ok (.areturn, 1) := by decide +kernel
theorem dX5_shapeOf_130 : decode cX5_shapeOf 130 = .ok (.ldc 78, 2) := by decide +kernel
theorem dX5_shapeOf_132 : decode cX5_shapeOf 132 = .ok (.areturn, 1) := by decide +kernel
theorem dX5_shapeOf_133 : decode cX5_shapeOf 133 = .ok (.ldc 80, 2) := by decide +kernel
theorem dX5_shapeOf_135 : decode cX5_shapeOf 135 = .ok (.areturn, 1) := by decide +kernel
theorem dX5_shapeOf_136 : decode cX5_shapeOf 136 = .ok (.ldc 82, 2) := by decide +kernel
theorem dX5_shapeOf_138 : decode cX5_shapeOf 138 = .ok (.areturn, 1) := by decide +kernel
theorem dX5_shapeOf_139 : decode cX5_shapeOf 139 = .ok (.ldc 84, 2) := by decide +kernel
theorem dX5_shapeOf_141 : decode cX5_shapeOf 141 = .ok (.areturn, 1) := by decide +kernel
theorem dX5_readPart_0 : decode cX5_readPart 0 = .ok (.iload_n 1, 1) := by decide +kernel
theorem dX5_readPart_1 : decode cX5_readPart 1 = .ok (.lookupswitch 52 #[(49, 35), (50, 41), (63, 47)], 35) := by decide +kernel
theorem dX5_readPart_36 : decode cX5_readPart 36 = .ok (.aload_n 0, 1) := by decide +kernel
theorem dX5_readPart_37 : decode cX5_readPart 37 = .ok (.iconst 1, 1) := by decide +kernel
theorem dX5_readPart_38 : decode cX5_readPart 38 = .ok (.invokevirtual 86, 3) := by decide +kernel
theorem dX5_readPart_41 : decode cX5_readPart 41 = .ok (.ireturn, 1) := by decide +kernel
theorem dX5_readPart_42 : decode cX5_readPart 42 = .ok (.aload_n 0, 1) := by decide +kernel
theorem dX5_readPart_43 : decode cX5_readPart 43 = .ok (.iconst 2, 1) := by decide +kernel
theorem dX5_readPart_44 : decode cX5_readPart 44 = .ok (.invokevirtual 86, 3) := by decide +kernel
theorem dX5_readPart_47 : decode cX5_readPart 47 = .ok (.ireturn, 1) := by decide +kernel
theorem dX5_readPart_48 : decode cX5_readPart 48 = .ok (.aload_n 0, 1) := by decide +kernel
theorem dX5_readPart_49 : decode cX5_readPart 49 = .ok (.invokevirtual 90, 3) := by decide +kernel
theorem dX5_readPart_52 : decode cX5_readPart 52 = .ok (.ireturn, 1) := by decide +kernel
theorem dX5_readPart_53 : decode cX5_readPart 53 = .ok (.aload_n 0, 1) := by decide +kernel
theorem dX5_readPart_54 : decode cX5_readPart 54 = .ok (.iload_n 1, 1) := by decide +kernel
theorem dX5_readPart_55 : decode cX5_readPart 55 = .ok (.invokevirtual 44, 3) := by decide +kernel
theorem dX5_readPart_58 : decode cX5_readPart 58 = .ok (.ireturn, 1) := by decide +kernel
theorem dX5_readNumber_0 : decode cX5_readNumber 0 = .ok (.iconst 0, 1) := by decide +kernel
theorem dX5_readNumber_1 : decode cX5_readNumber 1 = .ok (.istore_n 2, 1) := by decide +kernel
theorem dX5_readNumber_2 : decode cX5_readNumber 2 = .ok (.iconst 0, 1) := by decide +kernel
theorem dX5_readNumber_3 : decode cX5_readNumber 3 = .ok (.istore_n 3, 1) := by decide +kernel
theorem dX5_readNumber_4 : decode cX5_readNumber 4 = .ok (.iload_n 3, 1) := by decide +kernel
theorem dX5_readNumber_5 : decode cX5_readNumber 5 = .ok (.iload_n 1, 1) := by decide +kernel
theorem dX5_readNumber_6 : decode cX5_readNumber 6 = .ok (.if_icmp .ge 46, 3) := by decide +kernel
theorem dX5_readNumber_9 : decode cX5_readNumber 9 = .ok (.aload_n 0, 1) := by decide +kernel
theorem dX5_readNumber_10 : decode cX5_readNumber 10 = .ok (.invokevirtual 93, 3) := by decide +kernel
theorem dX5_readNumber_13 : decode cX5_readNumber 13 = .ok (.ifCond .eq 39, 3) := by decide +kernel
theorem dX5_readNumber_16 : decode cX5_readNumber 16 = .ok (.bipush 10, 2) := by decide +kernel
theorem dX5_readNumber_18 : decode cX5_readNumber 18 = .ok (.iload_n 2, 1) := by decide +kernel
theorem dX5_readNumber_19 : decode cX5_readNumber 19 = .ok (.imul, 1) := by decide +kernel
theorem dX5_readNumber_20 : decode cX5_readNumber 20 = .ok (.aload_n 0, 1) := by decide +kernel
theorem dX5_readNumber_21 : decode cX5_readNumber 21 = .ok (.getfield 12, 3) := by decide +kernel
theorem dX5_readNumber_24 : decode cX5_readNumber 24 = .ok (.aload_n 0, 1) := by decide +kernel
theorem dX5_readNumber_25 : decode cX5_readNumber 25 = .ok (.getfield 22, 3) := by decide +kernel
theorem dX5_readNumber_28 : decode cX5_readNumber 28 = .ok (.invokevirtual 48, 3) := by decide +kernel
theorem dX5_readNumber_31 : decode cX5_readNumber 31 = .ok (.bipush 48, 2) := by decide +kernel
theorem dX5_readNumber_33 : decode cX5_readNumber 33 = .ok (.isub, 1) := by decide +kernel
theorem dX5_readNumber_34 : decode cX5_readNumber 34 = .ok (.iadd, 1) := by decide +kernel
theorem dX5_readNumber_35 : decode cX5_readNumber 35 = .ok (.istore_n 2, 1) := by decide +kernel
theorem dX5_readNumber_36 : decode cX5_readNumber 36 = .ok (.aload_n 0, 1) := by decide +kernel
theorem dX5_readNumber_37 : decode cX5_readNumber 37 = .ok (.dup, 1) := by decide +kernel
theorem dX5_readNumber_38 : decode cX5_readNumber 38 = .ok (.getfield 22, 3) := by decide +kernel
theorem dX5_readNumber_41 : decode cX5_readNumber 41 = .ok (.iconst 1, 1) := by decide +kernel
theorem dX5_readNumber_42 : decode cX5_readNumber 42 = .ok (.iadd, 1) := by decide +kernel
theorem dX5_readNumber_43 : decode cX5_readNumber 43 = .ok (.putfield 22, 3) := by decide +kernel
theorem dX5_readNumber_46 : decode cX5_readNumber 46 = .ok (.iinc 3 1, 3) := by decide +kernel
theorem dX5_readNumber_49 : decode cX5_readNumber 49 = .ok (.goto (-45), 3) := by decide +kernel
theorem dX5_readNumber_52 : decode cX5_readNumber 52 = .ok (.aload_n 0, 1) := by decide +kernel
theorem dX5_readNumber_53 : decode cX5_readNumber 53 = .ok (.iload_n 2, 1) := by decide +kernel
theorem dX5_readNumber_54 : decode cX5_readNumber 54 = .ok (.invokevirtual 96, 3) := by decide +kernel
theorem dX5_readNumber_57 : decode cX5_readNumber 57 = .ok (.iload_n 3, 1) := by decide +kernel
theorem dX5_readNumber_58 : decode cX5_readNumber 58 = .ok (.ifCond .le 7, 3) := by decide +kernel
theorem dX5_readNumber_61 : decode cX5_readNumber 61 = .ok (.iconst 1, 1) := by decide +kernel
theorem dX5_readNumber_62 : decode cX5_readNumber 62 = .ok (.goto 4, 3) := by decide +kernel
theorem dX5_readNumber_65 : decode cX5_readNumber 65 = .ok (.iconst 0, 1) := by decide +kernel
theorem dX5_readNumber_66 : decode cX5_readNumber 66 = .ok (.ireturn, 1) := by decide +kernel
theorem dX5_isDigitAhead_0 : decode cX5_isDigitAhead 0 = .ok (.aload_n 0, 1) := by decide +kernel
theorem dX5_isDigitAhead_1 : decode cX5_isDigitAhead 1 = .ok (.getfield 22, 3) := by decide +kernel
theorem dX5_isDigitAhead_4 : decode cX5_isDigitAhead 4 = .ok (.aload_n 0, 1) := by decide +kernel
theorem dX5_isDigitAhead_5 : decode cX5_isDigitAhead 5 = .ok (.getfield 12, 3) := by decide +kernel
theorem dX5_isDigitAhead_8 : decode cX5_isDigitAhead 8 = .ok (.invokevirtual 40, 3) := by decide +kernel
theorem dX5_isDigitAhead_11 : decode cX5_isDigitAhead 11 = .ok (.if_icmp .ge 39, 3) := by decide +kernel
theorem dX5_isDigitAhead_14 : decode cX5_isDigitAhead 14 = .ok (.aload_n 0, 1) := by decide +kernel
theorem dX5_isDigitAhead_15 : decode cX5_isDigitAhead 15 = .ok (.getfield 12, 3) := by decide +kernel
theorem dX5_isDigitAhead_18 : decode cX5_isDigitAhead 18 = .ok (.aload_n 0, 1) := by decide +kernel
theorem dX5_isDigitAhead_19 : decode cX5_isDigitAhead 19 = .ok (.getfield 22, 3) := by decide +kernel
theorem dX5_isDigitAhead_22 : decode cX5_isDigitAhead 22 = .ok (.invokevirtual 48, 3) := by decide +kernel
theorem dX5_isDigitAhead_25 : decode cX5_isDigitAhead 25 = .ok (.bipush 48, 2) := by decide +kernel
theorem dX5_isDigitAhead_27 : decode cX5_isDigitAhead 27 = .ok (.if_icmp .lt 23, 3) := by decide +kernel
theorem dX5_isDigitAhead_30 : decode cX5_isDigitAhead 30 = .ok (.aload_n 0, 1) := by decide +kernel
theorem dX5_isDigitAhead_31 : decode cX5_isDigitAhead 31 = .ok (.getfield 12, 3) := by decide +kernel
theorem dX5_isDigitAhead_34 : decode cX5_isDigitAhead 34 = .ok (.aload_n 0, 1) := by decide +kernel
theorem dX5_isDigitAhead_35 : decode cX5_isDigitAhead 35 = .ok (.getfield 22, 3) := by decide +kernel
theorem dX5_isDigitAhead_38 : decode cX5_isDigitAhead 38 = .ok (.invokevirtual 48, 3) := by decide +kernel
theorem dX5_isDigitAhead_41 : decode cX5_isDigitAhead 41 = .ok (.bipush 57, 2) := by decide +kernel
theorem dX5_isDigitAhead_43 : decode cX5_isDigitAhead 43 = .ok (.if_icmp .gt 7, 3) := by decide +kernel
theorem dX5_isDigitAhead_46 : decode cX5_isDigitAhead 46 = .ok (.iconst 1, 1) := by decide +kernel
theorem dX5_isDigitAhead_47 : decode cX5_isDigitAhead 47 = .ok (.goto 4, 3) := by decide +kernel
theorem dX5_isDigitAhead_50 : decode cX5_isDigitAhead 50 = .ok (.iconst 0, 1) := by decide +kernel
theorem dX5_isDigitAhead_51 : decode cX5_isDigitAhead 51 = .ok (.ireturn, 1) := by decide +kernel
theorem dX5_readPlusOrMinus_0 : decode cX5_readPlusOrMinus 0 = .ok (.aload_n 0, 1) := by decide +kernel
theorem dX5_readPlusOrMinus_1 : decode cX5_readPlusOrMinus 1 = .ok (.bipush 43, 2) := by decide +kernel
theorem dX5_readPlusOrMinus_3 : decode cX5_readPlusOrMinus 3 = .ok (.invokevirtual 44, 3) := by decide +kernel
theorem dX5_readPlusOrMinus_6 : decode cX5_readPlusOrMinus 6 = .ok (.ifCond .eq 10, 3) := by decide +kernel
theorem dX5_readPlusOrMinus_9 : decode cX5_readPlusOrMinus 9 = .ok (.aload_n 0, 1) := by decide +kernel
theorem dX5_readPlusOrMinus_10 : decode cX5_readPlusOrMinus 10 = .ok (.iconst 1, 1) := by decide +kernel
theorem dX5_readPlusOrMinus_11 : decode cX5_readPlusOrMinus 11 = .ok (.invokevirtual 96, 3) := by decide +kernel
theorem dX5_readPlusOrMinus_14 : decode cX5_readPlusOrMinus 14 = .ok (.iconst 1, 1) := by decide +kernel
theorem dX5_readPlusOrMinus_15 : decode cX5_readPlusOrMinus 15 = .ok (.ireturn, 1) := by decide +kernel
theorem dX5_readPlusOrMinus_16 : decode cX5_readPlusOrMinus 16 = .ok (.aload_n 0, 1) := by decide +kernel
theorem dX5_readPlusOrMinus_17 : decode cX5_readPlusOrMinus 17 = .ok (.iconst 0, 1) := by decide +kernel
theorem dX5_readPlusOrMinus_18 : decode cX5_readPlusOrMinus 18 = .ok (.invokevirtual 96, 3) := by decide +kernel
theorem dX5_readPlusOrMinus_21 : decode cX5_readPlusOrMinus 21 = .ok (.aload_n 0, 1) := by decide +kernel
theorem dX5_readPlusOrMinus_22 : decode cX5_readPlusOrMinus 22 = .ok (.bipush 45, 2) := by decide +kernel
theorem dX5_readPlusOrMinus_24 : decode cX5_readPlusOrMinus 24 = .ok (.invokevirtual 44, 3) := by decide +kernel
theorem dX5_readPlusOrMinus_27 : decode cX5_readPlusOrMinus 27 = .ok (.ireturn, 1) := by decide +kernel
theorem dX5_readSign_0 : decode cX5_readSign 0 = .ok (.aload_n 0, 1) := by decide +kernel
theorem dX5_readSign_1 : decode cX5_readSign 1 = .ok (.getfield 22, 3) := by decide +kernel
theorem dX5_readSign_4 : decode cX5_readSign 4 = .ok (.aload_n 0, 1) := by decide +kernel
theorem dX5_readSign_5 : decode cX5_readSign 5 = .ok (.getfield 12, 3) := by decide +kernel
theorem dX5_readSign_8 : decode cX5_readSign 8 = .ok (.invokevirtual 40, 3) := by decide +kernel
theorem dX5_readSign_11 : decode cX5_readSign 11 = .ok (.if_icmp .ge 18, 3) := by decide +kernel
theorem dX5_readSign_14 : decode cX5_readSign 14 = .ok (.aload_n 0, 1) := by decide +kernel
theorem dX5_readSign_15 : decode cX5_readSign 15 = .ok (.getfield 12, 3) := by decide +kernel
theorem dX5_readSign_18 : decode cX5_readSign 18 = .ok (.aload_n 0, 1) := by decide +kernel
theorem dX5_readSign_19 : decode cX5_readSign 19 = .ok (.getfield 22, 3) := by decide +kernel
theorem dX5_readSign_22 : decode cX5_readSign 22 = .ok (.invokevirtual 48, 3) := by decide +kernel
theorem dX5_readSign_25 : decode cX5_readSign 25 = .ok (.iload_n 1, 1) := by decide +kernel
theorem dX5_readSign_26 : decode cX5_readSign 26 = .ok (.if_icmp .eq 5, 3) := by decide +kernel
theorem dX5_readSign_29 : decode cX5_readSign 29 = .ok (.iconst 0, 1) := by decide +kernel
theorem dX5_readSign_30 : decode cX5_readSign 30 = .ok (.ireturn, 1) := by decide +kernel
theorem dX5_readSign_31 : decode cX5_readSign 31 = .ok (.aload_n 0, 1) := by decide +kernel
theorem dX5_readSign_32 : decode cX5_readSign 32 = .ok (.dup, 1) := by decide +kernel
theorem dX5_readSign_33 : decode cX5_readSign 33 = .ok (.getfield 22, 3) := by decide +kernel
theorem dX5_readSign_36 : decode cX5_readSign 36 = .ok (.iconst 1, 1) := by decide +kernel
theorem dX5_readSign_37 : decode cX5_readSign 37 = .ok (.iadd, 1) := by decide +kernel
theorem dX5_readSign_38 : decode cX5_readSign 38 = .ok (.putfield 22, 3) := by decide +kernel
theorem dX5_readSign_41 : decode cX5_readSign 41 = .ok (.iconst 1, 1) := by decide +kernel
theorem dX5_readSign_42 : decode cX5_readSign 42 = .ok (.ireturn, 1) := by decide +kernel
theorem dX5_keepNumber_0 : decode cX5_keepNumber 0 = .ok (.aload_n 0, 1) := by decide +kernel
theorem dX5_keepNumber_1 : decode cX5_keepNumber 1 = .ok (.getfield 25, 3) := by decide +kernel
theorem dX5_keepNumber_4 : decode cX5_keepNumber 4 = .ok (.iconst 4, 1) := by decide +kernel
theorem dX5_keepNumber_5 : decode cX5_keepNumber 5 = .ok (.if_icmp .ge 30, 3) := by decide +kernel
theorem dX5_keepNumber_8 : decode cX5_keepNumber 8 = .ok (.aload_n 0, 1) := by decide +kernel
theorem dX5_keepNumber_9 : decode cX5_keepNumber 9 = .ok (.getfield 32, 3) := by decide +kernel
theorem dX5_keepNumber_12 : decode cX5_keepNumber 12 = .ok (.aload_n 0, 1) := by decide +kernel
theorem dX5_keepNumber_13 : decode cX5_keepNumber 13 = .ok (.getfield 18, 3) := by decide +kernel
theorem dX5_keepNumber_16 : decode cX5_keepNumber 16 = .ok (.iconst 4, 1) := by decide +kernel
theorem dX5_keepNumber_17 : decode cX5_keepNumber 17 = .ok (.imul, 1) := by decide +kernel
theorem dX5_keepNumber_18 : decode cX5_keepNumber 18 = .ok (.aload_n 0, 1) := by decide +kernel
theorem dX5_keepNumber_19 : decode cX5_keepNumber 19 = .ok (.getfield 25, 3) := by decide +kernel
theorem dX5_keepNumber_22 : decode cX5_keepNumber 22 = .ok (.iadd, 1) := by decide +kernel
theorem dX5_keepNumber_23 : decode cX5_keepNumber 23 = .ok (.iload_n 1, 1) := by decide +kernel
theorem dX5_keepNumber_24 : decode cX5_keepNumber 24 = .ok (.iastore, 1) := by decide +kernel
theorem dX5_keepNumber_25 : decode cX5_keepNumber 25 = .ok (.aload_n 0, 1) := by decide +kernel
theorem dX5_keepNumber_26 : decode cX5_keepNumber 26 = .ok (.dup, 1) := by decide +kernel
theorem dX5_keepNumber_27 : decode cX5_keepNumber 27 = .ok (.getfield 25, 3) := by decide +kernel
theorem dX5_keepNumber_30 : decode cX5_keepNumber 30 = .ok (.iconst 1, 1) := by decide +kernel
theorem dX5_keepNumber_31 : decode cX5_keepNumber 31 = .ok (.iadd, 1) := by decide +kernel
theorem dX5_keepNumber_32 : decode cX5_keepNumber 32 = .ok (.putfield 25, 3) := by decide +kernel
theorem dX5_keepNumber_35 : decode cX5_keepNumber 35 = .ok (.return_, 1) := by decide +kernel
