theorem dX4_init_0 : decode cX4_init 0 = .ok (.aload_n 0, 1) := by decide +kernel
theorem dX4_init_1 : decode cX4_init 1 = .ok (.invokespecial 1, 3) := by decide +kernel
theorem dX4_init_4 : decode cX4_init 4 = .ok (.aload_n 0, 1) := by decide +kernel
theorem dX4_init_5 : decode cX4_init 5 = .ok (.new 7, 3) := by decide +kernel
theorem dX4_init_8 : decode cX4_init 8 = .ok (.dup, 1) := by decide +kernel
theorem dX4_init_9 : decode cX4_init 9 = .ok (.invokespecial 9, 3) := by decide +kernel
theorem dX4_init_12 : decode cX4_init 12 = .ok (.putfield 10, 3) := by decide +kernel
theorem dX4_init_15 : decode cX4_init 15 = .ok (.aload_n 0, 1) := by decide +kernel
theorem dX4_init_16 : decode cX4_init 16 = .ok (.new 16, 3) := by decide +kernel
theorem dX4_init_19 : decode cX4_init 19 = .ok (.dup, 1) := by decide +kernel
theorem dX4_init_20 : decode cX4_init 20 = .ok (.invokespecial 18, 3) := by decide +kernel
theorem dX4_init_23 : decode cX4_init 23 = .ok (.putfield 19, 3) := by decide +kernel
theorem dX4_init_26 : decode cX4_init 26 = .ok (.aload_n 0, 1) := by decide +kernel
theorem dX4_init_27 : decode cX4_init 27 = .ok (.iconst 2, 1) := by decide +kernel
theorem dX4_init_28 : decode cX4_init 28 = .ok (.anewarray 7, 3) := by decide +kernel
theorem dX4_init_31 : decode cX4_init 31 = .ok (.putfield 23, 3) := by decide +kernel
theorem dX4_init_34 : decode cX4_init 34 = .ok (.iconst 0, 1) := by decide +kernel
theorem dX4_init_35 : decode cX4_init 35 = .ok (.istore_n 1, 1) := by decide +kernel
theorem dX4_init_36 : decode cX4_init 36 = .ok (.iload_n 1, 1) := by decide +kernel
theorem dX4_init_37 : decode cX4_init 37 = .ok (.iconst 2, 1) := by decide +kernel
theorem dX4_init_38 : decode cX4_init 38 = .ok (.if_icmp .ge 22, 3) := by decide +kernel
theorem dX4_init_41 : decode cX4_init 41 = .ok (.aload_n 0, 1) := by decide +kernel
theorem dX4_init_42 : decode cX4_init 42 = .ok (.getfield 23, 3) := by decide +kernel
theorem dX4_init_45 : decode cX4_init 45 = .ok (.iload_n 1, 1) := by decide +kernel
theorem dX4_init_46 : decode cX4_init 46 = .ok (.new 7, 3) := by decide +kernel
theorem dX4_init_49 : decode cX4_init 49 = .ok (.dup, 1) := by decide +kernel
theorem dX4_init_50 : decode cX4_init 50 = .ok (.invokespecial 9, 3) := by decide +kernel
theorem dX4_init_53 : decode cX4_init 53 = .ok (.aastore, 1) := by decide +kernel
theorem dX4_init_54 : decode cX4_init 54 = .ok (.iinc 1 1, 3) := by decide +kernel
theorem dX4_init_57 : decode cX4_init 57 = .ok (.goto (-21), 3) := by decide +kernel
theorem dX4_init_60 : decode cX4_init 60 = .ok (.aload_n 0, 1) := by decide +kernel
theorem dX4_init_61 : decode cX4_init 61 = .ok (.iconst 2, 1) := by decide +kernel
theorem dX4_init_62 : decode cX4_init 62 = .ok (.newarray .boolean, 2) := by decide +kernel
theorem dX4_init_64 : decode cX4_init 64 = .ok (.putfield 27, 3) := by decide +kernel
theorem dX4_init_67 : decode cX4_init 67 = .ok (.aload_n 0, 1) := by decide +kernel
theorem dX4_init_68 : decode cX4_init 68 = .ok (.new 31, 3) := by decide +kernel
theorem dX4_init_71 : decode cX4_init 71 = .ok (.dup, 1) := by decide +kernel
theorem dX4_init_72 : decode cX4_init 72 = .ok (.invokespecial 33, 3) := by decide +kernel
theorem dX4_init_75 : decode cX4_init 75 = .ok (.putfield 34, 3) := by decide +kernel
theorem dX4_init_78 : decode cX4_init 78 = .ok (.aload_n 0, 1) := by decide +kernel
theorem dX4_init_79 : decode cX4_init 79 = .ok (.new 38, 3) := by decide +kernel
theorem dX4_init_82 : decode cX4_init 82 = .ok (.dup, 1) := by decide +kernel
theorem dX4_init_83 : decode cX4_init 83 = .ok (.invokespecial 40, 3) := by decide +kernel
theorem dX4_init_86 : decode cX4_init 86 = .ok (.putfield 41, 3) := by decide +kernel
theorem dX4_init_89 : decode cX4_init 89 = .ok (.return_, 1) := by decide +kernel
theorem dX4_set_0 : decode cX4_set 0 = .ok (.iload_n 1, 1) := by decide +kernel
theorem dX4_set_1 : decode cX4_set 1 = .ok (.ifCond .lt 8, 3) := by decide +kernel
theorem dX4_set_4 : decode cX4_set 4 = .ok (.iload_n 1, 1) := by decide +kernel
theorem dX4_set_5 : decode cX4_set 5 = .ok (.iconst 2, 1) := by decide +kernel
theorem dX4_set_6 : decode cX4_set 6 = .ok (.if_icmp .lt 6, 3) := by decide +kernel
theorem dX4_set_9 : decode cX4_set 9 = .ok (.bipush (-2), 2) := by decide +kernel
theorem dX4_set_11 : decode cX4_set 11 = .ok (.ireturn, 1) := by decide +kernel
theorem dX4_set_12 : decode cX4_set 12 = .ok (.iload_n 1, 1) := by decide +kernel
theorem dX4_set_13 : decode cX4_set 13 = .ok (.iconst 1, 1) := by decide +kernel
theorem dX4_set_14 : decode cX4_set 14 = .ok (.if_icmp .ne 7, 3) := by decide +kernel
theorem dX4_set_17 : decode cX4_set 17 = .ok (.iconst 1, 1) := by decide +kernel
theorem dX4_set_18 : decode cX4_set 18 = .ok (.goto 4, 3) := by decide +kernel
theorem dX4_set_21 : decode cX4_set 21 = .ok (.iconst 0, 1) := by decide +kernel
theorem dX4_set_22 : decode cX4_set 22 = .ok (.istore_n 3, 1) := by decide +kernel
theorem dX4_set_23 : decode cX4_set 23 = .ok (.iload_n 2, 1) := by decide +kernel
theorem dX4_set_24 : decode cX4_set 24 = .ok (.iload_n 3, 1) := by decide +kernel
theorem dX4_set_25 : decode cX4_set 25 = .ok (.if_icmp .lt 9, 3) := by decide +kernel
theorem dX4_set_28 : decode cX4_set 28 = .ok (.iload_n 2, 1) := by decide +kernel
theorem dX4_set_29 : decode cX4_set 29 = .ok (.bipush 99, 2) := by decide +kernel
theorem dX4_set_31 : decode cX4_set 31 = .ok (.if_icmp .le 6, 3) := by decide +kernel
theorem dX4_set_34 : decode cX4_set 34 = .ok (.bipush (-2), 2) := by decide +kernel
theorem dX4_set_36 : decode cX4_set 36 = .ok (.ireturn, 1) := by decide +kernel
theorem dX4_set_37 : decode cX4_set 37 = .ok (.aload_n 0, 1) := by decide +kernel
theorem dX4_set_38 : decode cX4_set 38 = .ok (.getfield 19, 3) := by decide +kernel
theorem dX4_set_41 : decode cX4_set 41 = .ok (.aload_n 0, 1) := by decide +kernel
theorem dX4_set_42 : decode cX4_set 42 = .ok (.getfield 10, 3) := by decide +kernel
theorem dX4_set_45 : decode cX4_set 45 = .ok (.invokevirtual 45, 3) := by decide +kernel
theorem dX4_set_48 : decode cX4_set 48 = .ok (.aload_n 0, 1) := by decide +kernel
theorem dX4_set_49 : decode cX4_set 49 = .ok (.getfield 10, 3) := by decide +kernel
theorem dX4_set_52 : decode cX4_set 52 = .ok (.getfield 49, 3) := by decide +kernel
theorem dX4_set_55 : decode cX4_set 55 = .ok (.iload_n 1, 1) := by decide +kernel
theorem dX4_set_56 : decode cX4_set 56 = .ok (.iaload, 1) := by decide +kernel
theorem dX4_set_57 : decode cX4_set 57 = .ok (.istore 4, 2) := by decide +kernel
theorem dX4_set_59 : decode cX4_set 59 = .ok (.aload_n 0, 1) := by decide +kernel
theorem dX4_set_60 : decode cX4_set 60 = .ok (.getfield 10, 3) := by decide +kernel
theorem dX4_set_63 : decode cX4_set 63 = .ok (.getfield 49, 3) := by decide +kernel
theorem dX4_set_66 : decode cX4_set 66 = .ok (.iload_n 1, 1) := by decide +kernel
theorem dX4_set_67 : decode cX4_set 67 = .ok (.iload_n 2, 1) := by decide +kernel
theorem dX4_set_68 : decode cX4_set 68 = .ok (.iastore, 1) := by decide +kernel
theorem dX4_set_69 : decode cX4_set 69 = .ok (.aload_n 0, 1) := by decide +kernel
theorem dX4_set_70 : decode cX4_set 70 = .ok (.iload 4, 2) := by decide +kernel
theorem dX4_set_72 : decode cX4_set 72 = .ok (.invokevirtual 53, 3) := by decide +kernel
theorem dX4_set_75 : decode cX4_set 75 = .ok (.ireturn, 1) := by decide +kernel
theorem dX4_troop_0 : decode cX4_troop 0 = .ok (.aload_n 0, 1) := by decide +kernel
theorem dX4_troop_1 : decode cX4_troop 1 = .ok (.getfield 19, 3) := by decide +kernel
theorem dX4_troop_4 : decode cX4_troop 4 = .ok (.aload_n 0, 1) := by decide +kernel
theorem dX4_troop_5 : decode cX4_troop 5 = .ok (.getfield 10, 3) := by decide +kernel
theorem dX4_troop_8 : decode cX4_troop 8 = .ok (.invokevirtual 45, 3) := by decide +kernel
theorem dX4_troop_11 : decode cX4_troop 11 = .ok (.aload_n 0, 1) := by decide +kernel
theorem dX4_troop_12 : decode cX4_troop 12 = .ok (.aload_n 0, 1) := by decide +kernel
theorem dX4_troop_13 : decode cX4_troop 13 = .ok (.iload_n 1, 1) := by decide +kernel
theorem dX4_troop_14 : decode cX4_troop 14 = .ok (.invokevirtual 57, 3) := by decide +kernel
theorem dX4_troop_17 : decode cX4_troop 17 = .ok (.invokevirtual 53, 3) := by decide +kernel
theorem dX4_troop_20 : decode cX4_troop 20 = .ok (.ireturn, 1) := by decide +kernel
theorem dX4_resize_0 : decode cX4_resize 0 = .ok (.aload_n 0, 1) := by decide +kernel
theorem dX4_resize_1 : decode cX4_resize 1 = .ok (.getfield 19, 3) := by decide +kernel
theorem dX4_resize_4 : decode cX4_resize 4 = .ok (.aload_n 0, 1) := by decide +kernel
theorem dX4_resize_5 : decode cX4_resize 5 = .ok (.getfield 10, 3) := by decide +kernel
theorem dX4_resize_8 : decode cX4_resize 8 = .ok (.invokevirtual 45, 3) := by decide +kernel
theorem dX4_resize_11 : decode cX4_resize 11 = .ok (.aload_n 0, 1) := by decide +kernel
theorem dX4_resize_12 : decode cX4_resize 12 = .ok (.aload_n 0, 1) := by decide +kernel
theorem dX4_resize_13 : decode cX4_resize 13 = .ok (.iload_n 1, 1) := by decide +kernel
theorem dX4_resize_14 : decode cX4_resize 14 = .ok (.iload_n 2, 1) := by decide +kernel
theorem dX4_resize_15 : decode cX4_resize 15 = .ok (.invokevirtual 60, 3) := by decide +kernel
theorem dX4_resize_18 : decode cX4_resize 18 = .ok (.invokevirtual 53, 3) := by decide +kernel
theorem dX4_resize_21 : decode cX4_resize 21 = .ok (.ireturn, 1) := by decide +kernel
theorem dX4_come_0 : decode cX4_come 0 = .ok (.aload_n 0, 1) := by decide +kernel
theorem dX4_come_1 : decode cX4_come 1 = .ok (.getfield 19, 3) := by decide +kernel
theorem dX4_come_4 : decode cX4_come 4 = .ok (.aload_n 0, 1) := by decide +kernel
theorem dX4_come_5 : decode cX4_come 5 = .ok (.getfield 10, 3) := by decide +kernel
theorem dX4_come_8 : decode cX4_come 8 = .ok (.invokevirtual 45, 3) := by decide +kernel
theorem dX4_come_11 : decode cX4_come 11 = .ok (.aload_n 0, 1) := by decide +kernel
theorem dX4_come_12 : decode cX4_come 12 = .ok (.aload_n 0, 1) := by decide +kernel
theorem dX4_come_13 : decode cX4_come 13 = .ok (.iload_n 1, 1) := by decide +kernel
theorem dX4_come_14 : decode cX4_come 14 = .ok (.iload_n 2, 1) := by decide +kernel
theorem dX4_come_15 : decode cX4_come 15 = .ok (.iload_n 3, 1) := by decide +kernel
theorem dX4_come_16 : decode cX4_come 16 = .ok (.invokevirtual 64, 3) := by decide +kernel
theorem dX4_come_19 : decode cX4_come 19 = .ok (.invokevirtual 53, 3) := by decide +kernel
theorem dX4_come_22 : decode cX4_come 22 = .ok (.ireturn, 1) := by decide +kernel
theorem dX4_lose_0 : decode cX4_lose 0 = .ok (.aload_n 0, 1) := by decide +kernel
theorem dX4_lose_1 : decode cX4_lose 1 = .ok (.getfield 19, 3) := by decide +kernel
theorem dX4_lose_4 : decode cX4_lose 4 = .ok (.aload_n 0, 1) := by decide +kernel
theorem dX4_lose_5 : decode cX4_lose 5 = .ok (.getfield 10, 3) := by decide +kernel
theorem dX4_lose_8 : decode cX4_lose 8 = .ok (.invokevirtual 45, 3) := by decide +kernel
theorem dX4_lose_11 : decode cX4_lose 11 = .ok (.aload_n 0, 1) := by decide +kernel
theorem dX4_lose_12 : decode cX4_lose 12 = .ok (.aload_n 0, 1) := by decide +kernel
theorem dX4_lose_13 : decode cX4_lose 13 = .ok (.iload_n 1, 1) := by decide +kernel
theorem dX4_lose_14 : decode cX4_lose 14 = .ok (.iload_n 2, 1) := by decide +kernel
theorem dX4_lose_15 : decode cX4_lose 15 = .ok (.invokevirtual 68, 3) := by decide +kernel
theorem dX4_lose_18 : decode cX4_lose 18 = .ok (.invokevirtual 53, 3) := by decide +kernel
theorem dX4_lose_21 : decode cX4_lose 21 = .ok (.ireturn, 1) := by decide +kernel
theorem dX4_find_0 : decode cX4_find 0 = .ok (.aload_n 0, 1) := by decide +kernel
theorem dX4_find_1 : decode cX4_find 1 = .ok (.iload_n 1, 1) := by decide +kernel
theorem dX4_find_2 : decode cX4_find 2 = .ok (.iload_n 2, 1) := by decide +kernel
theorem dX4_find_3 : decode cX4_find 3 = .ok (.invokevirtual 71, 3) := by decide +kernel
theorem dX4_find_6 : decode cX4_find 6 = .ok (.ifCond .ne 5, 3) := by decide +kernel
theorem dX4_find_9 : decode cX4_find 9 = .ok (.iconst (-1), 1) := by decide +kernel
theorem dX4_find_10 : decode cX4_find 10 = .ok (.ireturn, 1) := by decide +kernel
theorem dX4_find_11 : decode cX4_find 11 = .ok (.aload_n 0, 1) := by decide +kernel
theorem dX4_find_12 : decode cX4_find 12 = .ok (.getfield 10, 3) := by decide +kernel
theorem dX4_find_15 : decode cX4_find 15 = .ok (.getfield 75, 3) := by decide +kernel
theorem dX4_find_18 : decode cX4_find 18 = .ok (.iload_n 1, 1) := by decide +kernel
theorem dX4_find_19 : decode cX4_find 19 = .ok (.aaload, 1) := by decide +kernel
theorem dX4_find_20 : decode cX4_find 20 = .ok (.astore_n 3, 1) := by decide +kernel
theorem dX4_find_21 : decode cX4_find 21 = .ok (.aload_n 3, 1) := by decide +kernel
theorem dX4_find_22 : decode cX4_find 22 = .ok (.iload_n 2, 1) := by decide +kernel
theorem dX4_find_23 : decode cX4_find 23 = .ok (.invokevirtual 79, 3) := by decide +kernel
theorem dX4_find_26 : decode cX4_find 26 = .ok (.iconst 4, 1) := by decide +kernel
theorem dX4_find_27 : decode cX4_find 27 = .ok (.if_icmp .eq 6, 3) := by decide +kernel
theorem dX4_find_30 : decode cX4_find 30 = .ok (.bipush (-5), 2) := by decide +kernel
theorem dX4_find_32 : decode cX4_find 32 = .ok (.ireturn, 1) := by decide +kernel
theorem dX4_find_33 : decode cX4_find 33 = .ok (.aload_n 0, 1) := by decide +kernel
theorem dX4_find_34 : decode cX4_find 34 = .ok (.getfield 19, 3) := by decide +kernel
theorem dX4_find_37 : decode cX4_find 37 = .ok (.aload_n 0, 1) := by decide +kernel
theorem dX4_find_38 : decode cX4_find 38 = .ok (.getfield 10, 3) := by decide +kernel
theorem dX4_find_41 : decode cX4_find 41 = .ok (.invokevirtual 45, 3) := by decide +kernel
theorem dX4_find_44 : decode cX4_find 44 = .ok (.aload_n 3, 1) := by decide +kernel
theorem dX4_find_45 : decode cX4_find 45 = .ok (.getfield 82, 3) := by decide +kernel
theorem dX4_find_48 : decode cX4_find 48 = .ok (.iload_n 2, 1) := by decide +kernel
theorem dX4_find_49 : decode cX4_find 49 = .ok (.iaload, 1) := by decide +kernel
theorem dX4_find_50 : decode cX4_find 50 = .ok (.istore 4, 2) := by decide +kernel
theorem dX4_find_52 : decode cX4_find 52 = .ok (.aload_n 3, 1) := by decide +kernel
theorem dX4_find_53 : decode cX4_find 53 = .ok (.iload_n 2, 1) := by decide +kernel
theorem dX4_find_54 : decode cX4_find 54 = .ok (.invokevirtual 85, 3) := by decide +kernel
theorem dX4_find_57 : decode cX4_find 57 = .ok (.aload_n 0, 1) := by decide +kernel
theorem dX4_find_58 : decode cX4_find 58 = .ok (.iload 4, 2) := by decide +kernel
theorem dX4_find_60 : decode cX4_find 60 = .ok (.invokevirtual 53, 3) := by decide +kernel
theorem dX4_find_63 : decode cX4_find 63 = .ok (.ireturn, 1) := by decide +kernel
theorem dX4_pass_0 : decode cX4_pass 0 = .ok (.aload_n 0, 1) := by decide +kernel
theorem dX4_pass_1 : decode cX4_pass 1 = .ok (.getfield 19, 3) := by decide +kernel
theorem dX4_pass_4 : decode cX4_pass 4 = .ok (.aload_n 0, 1) := by decide +kernel
theorem dX4_pass_5 : decode cX4_pass 5 = .ok (.getfield 10, 3) := by decide +kernel
theorem dX4_pass_8 : decode cX4_pass 8 = .ok (.invokevirtual 45, 3) := by decide +kernel
theorem dX4_pass_11 : decode cX4_pass 11 = .ok (.aload_n 0, 1) := by decide +kernel
theorem dX4_pass_12 : decode cX4_pass 12 = .ok (.aload_n 0, 1) := by decide +kernel
theorem dX4_pass_13 : decode cX4_pass 13 = .ok (.iload_n 1, 1) := by decide +kernel
theorem dX4_pass_14 : decode cX4_pass 14 = .ok (.invokevirtual 89, 3) := by decide +kernel
theorem dX4_pass_17 : decode cX4_pass 17 = .ok (.invokevirtual 53, 3) := by decide +kernel
theorem dX4_pass_20 : decode cX4_pass 20 = .ok (.ireturn, 1) := by decide +kernel
theorem dX4_recorded_0 : decode cX4_recorded 0 = .ok (.iload_n 1, 1) := by decide +kernel
theorem dX4_recorded_1 : decode cX4_recorded 1 = .ok (.ifCond .lt 10, 3) := by decide +kernel
theorem dX4_recorded_4 : decode cX4_recorded 4 = .ok (.aload_n 0, 1) := by decide +kernel
theorem dX4_recorded_5 : decode cX4_recorded 5 = .ok (.getfield 19, 3) := by decide +kernel
theorem dX4_recorded_8 : decode cX4_recorded 8 = .ok (.invokevirtual 92, 3) := by decide +kernel
theorem dX4_recorded_11 : decode cX4_recorded 11 = .ok (.iload_n 1, 1) := by decide +kernel
theorem dX4_recorded_12 : decode cX4_recorded 12 = .ok (.ireturn, 1) := by decide +kernel
theorem dX4_addTroop_0 : decode cX4_addTroop 0 = .ok (.iload_n 1, 1) := by decide +kernel
theorem dX4_addTroop_1 : decode cX4_addTroop 1 = .ok (.invokestatic 95, 3) := by decide +kernel
theorem dX4_addTroop_4 : decode cX4_addTroop 4 = .ok (.ifCond .ne 6, 3) := by decide +kernel
theorem dX4_addTroop_7 : decode cX4_addTroop 7 = .ok (.bipush (-2), 2) := by decide +kernel
theorem dX4_addTroop_9 : decode cX4_addTroop 9 = .ok (.ireturn, 1) := by decide +kernel
theorem dX4_addTroop_10 : decode cX4_addTroop 10 = .ok (.aload_n 0, 1) := by decide +kernel
theorem dX4_addTroop_11 : decode cX4_addTroop 11 = .ok (.getfield 10, 3) := by decide +kernel
theorem dX4_addTroop_14 : decode cX4_addTroop 14 = .ok (.getfield 99, 3) := by decide +kernel
theorem dX4_addTroop_17 : decode cX4_addTroop 17 = .ok (.iconst 5, 1) := by decide +kernel
theorem dX4_addTroop_18 : decode cX4_addTroop 18 = .ok (.if_icmp .lt 6, 3) := by decide +kernel
theorem dX4_addTroop_21 : decode cX4_addTroop 21 = .ok (.bipush (-4), 2) := by decide +kernel
theorem dX4_addTroop_23 : decode cX4_addTroop 23 = .ok (.ireturn, 1) := by decide +kernel
theorem dX4_addTroop_24 : decode cX4_addTroop 24 = .ok (.aload_n 0, 1) := by decide +kernel
theorem dX4_addTroop_25 : decode cX4_addTroop 25 = .ok (.getfield 10, 3) := by decide +kernel
theorem dX4_addTroop_28 : decode cX4_addTroop 28 = .ok (.getfield 99, 3) := by decide +kernel
theorem dX4_addTroop_31 : decode cX4_addTroop 31 = .ok (.istore_n 2, 1) := by decide +kernel
theorem dX4_addTroop_32 : decode cX4_addTroop 32 = .ok (.aload_n 0, 1) := by decide +kernel
theorem dX4_addTroop_33 : decode cX4_addTroop 33 = .ok (.getfield 10, 3) := by decide +kernel
theorem dX4_addTroop_36 : decode cX4_addTroop 36 = .ok (.getfield 75, 3) := by decide +kernel
theorem dX4_addTroop_39 : decode cX4_addTroop 39 = .ok (.iload_n 2, 1) := by decide +kernel
theorem dX4_addTroop_40 : decode cX4_addTroop 40 = .ok (.aaload, 1) := by decide +kernel
theorem dX4_addTroop_41 : decode cX4_addTroop 41 = .ok (.iload_n 1, 1) := by decide +kernel
theorem dX4_addTroop_42 : decode cX4_addTroop 42 = .ok (.invokevirtual 103, 3) := by decide +kernel
theorem dX4_addTroop_45 : decode cX4_addTroop 45 = .ok (.aload_n 0, 1) := by decide +kernel
theorem dX4_addTroop_46 : decode cX4_addTroop 46 = .ok (.getfield 10, 3) := by decide +kernel
theorem dX4_addTroop_49 : decode cX4_addTroop 49 = .ok (.dup, 1) := by decide +kernel
theorem dX4_addTroop_50 : decode cX4_addTroop 50 = .ok (.getfield 99, 3) := by decide +kernel
theorem dX4_addTroop_53 : decode cX4_addTroop 53 = .ok (.iconst 1, 1) := by decide +kernel
theorem dX4_addTroop_54 : decode cX4_addTroop 54 = .ok (.iadd, 1) := by decide +kernel
theorem dX4_addTroop_55 : decode cX4_addTroop 55 = .ok (.putfield 99, 3) := by decide +kernel
theorem dX4_addTroop_58 : decode cX4_addTroop 58 = .ok (.iload_n 2, 1) := by decide +kernel
theorem dX4_addTroop_59 : decode cX4_addTroop 59 = .ok (.ireturn, 1) := by decide +kernel
theorem dX4_changeSize_0 : decode cX4_changeSize 0 = .ok (.aload_n 0, 1) := by decide +kernel
theorem dX4_changeSize_1 : decode cX4_changeSize 1 = .ok (.iload_n 1, 1) := by decide +kernel
theorem dX4_changeSize_2 : decode cX4_changeSize 2 = .ok (.invokevirtual 106, 3) := by decide +kernel
theorem dX4_changeSize_5 : decode cX4_changeSize 5 = .ok (.ifCond .ne 5, 3) := by decide +kernel
theorem dX4_changeSize_8 : decode cX4_changeSize 8 = .ok (.iconst (-1), 1) := by decide +kernel
theorem dX4_changeSize_9 : decode cX4_changeSize 9 = .ok (.ireturn, 1) := by decide +kernel
theorem dX4_changeSize_10 : decode cX4_changeSize 10 = .ok (.iload_n 2, 1) := by decide +kernel
theorem dX4_changeSize_11 : decode cX4_changeSize 11 = .ok (.invokestatic 95, 3) := by decide +kernel
theorem dX4_changeSize_14 : decode cX4_changeSize 14 = .ok (.ifCond .ne 6, 3) := by decide +kernel
theorem dX4_changeSize_17 : decode cX4_changeSize 17 = .ok (.bipush (-2), 2) := by decide +kernel
theorem dX4_changeSize_19 : decode cX4_changeSize 19 = .ok (.ireturn, 1) := by decide +kernel
theorem dX4_changeSize_20 : decode cX4_changeSize 20 = .ok (.aload_n 0, 1) := by decide +kernel
theorem dX4_changeSize_21 : decode cX4_changeSize 21 = .ok (.getfield 10, 3) := by decide +kernel
theorem dX4_changeSize_24 : decode cX4_changeSize 24 = .ok (.getfield 75, 3) := by decide +kernel
theorem dX4_changeSize_27 : decode cX4_changeSize 27 = .ok (.iload_n 1, 1) := by decide +kernel
theorem dX4_changeSize_28 : decode cX4_changeSize 28 = .ok (.aaload, 1) := by decide +kernel
theorem dX4_changeSize_29 : decode cX4_changeSize 29 = .ok (.astore_n 3, 1) := by decide +kernel
theorem dX4_changeSize_30 : decode cX4_changeSize 30 = .ok (.aload_n 3, 1) := by decide +kernel
theorem dX4_changeSize_31 : decode cX4_changeSize 31 = .ok (.getfield 109, 3) := by decide +kernel
theorem dX4_changeSize_34 : decode cX4_changeSize 34 = .ok (.istore 4, 2) := by decide +kernel
theorem dX4_changeSize_36 : decode cX4_changeSize 36 = .ok (.aload_n 3, 1) := by decide +kernel
theorem dX4_changeSize_37 : decode cX4_changeSize 37 = .ok (.iload_n 2, 1) := by decide +kernel
theorem dX4_changeSize_38 : decode cX4_changeSize 38 = .ok (.putfield 109, 3) := by decide +kernel
theorem dX4_changeSize_41 : decode cX4_changeSize 41 = .ok (.iload 4, 2) := by decide +kernel
theorem dX4_changeSize_43 : decode cX4_changeSize 43 = .ok (.ireturn, 1) := by decide +kernel
theorem dX4_letCome_0 : decode cX4_letCome 0 = .ok (.aload_n 0, 1) := by decide +kernel
theorem dX4_letCome_1 : decode cX4_letCome 1 = .ok (.iload_n 1, 1) := by decide +kernel
theorem dX4_letCome_2 : decode cX4_letCome 2 = .ok (.iload_n 2, 1) := by decide +kernel
theorem dX4_letCome_3 : decode cX4_letCome 3 = .ok (.iload_n 3, 1) := by decide +kernel
theorem dX4_letCome_4 : decode cX4_letCome 4 = .ok (.invokevirtual 112, 3) := by decide +kernel
theorem dX4_letCome_7 : decode cX4_letCome 7 = .ok (.istore 4, 2) := by decide +kernel
theorem dX4_letCome_9 : decode cX4_letCome 9 = .ok (.iload 4, 2) := by decide +kernel
theorem dX4_letCome_11 : decode cX4_letCome 11 = .ok (.ifCond .ge 6, 3) := by decide +kernel
theorem dX4_letCome_14 : decode cX4_letCome 14 = .ok (.iload 4, 2) := by decide +kernel
theorem dX4_letCome_16 : decode cX4_letCome 16 = .ok (.ireturn, 1) := by decide +kernel
theorem dX4_letCome_17 : decode cX4_letCome 17 = .ok (.iload 4, 2) := by decide +kernel
theorem dX4_letCome_19 : decode cX4_letCome 19 = .ok (.iconst 4, 1) := by decide +kernel
theorem dX4_letCome_20 : decode cX4_letCome 20 = .ok (.if_icmp .ne 19, 3) := by decide +kernel
theorem dX4_letCome_23 : decode cX4_letCome 23 = .ok (.aload_n 0, 1) := by decide +kernel
theorem dX4_letCome_24 : decode cX4_letCome 24 = .ok (.getfield 10, 3) := by decide +kernel
theorem dX4_letCome_27 : decode cX4_letCome 27 = .ok (.dup, 1) := by decide +kernel
theorem dX4_letCome_28 : decode cX4_letCome 28 = .ok (.getfield 115, 3) := by decide +kernel
theorem dX4_letCome_31 : decode cX4_letCome 31 = .ok (.iconst 1, 1) := by decide +kernel
theorem dX4_letCome_32 : decode cX4_letCome 32 = .ok (.iadd, 1) := by decide +kernel
theorem dX4_letCome_33 : decode cX4_letCome 33 = .ok (.putfield 115, 3) := by decide +kernel
theorem dX4_letCome_36 : decode cX4_letCome 36 = .ok (.goto 11, 3) := by decide +kernel
theorem dX4_letCome_39 : decode cX4_letCome 39 = .ok (.iload 4, 2) := by decide +kernel
theorem dX4_letCome_41 : decode cX4_letCome 41 = .ok (.ifCond .eq 6, 3) := by decide +kernel
theorem dX4_letCome_44 : decode cX4_letCome 44 = .ok (.bipush (-5), 2) := by decide +kernel
theorem dX4_letCome_46 : decode cX4_letCome 46 = .ok (.ireturn, 1) := by decide +kernel
theorem dX4_letCome_47 : decode cX4_letCome 47 = .ok (.aload_n 0, 1) := by decide +kernel
theorem dX4_letCome_48 : decode cX4_letCome 48 = .ok (.getfield 10, 3) := by decide +kernel
theorem dX4_letCome_51 : decode cX4_letCome 51 = .ok (.getfield 75, 3) := by decide +kernel
theorem dX4_letCome_54 : decode cX4_letCome 54 = .ok (.iload_n 1, 1) := by decide +kernel
theorem dX4_letCome_55 : decode cX4_letCome 55 = .ok (.aaload, 1) := by decide +kernel
theorem dX4_letCome_56 : decode cX4_letCome 56 = .ok (.iload_n 2, 1) := by decide +kernel
theorem dX4_letCome_57 : decode cX4_letCome 57 = .ok (.iload_n 3, 1) := by decide +kernel
theorem dX4_letCome_58 : decode cX4_letCome 58 = .ok (.aload_n 0, 1) := by decide +kernel
theorem dX4_letCome_59 : decode cX4_letCome 59 = .ok (.getfield 10, 3) := by decide +kernel
theorem dX4_letCome_62 : decode cX4_letCome 62 = .ok (.getfield 49, 3) := by decide +kernel
theorem dX4_letCome_65 : decode cX4_letCome 65 = .ok (.iconst 1, 1) := by decide +kernel
theorem dX4_letCome_66 : decode cX4_letCome 66 = .ok (.iaload, 1) := by decide +kernel
theorem dX4_letCome_67 : decode cX4_letCome 67 = .ok (.invokevirtual 118, 3) := by decide +kernel
theorem dX4_letCome_70 : decode cX4_letCome 70 = .ok (.ireturn, 1) := by decide +kernel
theorem dX4_loseScout_0 : decode cX4_loseScout 0 = .ok (.aload_n 0, 1) := by decide +kernel
theorem dX4_loseScout_1 : decode cX4_loseScout 1 = .ok (.iload_n 1, 1) := by decide +kernel
theorem dX4_loseScout_2 : decode cX4_loseScout 2 = .ok (.iload_n 2, 1) := by decide +kernel
theorem dX4_loseScout_3 : decode cX4_loseScout 3 = .ok (.invokevirtual 71, 3) := by decide +kernel
theorem dX4_loseScout_6 : decode cX4_loseScout 6 = .ok (.ifCond .ne 5, 3) := by decide +kernel
theorem dX4_loseScout_9 : decode cX4_loseScout 9 = .ok (.iconst (-1), 1) := by decide +kernel
theorem dX4_loseScout_10 : decode cX4_loseScout 10 = .ok (.ireturn, 1) := by decide +kernel
theorem dX4_loseScout_11 : decode cX4_loseScout 11 = .ok (.aload_n 0, 1) := by decide +kernel
theorem dX4_loseScout_12 : decode cX4_loseScout 12 = .ok (.getfield 10, 3) := by decide +kernel
theorem dX4_loseScout_15 : decode cX4_loseScout 15 = .ok (.getfield 75, 3) := by decide +kernel
theorem dX4_loseScout_18 : decode cX4_loseScout 18 = .ok (.iload_n 1, 1) := by decide +kernel
theorem dX4_loseScout_19 : decode cX4_loseScout 19 = .ok (.aaload, 1) := by decide +kernel
theorem dX4_loseScout_20 : decode cX4_loseScout 20 = .ok (.astore_n 3, 1) := by decide +kernel
theorem dX4_loseScout_21 : decode cX4_loseScout 21 = .ok (.aload_n 3, 1) := by decide +kernel
theorem dX4_loseScout_22 : decode cX4_loseScout 22 = .ok (.iload_n 2, 1) := by decide +kernel
theorem dX4_loseScout_23 : decode cX4_loseScout 23 = .ok (.invokevirtual 79, 3) := by decide +kernel
theorem dX4_loseScout_26 : decode cX4_loseScout 26 = .ok (.istore 4, 2) := by decide +kernel
theorem dX4_loseScout_28 : decode cX4_loseScout 28 = .ok (.iload 4, 2) := by decide +kernel
theorem dX4_loseScout_30 : decode cX4_loseScout 30 = .ok (.iconst 3, 1) := by decide +kernel
theorem dX4_loseScout_31 : decode cX4_loseScout 31 = .ok (.if_icmp .eq 9, 3) := by decide +kernel
theorem dX4_loseScout_34 : decode cX4_loseScout 34 = .ok (.iload 4, 2) := by decide +kernel
theorem dX4_loseScout_36 : decode cX4_loseScout 36 = .ok (.iconst 4, 1) := by decide +kernel
theorem dX4_loseScout_37 : decode cX4_loseScout 37 = .ok (.if_icmp .ne 6, 3) := by decide +kernel
theorem dX4_loseScout_40 : decode cX4_loseScout 40 = .ok (.bipush (-5), 2) := by decide +kernel
theorem dX4_loseScout_42 : decode cX4_loseScout 42 = .ok (.ireturn, 1) := by decide +kernel
theorem dX4_loseScout_43 : decode cX4_loseScout 43 = .ok (.aload_n 3, 1) := by decide +kernel
theorem dX4_loseScout_44 : decode cX4_loseScout 44 = .ok (.iload_n 2, 1) := by decide +kernel
theorem dX4_loseScout_45 : decode cX4_loseScout 45 = .ok (.invokevirtual 121, 3) := by decide +kernel
theorem dX4_loseScout_48 : decode cX4_loseScout 48 = .ok (.aload_n 3, 1) := by decide +kernel
theorem dX4_loseScout_49 : decode cX4_loseScout 49 = .ok (.invokevirtual 124, 3) := by decide +kernel
theorem dX4_loseScout_52 : decode cX4_loseScout 52 = .ok (.ireturn, 1) := by decide +kernel
theorem dX4_passMinutes_0 : decode cX4_passMinutes 0 = .ok (.iload_n 1, 1) := by decide +kernel
theorem dX4_passMinutes_1 : decode cX4_passMinutes 1 = .ok (.iconst 1, 1) := by decide +kernel
theorem dX4_passMinutes_2 : decode cX4_passMinutes 2 = .ok (.if_icmp .lt 9, 3) := by decide +kernel
theorem dX4_passMinutes_5 : decode cX4_passMinutes 5 = .ok (.iload_n 1, 1) := by decide +kernel
theorem dX4_passMinutes_6 : decode cX4_passMinutes 6 = .ok (.bipush 99, 2) := by decide +kernel
theorem dX4_passMinutes_8 : decode cX4_passMinutes 8 = .ok (.if_icmp .le 6, 3) := by decide +kernel
theorem dX4_passMinutes_11 : decode cX4_passMinutes 11 = .ok (.bipush (-2), 2) := by decide +kernel
theorem dX4_passMinutes_13 : decode cX4_passMinutes 13 = .ok (.ireturn, 1) := by decide +kernel
theorem dX4_passMinutes_14 : decode cX4_passMinutes 14 = .ok (.aload_n 0, 1) := by decide +kernel
theorem dX4_passMinutes_15 : decode cX4_passMinutes 15 = .ok (.getfield 10, 3) := by decide +kernel
theorem dX4_passMinutes_18 : decode cX4_passMinutes 18 = .ok (.getfield 128, 3) := by decide +kernel
theorem dX4_passMinutes_21 : decode cX4_passMinutes 21 = .ok (.iload_n 1, 1) := by decide +kernel
theorem dX4_passMinutes_22 : decode cX4_passMinutes 22 = .ok (.iadd, 1) := by decide +kernel
theorem dX4_passMinutes_23 : decode cX4_passMinutes 23 = .ok (.sipush 9999, 3) := by decide +kernel
theorem dX4_passMinutes_26 : decode cX4_passMinutes 26 = .ok (.if_icmp .le 6, 3) := by decide +kernel
theorem dX4_passMinutes_29 : decode cX4_passMinutes 29 = .ok (.bipush (-5), 2) := by decide +kernel
theorem dX4_passMinutes_31 : decode cX4_passMinutes 31 = .ok (.ireturn, 1) := by decide +kernel
theorem dX4_passMinutes_32 : decode cX4_passMinutes 32 = .ok (.iconst 0, 1) := by decide +kernel
theorem dX4_passMinutes_33 : decode cX4_passMinutes 33 = .ok (.istore_n 2, 1) := by decide +kernel
theorem dX4_passMinutes_34 : decode cX4_passMinutes 34 = .ok (.iconst 0, 1) := by decide +kernel
theorem dX4_passMinutes_35 : decode cX4_passMinutes 35 = .ok (.istore_n 3, 1) := by decide +kernel
theorem dX4_passMinutes_36 : decode cX4_passMinutes 36 = .ok (.iload_n 3, 1) := by decide +kernel
theorem dX4_passMinutes_37 : decode cX4_passMinutes 37 = .ok (.iload_n 1, 1) := by decide +kernel
theorem dX4_passMinutes_38 : decode cX4_passMinutes 38 = .ok (.if_icmp .ge 64, 3) := by decide +kernel
theorem dX4_passMinutes_41 : decode cX4_passMinutes 41 = .ok (.iconst 0, 1) := by decide +kernel
theorem dX4_passMinutes_42 : decode cX4_passMinutes 42 = .ok (.istore 4, 2) := by decide +kernel
theorem dX4_passMinutes_44 : decode cX4_passMinutes 44 = .ok (.iload 4, 2) := by decide +kernel
theorem dX4_passMinutes_46 : decode cX4_passMinutes 46 = .ok (.aload_n 0, 1) := by decide +kernel
theorem dX4_passMinutes_47 : decode cX4_passMinutes 47 = .ok (.getfield 10, 3) := by decide +kernel
theorem dX4_passMinutes_50 : decode cX4_passMinutes 50 = .ok (.getfield 99, 3) := by decide +kernel
theorem dX4_passMinutes_53 : decode cX4_passMinutes 53 = .ok (.if_icmp .ge 43, 3) := by decide +kernel
theorem dX4_passMinutes_56 : decode cX4_passMinutes 56 = .ok (.iload_n 2, 1) := by decide +kernel
theorem dX4_passMinutes_57 : decode cX4_passMinutes 57 = .ok (.aload_n 0, 1) := by decide +kernel
theorem dX4_passMinutes_58 : decode cX4_passMinutes 58 = .ok (.getfield 10, 3) := by decide +kernel
theorem dX4_passMinutes_61 : decode cX4_passMinutes 61 = .ok (.getfield 75, 3) := by decide +kernel
theorem dX4_passMinutes_64 : decode cX4_passMinutes 64 = .ok (.iload 4, 2) := by decide +kernel
theorem dX4_passMinutes_66 : decode cX4_passMinutes 66 = .ok (.aaload, 1) := by decide +kernel
theorem dX4_passMinutes_67 : decode cX4_passMinutes 67 = .ok (.aload_n 0, 1) := by decide +kernel
theorem dX4_passMinutes_68 : decode cX4_passMinutes 68 = .ok (.getfield 10, 3) := by decide +kernel
theorem dX4_passMinutes_71 : decode cX4_passMinutes 71 = .ok (.getfield 49, 3) := by decide +kernel
theorem dX4_passMinutes_74 : decode cX4_passMinutes 74 = .ok (.iconst 0, 1) := by decide +kernel
theorem dX4_passMinutes_75 : decode cX4_passMinutes 75 = .ok (.iaload, 1) := by decide +kernel
theorem dX4_passMinutes_76 : decode cX4_passMinutes 76 = .ok (.aload_n 0, 1) := by decide +kernel
theorem dX4_passMinutes_77 : decode cX4_passMinutes 77 = .ok (.getfield 10, 3) := by decide +kernel
theorem dX4_passMinutes_80 : decode cX4_passMinutes 80 = .ok (.getfield 49, 3) := by decide +kernel
theorem dX4_passMinutes_83 : decode cX4_passMinutes 83 = .ok (.iconst 1, 1) := by decide +kernel
theorem dX4_passMinutes_84 : decode cX4_passMinutes 84 = .ok (.iaload, 1) := by decide +kernel
theorem dX4_passMinutes_85 : decode cX4_passMinutes 85 = .ok (.invokevirtual 130, 3) := by decide +kernel
theorem dX4_passMinutes_88 : decode cX4_passMinutes 88 = .ok (.iadd, 1) := by decide +kernel
theorem dX4_passMinutes_89 : decode cX4_passMinutes 89 = .ok (.istore_n 2, 1) := by decide +kernel
theorem dX4_passMinutes_90 : decode cX4_passMinutes 90 = .ok (.iinc 4 1, 3) := by decide +kernel
theorem dX4_passMinutes_93 : decode cX4_passMinutes 93 = .ok (.goto (-49), 3) := by decide +kernel
theorem dX4_passMinutes_96 : decode cX4_passMinutes 96 = .ok (.iinc 3 1, 3) := by decide +kernel
theorem dX4_passMinutes_99 : decode cX4_passMinutes 99 = .ok (.goto (-63), 3) := by decide +kernel
theorem dX4_passMinutes_102 : decode cX4_passMinutes 102 = .ok (.aload_n 0, 1) := by decide +kernel
theorem dX4_passMinutes_103 : decode cX4_passMinutes 103 = .ok (.getfield 10, 3) := by decide +kernel
theorem dX4_passMinutes_106 : decode cX4_passMinutes 106 = .ok (.dup, 1) := by decide +kernel
theorem dX4_passMinutes_107 : decode cX4_passMinutes 107 = .ok (.getfield 128, 3) := by decide +kernel
theorem dX4_passMinutes_110 : decode cX4_passMinutes 110 = .ok (.iload_n 1, 1) := by decide +kernel
theorem dX4_passMinutes_111 : decode cX4_passMinutes 111 = .ok (.iadd, 1) := by decide +kernel
theorem dX4_passMinutes_112 : decode cX4_passMinutes 112 = .ok (.putfield 128, 3) := by decide +kernel
theorem dX4_passMinutes_115 : decode cX4_passMinutes 115 = .ok (.iload_n 2, 1) := by decide +kernel
theorem dX4_passMinutes_116 : decode cX4_passMinutes 116 = .ok (.ireturn, 1) := by decide +kernel
theorem dX4_ofTroop_0 : decode cX4_ofTroop 0 = .ok (.aload_n 0, 1) := by decide +kernel
theorem dX4_ofTroop_1 : decode cX4_ofTroop 1 = .ok (.iload_n 1, 1) := by decide +kernel
theorem dX4_ofTroop_2 : decode cX4_ofTroop 2 = .ok (.invokevirtual 106, 3) := by decide +kernel
theorem dX4_ofTroop_5 : decode cX4_ofTroop 5 = .ok (.ifCond .ne 5, 3) := by decide +kernel
theorem dX4_ofTroop_8 : decode cX4_ofTroop 8 = .ok (.iconst (-1), 1) := by decide +kernel
theorem dX4_ofTroop_9 : decode cX4_ofTroop 9 = .ok (.ireturn, 1) := by decide +kernel
theorem dX4_ofTroop_10 : decode cX4_ofTroop 10 = .ok (.aload_n 0, 1) := by decide +kernel
theorem dX4_ofTroop_11 : decode cX4_ofTroop 11 = .ok (.getfield 10, 3) := by decide +kernel
theorem dX4_ofTroop_14 : decode cX4_ofTroop 14 = .ok (.getfield 75, 3) := by decide +kernel
theorem dX4_ofTroop_17 : decode cX4_ofTroop 17 = .ok (.iload_n 1, 1) := by decide +kernel
theorem dX4_ofTroop_18 : decode cX4_ofTroop 18 = .ok (.aaload, 1) := by decide +kernel
theorem dX4_ofTroop_19 : decode cX4_ofTroop 19 = .ok (.astore_n 3, 1) := by decide +kernel
theorem dX4_ofTroop_20 : decode cX4_ofTroop 20 = .ok (.iload_n 2, 1) := by decide +kernel
theorem dX4_ofTroop_21 : decode cX4_ofTroop 21 = .ok (.tableswitch 123 0 11 #[63, 68, 73, 78, 83, 88, 93, 98, 103, 108, 113, 118], 63) := by decide +kernel
theorem dX4_ofTroop_84 : decode cX4_ofTroop 84 = .ok (.aload_n 3, 1) := by decide +kernel
theorem dX4_ofTroop_85 : decode cX4_ofTroop 85 = .ok (.getfield 133, 3) := by decide +kernel
theorem dX4_ofTroop_88 : decode cX4_ofTroop 88 = .ok (.ireturn, 1) := by decide +kernel
theorem dX4_ofTroop_89 : decode cX4_ofTroop 89 = .ok (.aload_n 3, 1) := by decide +kernel
theorem dX4_ofTroop_90 : decode cX4_ofTroop 90 = .ok (.getfield 136, 3) := by decide +kernel
theorem dX4_ofTroop_93 : decode cX4_ofTroop 93 = .ok (.ireturn, 1) := by decide +kernel
theorem dX4_ofTroop_94 : decode cX4_ofTroop 94 = .ok (.aload_n 3, 1) := by decide +kernel
theorem dX4_ofTroop_95 : decode cX4_ofTroop 95 = .ok (.getfield 109, 3) := by decide +kernel
theorem dX4_ofTroop_98 : decode cX4_ofTroop 98 = .ok (.ireturn, 1) := by decide +kernel
theorem dX4_ofTroop_99 : decode cX4_ofTroop 99 = .ok (.aload_n 3, 1) := by decide +kernel
theorem dX4_ofTroop_100 : decode cX4_ofTroop 100 = .ok (.invokevirtual 124, 3) := by decide +kernel
theorem dX4_ofTroop_103 : decode cX4_ofTroop 103 = .ok (.ireturn, 1) := by decide +kernel
theorem dX4_ofTroop_104 : decode cX4_ofTroop 104 = .ok (.aload_n 3, 1) := by decide +kernel
theorem dX4_ofTroop_105 : decode cX4_ofTroop 105 = .ok (.getfield 139, 3) := by decide +kernel
theorem dX4_ofTroop_108 : decode cX4_ofTroop 108 = .ok (.ireturn, 1) := by decide +kernel
theorem dX4_ofTroop_109 : decode cX4_ofTroop 109 = .ok (.aload_n 3, 1) := by decide +kernel
theorem dX4_ofTroop_110 : decode cX4_ofTroop 110 = .ok (.invokevirtual 142, 3) := by decide +kernel
theorem dX4_ofTroop_113 : decode cX4_ofTroop 113 = .ok (.ireturn, 1) := by decide +kernel
theorem dX4_ofTroop_114 : decode cX4_ofTroop 114 = .ok (.aload_n 3, 1) := by decide +kernel
theorem dX4_ofTroop_115 : decode cX4_ofTroop 115 = .ok (.getfield 145, 3) := by decide +kernel
theorem dX4_ofTroop_118 : decode cX4_ofTroop 118 = .ok (.ireturn, 1) := by decide +kernel
theorem dX4_ofTroop_119 : decode cX4_ofTroop 119 = .ok (.aload_n 3, 1) := by decide +kernel
theorem dX4_ofTroop_120 : decode cX4_ofTroop 120 = .ok (.getfield 148, 3) := by decide +kernel
theorem dX4_ofTroop_123 : decode cX4_ofTroop 123 = .ok (.ireturn, 1) := by decide +kernel
theorem dX4_ofTroop_124 : decode cX4_ofTroop 124 = .ok (.aload_n 3, 1) := by decide +kernel
theorem dX4_ofTroop_125 : decode cX4_ofTroop 125 = .ok (.getfield 151, 3) := by decide +kernel
theorem dX4_ofTroop_128 : decode cX4_ofTroop 128 = .ok (.ireturn, 1) := by decide +kernel
theorem dX4_ofTroop_129 : decode cX4_ofTroop 129 = .ok (.aload_n 3, 1) := by decide +kernel
theorem dX4_ofTroop_130 : decode cX4_ofTroop 130 = .ok (.getfield 154, 3) := by decide +kernel
theorem dX4_ofTroop_133 : decode cX4_ofTroop 133 = .ok (.ireturn, 1) := by decide +kernel
theorem dX4_ofTroop_134 : decode cX4_ofTroop 134 = .ok (.aload_n 3, 1) := by decide +kernel
theorem dX4_ofTroop_135 : decode cX4_ofTroop 135 = .ok (.getfield 157, 3) := by decide +kernel
theorem dX4_ofTroop_138 : decode cX4_ofTroop 138 = .ok (.ireturn, 1) := by decide +kernel
theorem dX4_ofTroop_139 : decode cX4_ofTroop 139 = .ok (.aload_n 3, 1) := by decide +kernel
theorem dX4_ofTroop_140 : decode cX4_ofTroop 140 = .ok (.getfield 160, 3) := by decide +kernel
theorem dX4_ofTroop_143 : decode cX4_ofTroop 143 = .ok (.ireturn, 1) := by decide +kernel
theorem dX4_ofTroop_144 : decode cX4_ofTroop 144 = .ok (.bipush (-2), 2) := by decide +kernel
theorem dX4_ofTroop_146 : decode cX4_ofTroop 146 = .ok (.ireturn, 1) := by decide +kernel
theorem dX4_of_0 : decode cX4_of 0 = .ok (.aload_n 0, 1) := by decide +kernel
theorem dX4_of_1 : decode cX4_of 1 = .ok (.iload_n 1, 1) := by decide +kernel
theorem dX4_of_2 : decode cX4_of 2 = .ok (.invokevirtual 106, 3) := by decide +kernel
theorem dX4_of_5 : decode cX4_of 5 = .ok (.ifCond .ne 5, 3) := by decide +kernel
theorem dX4_of_8 : decode cX4_of 8 = .ok (.iconst (-1), 1) := by decide +kernel
theorem dX4_of_9 : decode cX4_of 9 = .ok (.ireturn, 1) := by decide +kernel
theorem dX4_of_10 : decode cX4_of 10 = .ok (.aload_n 0, 1) := by decide +kernel
theorem dX4_of_11 : decode cX4_of 11 = .ok (.getfield 10, 3) := by decide +kernel
theorem dX4_of_14 : decode cX4_of 14 = .ok (.getfield 75, 3) := by decide +kernel
theorem dX4_of_17 : decode cX4_of 17 = .ok (.iload_n 1, 1) := by decide +kernel
theorem dX4_of_18 : decode cX4_of 18 = .ok (.aaload, 1) := by decide +kernel
theorem dX4_of_19 : decode cX4_of 19 = .ok (.astore 4, 2) := by decide +kernel
theorem dX4_of_21 : decode cX4_of 21 = .ok (.aload 4, 2) := by decide +kernel
theorem dX4_of_23 : decode cX4_of 23 = .ok (.iload_n 2, 1) := by decide +kernel
theorem dX4_of_24 : decode cX4_of 24 = .ok (.invokevirtual 163, 3) := by decide +kernel
theorem dX4_of_27 : decode cX4_of 27 = .ok (.ifCond .ne 5, 3) := by decide +kernel
theorem dX4_of_30 : decode cX4_of 30 = .ok (.iconst (-1), 1) := by decide +kernel
theorem dX4_of_31 : decode cX4_of 31 = .ok (.ireturn, 1) := by decide +kernel
theorem dX4_of_32 : decode cX4_of 32 = .ok (.iload_n 3, 1) := by decide +kernel
theorem dX4_of_33 : decode cX4_of 33 = .ok (.tableswitch 64 0 3 #[31, 38, 46, 54], 31) := by decide +kernel
theorem dX4_of_64 : decode cX4_of 64 = .ok (.aload 4, 2) := by decide +kernel
theorem dX4_of_66 : decode cX4_of 66 = .ok (.iload_n 2, 1) := by decide +kernel
theorem dX4_of_67 : decode cX4_of 67 = .ok (.invokevirtual 79, 3) := by decide +kernel
theorem dX4_of_70 : decode cX4_of 70 = .ok (.ireturn, 1) := by decide +kernel
theorem dX4_of_71 : decode cX4_of 71 = .ok (.aload 4, 2) := by decide +kernel
theorem dX4_of_73 : decode cX4_of 73 = .ok (.getfield 82, 3) := by decide +kernel
theorem dX4_of_76 : decode cX4_of 76 = .ok (.iload_n 2, 1) := by decide +kernel
theorem dX4_of_77 : decode cX4_of 77 = .ok (.iaload, 1) := by decide +kernel
theorem dX4_of_78 : decode cX4_of 78 = .ok (.ireturn, 1) := by decide +kernel
theorem dX4_of_79 : decode cX4_of 79 = .ok (.aload 4, 2) := by decide +kernel
theorem dX4_of_81 : decode cX4_of 81 = .ok (.getfield 166, 3) := by decide +kernel
theorem dX4_of_84 : decode cX4_of 84 = .ok (.iload_n 2, 1) := by decide +kernel
theorem dX4_of_85 : decode cX4_of 85 = .ok (.iaload, 1) := by decide +kernel
theorem dX4_of_86 : decode cX4_of 86 = .ok (.ireturn, 1) := by decide +kernel
theorem dX4_of_87 : decode cX4_of 87 = .ok (.aload 4, 2) := by decide +kernel
theorem dX4_of_89 : decode cX4_of 89 = .ok (.getfield 157, 3) := by decide +kernel
theorem dX4_of_92 : decode cX4_of 92 = .ok (.iload_n 2, 1) := by decide +kernel
theorem dX4_of_93 : decode cX4_of 93 = .ok (.ishr, 1) := by decide +kernel
theorem dX4_of_94 : decode cX4_of 94 = .ok (.iconst 1, 1) := by decide +kernel
theorem dX4_of_95 : decode cX4_of 95 = .ok (.iand, 1) := by decide +kernel
theorem dX4_of_96 : decode cX4_of 96 = .ok (.ireturn, 1) := by decide +kernel
theorem dX4_of_97 : decode cX4_of 97 = .ok (.bipush (-2), 2) := by decide +kernel
theorem dX4_of_99 : decode cX4_of 99 = .ok (.ireturn, 1) := by decide +kernel
theorem dX4_count_0 : decode cX4_count 0 = .ok (.iload_n 1, 1) := by decide +kernel
theorem dX4_count_1 : decode cX4_count 1 = .ok (.tableswitch 139 0 9 #[55, 63, 71, 79, 87, 95, 103, 113, 123, 131], 55) := by decide +kernel
theorem dX4_count_56 : decode cX4_count 56 = .ok (.aload_n 0, 1) := by decide +kernel
theorem dX4_count_57 : decode cX4_count 57 = .ok (.getfield 10, 3) := by decide +kernel
theorem dX4_count_60 : decode cX4_count 60 = .ok (.getfield 128, 3) := by decide +kernel
theorem dX4_count_63 : decode cX4_count 63 = .ok (.ireturn, 1) := by decide +kernel
theorem dX4_count_64 : decode cX4_count 64 = .ok (.aload_n 0, 1) := by decide +kernel
theorem dX4_count_65 : decode cX4_count 65 = .ok (.getfield 10, 3) := by decide +kernel
theorem dX4_count_68 : decode cX4_count 68 = .ok (.getfield 99, 3) := by decide +kernel
theorem dX4_count_71 : decode cX4_count 71 = .ok (.ireturn, 1) := by decide +kernel
theorem dX4_count_72 : decode cX4_count 72 = .ok (.aload_n 0, 1) := by decide +kernel
theorem dX4_count_73 : decode cX4_count 73 = .ok (.getfield 10, 3) := by decide +kernel
theorem dX4_count_76 : decode cX4_count 76 = .ok (.invokevirtual 169, 3) := by decide +kernel
theorem dX4_count_79 : decode cX4_count 79 = .ok (.ireturn, 1) := by decide +kernel
theorem dX4_count_80 : decode cX4_count 80 = .ok (.aload_n 0, 1) := by decide +kernel
theorem dX4_count_81 : decode cX4_count 81 = .ok (.getfield 10, 3) := by decide +kernel
theorem dX4_count_84 : decode cX4_count 84 = .ok (.invokevirtual 171, 3) := by decide +kernel
theorem dX4_count_87 : decode cX4_count 87 = .ok (.ireturn, 1) := by decide +kernel
theorem dX4_count_88 : decode cX4_count 88 = .ok (.aload_n 0, 1) := by decide +kernel
theorem dX4_count_89 : decode cX4_count 89 = .ok (.getfield 10, 3) := by decide +kernel
theorem dX4_count_92 : decode cX4_count 92 = .ok (.invokevirtual 174, 3) := by decide +kernel
theorem dX4_count_95 : decode cX4_count 95 = .ok (.ireturn, 1) := by decide +kernel
theorem dX4_count_96 : decode cX4_count 96 = .ok (.aload_n 0, 1) := by decide +kernel
theorem dX4_count_97 : decode cX4_count 97 = .ok (.getfield 10, 3) := by decide +kernel
theorem dX4_count_100 : decode cX4_count 100 = .ok (.getfield 115, 3) := by decide +kernel
theorem dX4_count_103 : decode cX4_count 103 = .ok (.ireturn, 1) := by decide +kernel
theorem dX4_count_104 : decode cX4_count 104 = .ok (.aload_n 0, 1) := by decide +kernel
theorem dX4_count_105 : decode cX4_count 105 = .ok (.getfield 10, 3) := by decide +kernel
theorem dX4_count_108 : decode cX4_count 108 = .ok (.getfield 49, 3) := by decide +kernel
theorem dX4_count_111 : decode cX4_count 111 = .ok (.iconst 0, 1) := by decide +kernel
theorem dX4_count_112 : decode cX4_count 112 = .ok (.iaload, 1) := by decide +kernel
theorem dX4_count_113 : decode cX4_count 113 = .ok (.ireturn, 1) := by decide +kernel
theorem dX4_count_114 : decode cX4_count 114 = .ok (.aload_n 0, 1) := by decide +kernel
theorem dX4_count_115 : decode cX4_count 115 = .ok (.getfield 10, 3) := by decide +kernel
theorem dX4_count_118 : decode cX4_count 118 = .ok (.getfield 49, 3) := by decide +kernel
theorem dX4_count_121 : decode cX4_count 121 = .ok (.iconst 1, 1) := by decide +kernel
theorem dX4_count_122 : decode cX4_count 122 = .ok (.iaload, 1) := by decide +kernel
theorem dX4_count_123 : decode cX4_count 123 = .ok (.ireturn, 1) := by decide +kernel
theorem dX4_count_124 : decode cX4_count 124 = .ok (.aload_n 0, 1) := by decide +kernel
theorem dX4_count_125 : decode cX4_count 125 = .ok (.getfield 34, 3) := by decide +kernel
theorem dX4_count_128 : decode cX4_count 128 = .ok (.getfield 177, 3) := by decide +kernel
theorem dX4_count_131 : decode cX4_count 131 = .ok (.ireturn, 1) := by decide +kernel
theorem dX4_count_132 : decode cX4_count 132 = .ok (.aload_n 0, 1) := by decide +kernel
theorem dX4_count_133 : decode cX4_count 133 = .ok (.getfield 19, 3) := by decide +kernel
theorem dX4_count_136 : decode cX4_count 136 = .ok (.getfield 180, 3) := by decide +kernel
theorem dX4_count_139 : decode cX4_count 139 = .ok (.ireturn, 1) := by decide +kernel
theorem dX4_count_140 : decode cX4_count 140 = .ok (.bipush (-2), 2) := by decide +kernel
theorem dX4_count_142 : decode cX4_count 142 = .ok (.ireturn, 1) := by decide +kernel
theorem dX4_why_0 : decode cX4_why 0 = .ok (.aload_n 0, 1) := by decide +kernel
theorem dX4_why_1 : decode cX4_why 1 = .ok (.iload_n 1, 1) := by decide +kernel
theorem dX4_why_2 : decode cX4_why 2 = .ok (.iload_n 2, 1) := by decide +kernel
theorem dX4_why_3 : decode cX4_why 3 = .ok (.invokevirtual 71, 3) := by decide +kernel
theorem dX4_why_6 : decode cX4_why 6 = .ok (.ifCond .ne 5, 3) := by decide +kernel
theorem dX4_why_9 : decode cX4_why 9 = .ok (.iconst (-1), 1) := by decide +kernel
theorem dX4_why_10 : decode cX4_why 10 = .ok (.ireturn, 1) := by decide +kernel
theorem dX4_why_11 : decode cX4_why 11 = .ok (.iload_n 3, 1) := by decide +kernel
theorem dX4_why_12 : decode cX4_why 12 = .ok (.ifCond .lt 8, 3) := by decide +kernel
theorem dX4_why_15 : decode cX4_why 15 = .ok (.iload_n 3, 1) := by decide +kernel
theorem dX4_why_16 : decode cX4_why 16 = .ok (.iconst 1, 1) := by decide +kernel
theorem dX4_why_17 : decode cX4_why 17 = .ok (.if_icmp .le 6, 3) := by decide +kernel
theorem dX4_why_20 : decode cX4_why 20 = .ok (.bipush (-2), 2) := by decide +kernel
theorem dX4_why_22 : decode cX4_why 22 = .ok (.ireturn, 1) := by decide +kernel
theorem dX4_why_23 : decode cX4_why 23 = .ok (.aload_n 0, 1) := by decide +kernel
theorem dX4_why_24 : decode cX4_why 24 = .ok (.getfield 10, 3) := by decide +kernel
theorem dX4_why_27 : decode cX4_why 27 = .ok (.getfield 75, 3) := by decide +kernel
theorem dX4_why_30 : decode cX4_why 30 = .ok (.iload_n 1, 1) := by decide +kernel
theorem dX4_why_31 : decode cX4_why 31 = .ok (.aaload, 1) := by decide +kernel
theorem dX4_why_32 : decode cX4_why 32 = .ok (.astore 4, 2) := by decide +kernel
theorem dX4_why_34 : decode cX4_why 34 = .ok (.aload 4, 2) := by decide +kernel
theorem dX4_why_36 : decode cX4_why 36 = .ok (.iload_n 2, 1) := by decide +kernel
theorem dX4_why_37 : decode cX4_why 37 = .ok (.invokevirtual 79, 3) := by decide +kernel
theorem dX4_why_40 : decode cX4_why 40 = .ok (.tableswitch 34 1 3 #[30, 32, 28], 28) := by decide +kernel
theorem dX4_why_68 : decode cX4_why 68 = .ok (.iconst 1, 1) := by decide +kernel
theorem dX4_why_69 : decode cX4_why 69 = .ok (.ireturn, 1) := by decide +kernel
theorem dX4_why_70 : decode cX4_why 70 = .ok (.iconst 2, 1) := by decide +kernel
theorem dX4_why_71 : decode cX4_why 71 = .ok (.ireturn, 1) := by decide +kernel
theorem dX4_why_72 : decode cX4_why 72 = .ok (.iconst 3, 1) := by decide +kernel
theorem dX4_why_73 : decode cX4_why 73 = .ok (.ireturn, 1) := by decide +kernel
theorem dX4_why_74 : decode cX4_why 74 = .ok (.iload_n 3, 1) := by decide +kernel
theorem dX4_why_75 : decode cX4_why 75 = .ok (.aload 4, 2) := by decide +kernel
theorem dX4_why_77 : decode cX4_why 77 = .ok (.getfield 136, 3) := by decide +kernel
theorem dX4_why_80 : decode cX4_why 80 = .ok (.if_icmp .ne 7, 3) := by decide +kernel
theorem dX4_why_83 : decode cX4_why 83 = .ok (.iconst 0, 1) := by decide +kernel
theorem dX4_why_84 : decode cX4_why 84 = .ok (.goto 4, 3) := by decide +kernel
theorem dX4_why_87 : decode cX4_why 87 = .ok (.iconst 4, 1) := by decide +kernel
theorem dX4_why_88 : decode cX4_why 88 = .ok (.ireturn, 1) := by decide +kernel
theorem dX4_waitsFor_0 : decode cX4_waitsFor 0 = .ok (.aload_n 0, 1) := by decide +kernel
theorem dX4_waitsFor_1 : decode cX4_waitsFor 1 = .ok (.iload_n 1, 1) := by decide +kernel
theorem dX4_waitsFor_2 : decode cX4_waitsFor 2 = .ok (.invokevirtual 106, 3) := by decide +kernel
theorem dX4_waitsFor_5 : decode cX4_waitsFor 5 = .ok (.ifCond .ne 5, 3) := by decide +kernel
theorem dX4_waitsFor_8 : decode cX4_waitsFor 8 = .ok (.iconst (-1), 1) := by decide +kernel
theorem dX4_waitsFor_9 : decode cX4_waitsFor 9 = .ok (.ireturn, 1) := by decide +kernel
theorem dX4_waitsFor_10 : decode cX4_waitsFor 10 = .ok (.aload_n 0, 1) := by decide +kernel
theorem dX4_waitsFor_11 : decode cX4_waitsFor 11 = .ok (.getfield 10, 3) := by decide +kernel
theorem dX4_waitsFor_14 : decode cX4_waitsFor 14 = .ok (.getfield 75, 3) := by decide +kernel
theorem dX4_waitsFor_17 : decode cX4_waitsFor 17 = .ok (.iload_n 1, 1) := by decide +kernel
theorem dX4_waitsFor_18 : decode cX4_waitsFor 18 = .ok (.aaload, 1) := by decide +kernel
theorem dX4_waitsFor_19 : decode cX4_waitsFor 19 = .ok (.invokevirtual 183, 3) := by decide +kernel
theorem dX4_waitsFor_22 : decode cX4_waitsFor 22 = .ok (.ireturn, 1) := by decide +kernel
theorem dX4_isTroop_0 : decode cX4_isTroop 0 = .ok (.iload_n 1, 1) := by decide +kernel
theorem dX4_isTroop_1 : decode cX4_isTroop 1 = .ok (.ifCond .lt 18, 3) := by decide +kernel
theorem dX4_isTroop_4 : decode cX4_isTroop 4 = .ok (.iload_n 1, 1) := by decide +kernel
theorem dX4_isTroop_5 : decode cX4_isTroop 5 = .ok (.aload_n 0, 1) := by decide +kernel
theorem dX4_isTroop_6 : decode cX4_isTroop 6 = .ok (.getfield 10, 3) := by decide +kernel
theorem dX4_isTroop_9 : decode cX4_isTroop 9 = .ok (.getfield 99, 3) := by decide +kernel
theorem dX4_isTroop_12 : decode cX4_isTroop 12 = .ok (.if_icmp .ge 7, 3) := by decide +kernel
theorem dX4_isTroop_15 : decode cX4_isTroop 15 = .ok (.iconst 1, 1) := by decide +kernel
theorem dX4_isTroop_16 : decode cX4_isTroop 16 = .ok (.goto 4, 3) := by decide +kernel
theorem dX4_isTroop_19 : decode cX4_isTroop 19 = .ok (.iconst 0, 1) := by decide +kernel
theorem dX4_isTroop_20 : decode cX4_isTroop 20 = .ok (.ireturn, 1) := by decide +kernel
theorem dX4_isScout_0 : decode cX4_isScout 0 = .ok (.aload_n 0, 1) := by decide +kernel
theorem dX4_isScout_1 : decode cX4_isScout 1 = .ok (.iload_n 1, 1) := by decide +kernel
theorem dX4_isScout_2 : decode cX4_isScout 2 = .ok (.invokevirtual 106, 3) := by decide +kernel
theorem dX4_isScout_5 : decode cX4_isScout 5 = .ok (.ifCond .eq 23, 3) := by decide +kernel
theorem dX4_isScout_8 : decode cX4_isScout 8 = .ok (.aload_n 0, 1) := by decide +kernel
theorem dX4_isScout_9 : decode cX4_isScout 9 = .ok (.getfield 10, 3) := by decide +kernel
theorem dX4_isScout_12 : decode cX4_isScout 12 = .ok (.getfield 75, 3) := by decide +kernel
theorem dX4_isScout_15 : decode cX4_isScout 15 = .ok (.iload_n 1, 1) := by decide +kernel
theorem dX4_isScout_16 : decode cX4_isScout 16 = .ok (.aaload, 1) := by decide +kernel
theorem dX4_isScout_17 : decode cX4_isScout 17 = .ok (.iload_n 2, 1) := by decide +kernel
theorem dX4_isScout_18 : decode cX4_isScout 18 = .ok (.invokevirtual 234, 3) := by decide +kernel
theorem dX4_isScout_21 : decode cX4_isScout 21 = .ok (.ifCond .eq 7, 3) := by decide +kernel
theorem dX4_isScout_24 : decode cX4_isScout 24 = .ok (.iconst 1, 1) := by decide +kernel
theorem dX4_isScout_25 : decode cX4_isScout 25 = .ok (.goto 4, 3) := by decide +kernel
theorem dX4_isScout_28 : decode cX4_isScout 28 = .ok (.iconst 0, 1) := by decide +kernel
theorem dX4_isScout_29 : decode cX4_isScout 29 = .ok (.ireturn, 1) := by decide +kernel
theorem dX4_isSize_0 : decode cX4_isSize 0 = .ok (.iload_n 0, 1) := by decide +kernel
theorem dX4_isSize_1 : decode cX4_isSize 1 = .ok (.iconst 1, 1) := by decide +kernel
theorem dX4_isSize_2 : decode cX4_isSize 2 = .ok (.if_icmp .lt 13, 3) := by decide +kernel
theorem dX4_isSize_5 : decode cX4_isSize 5 = .ok (.iload_n 0, 1) := by decide +kernel
theorem dX4_isSize_6 : decode cX4_isSize 6 = .ok (.bipush 16, 2) := by decide +kernel
theorem dX4_isSize_8 : decode cX4_isSize 8 = .ok (.if_icmp .gt 7, 3) := by decide +kernel
theorem dX4_isSize_11 : decode cX4_isSize 11 = .ok (.iconst 1, 1) := by decide +kernel
theorem dX4_isSize_12 : decode cX4_isSize 12 = .ok (.goto 4, 3) := by decide +kernel
theorem dX4_isSize_15 : decode cX4_isSize 15 = .ok (.iconst 0, 1) := by decide +kernel
theorem dX4_isSize_16 : decode cX4_isSize 16 = .ok (.ireturn, 1) := by decide +kernel
