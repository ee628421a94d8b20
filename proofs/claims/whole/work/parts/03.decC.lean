theorem dX5_init_0 : decode cX5_init 0 = .ok (.aload_n 0, 1) := by decide +kernel
theorem dX5_init_1 : decode cX5_init 1 = .ok (.invokespecial 1, 3) := by decide +kernel
theorem dX5_init_4 : decode cX5_init 4 = .ok (.aload_n 0, 1) := by decide +kernel
theorem dX5_init_5 : decode cX5_init 5 = .ok (.sipush 275, 3) := by decide +kernel
theorem dX5_init_8 : decode cX5_init 8 = .ok (.newarray .int, 2) := by decide +kernel
theorem dX5_init_10 : decode cX5_init 10 = .ok (.putfield 7, 3) := by decide +kernel
theorem dX5_init_13 : decode cX5_init 13 = .ok (.aload_n 0, 1) := by decide +kernel
theorem dX5_init_14 : decode cX5_init 14 = .ok (.sipush 1650, 3) := by decide +kernel
theorem dX5_init_17 : decode cX5_init 17 = .ok (.newarray .int, 2) := by decide +kernel
theorem dX5_init_19 : decode cX5_init 19 = .ok (.putfield 13, 3) := by decide +kernel
theorem dX5_init_22 : decode cX5_init 22 = .ok (.aload_n 0, 1) := by decide +kernel
theorem dX5_init_23 : decode cX5_init 23 = .ok (.sipush 275, 3) := by decide +kernel
theorem dX5_init_26 : decode cX5_init 26 = .ok (.newarray .int, 2) := by decide +kernel
theorem dX5_init_28 : decode cX5_init 28 = .ok (.putfield 16, 3) := by decide +kernel
theorem dX5_init_31 : decode cX5_init 31 = .ok (.aload_n 0, 1) := by decide +kernel
theorem dX5_init_32 : decode cX5_init 32 = .ok (.sipush 275, 3) := by decide +kernel
theorem dX5_init_35 : decode cX5_init 35 = .ok (.newarray .int, 2) := by decide +kernel
theorem dX5_init_37 : decode cX5_init 37 = .ok (.putfield 19, 3) := by decide +kernel
theorem dX5_init_40 : decode cX5_init 40 = .ok (.aload_n 0, 1) := by decide +kernel
theorem dX5_init_41 : decode cX5_init 41 = .ok (.sipush 550, 3) := by decide +kernel
theorem dX5_init_44 : decode cX5_init 44 = .ok (.newarray .int, 2) := by decide +kernel
theorem dX5_init_46 : decode cX5_init 46 = .ok (.putfield 22, 3) := by decide +kernel
theorem dX5_init_49 : decode cX5_init 49 = .ok (.aload_n 0, 1) := by decide +kernel
theorem dX5_init_50 : decode cX5_init 50 = .ok (.iconst 2, 1) := by decide +kernel
theorem dX5_init_51 : decode cX5_init 51 = .ok (.newarray .boolean, 2) := by decide +kernel
theorem dX5_init_53 : decode cX5_init 53 = .ok (.putfield 25, 3) := by decide +kernel
theorem dX5_init_56 : decode cX5_init 56 = .ok (.aload_n 0, 1) := by decide +kernel
theorem dX5_init_57 : decode cX5_init 57 = .ok (.bipush 80, 2) := by decide +kernel
theorem dX5_init_59 : decode cX5_init 59 = .ok (.newarray .int, 2) := by decide +kernel
theorem dX5_init_61 : decode cX5_init 61 = .ok (.putfield 29, 3) := by decide +kernel
theorem dX5_init_64 : decode cX5_init 64 = .ok (.aload_n 0, 1) := by decide +kernel
theorem dX5_init_65 : decode cX5_init 65 = .ok (.bipush 8, 2) := by decide +kernel
theorem dX5_init_67 : decode cX5_init 67 = .ok (.newarray .int, 2) := by decide +kernel
theorem dX5_init_69 : decode cX5_init 69 = .ok (.putfield 32, 3) := by decide +kernel
theorem dX5_init_72 : decode cX5_init 72 = .ok (.aload_n 0, 1) := by decide +kernel
theorem dX5_init_73 : decode cX5_init 73 = .ok (.getfield 7, 3) := by decide +kernel
theorem dX5_init_76 : decode cX5_init 76 = .ok (.iconst 0, 1) := by decide +kernel
theorem dX5_init_77 : decode cX5_init 77 = .ok (.bipush 20, 2) := by decide +kernel
theorem dX5_init_79 : decode cX5_init 79 = .ok (.iastore, 1) := by decide +kernel
theorem dX5_init_80 : decode cX5_init 80 = .ok (.aload_n 0, 1) := by decide +kernel
theorem dX5_init_81 : decode cX5_init 81 = .ok (.getfield 7, 3) := by decide +kernel
theorem dX5_init_84 : decode cX5_init 84 = .ok (.iconst 1, 1) := by decide +kernel
theorem dX5_init_85 : decode cX5_init 85 = .ok (.bipush 30, 2) := by decide +kernel
theorem dX5_init_87 : decode cX5_init 87 = .ok (.iastore, 1) := by decide +kernel
theorem dX5_init_88 : decode cX5_init 88 = .ok (.return_, 1) := by decide +kernel
theorem dX5_in_0 : decode cX5_in 0 = .ok (.lload_n 0, 1) := by decide +kernel
theorem dX5_in_1 : decode cX5_in 1 = .ok (.iload_n 2, 1) := by decide +kernel
theorem dX5_in_2 : decode cX5_in 2 = .ok (.i2l, 1) := by decide +kernel
theorem dX5_in_3 : decode cX5_in 3 = .ok (.lcmp, 1) := by decide +kernel
theorem dX5_in_4 : decode cX5_in 4 = .ok (.ifCond .lt 14, 3) := by decide +kernel
theorem dX5_in_7 : decode cX5_in 7 = .ok (.lload_n 0, 1) := by decide +kernel
theorem dX5_in_8 : decode cX5_in 8 = .ok (.iload_n 3, 1) := by decide +kernel
theorem dX5_in_9 : decode cX5_in 9 = .ok (.i2l, 1) := by decide +kernel
theorem dX5_in_10 : decode cX5_in 10 = .ok (.lcmp, 1) := by decide +kernel
theorem dX5_in_11 : decode cX5_in 11 = .ok (.ifCond .gt 7, 3) := by decide +kernel
theorem dX5_in_14 : decode cX5_in 14 = .ok (.iconst 1, 1) := by decide +kernel
theorem dX5_in_15 : decode cX5_in 15 = .ok (.goto 4, 3) := by decide +kernel
theorem dX5_in_18 : decode cX5_in 18 = .ok (.iconst 0, 1) := by decide +kernel
theorem dX5_in_19 : decode cX5_in 19 = .ok (.ireturn, 1) := by decide +kernel
theorem dX5_isTroop_0 : decode cX5_isTroop 0 = .ok (.iload_n 1, 1) := by decide +kernel
theorem dX5_isTroop_1 : decode cX5_isTroop 1 = .ok (.i2l, 1) := by decide +kernel
theorem dX5_isTroop_2 : decode cX5_isTroop 2 = .ok (.iconst 0, 1) := by decide +kernel
theorem dX5_isTroop_3 : decode cX5_isTroop 3 = .ok (.aload_n 0, 1) := by decide +kernel
theorem dX5_isTroop_4 : decode cX5_isTroop 4 = .ok (.getfield 7, 3) := by decide +kernel
theorem dX5_isTroop_7 : decode cX5_isTroop 7 = .ok (.iconst 3, 1) := by decide +kernel
theorem dX5_isTroop_8 : decode cX5_isTroop 8 = .ok (.iaload, 1) := by decide +kernel
theorem dX5_isTroop_9 : decode cX5_isTroop 9 = .ok (.iconst 1, 1) := by decide +kernel
theorem dX5_isTroop_10 : decode cX5_isTroop 10 = .ok (.isub, 1) := by decide +kernel
theorem dX5_isTroop_11 : decode cX5_isTroop 11 = .ok (.invokestatic 35, 3) := by decide +kernel
theorem dX5_isTroop_14 : decode cX5_isTroop 14 = .ok (.ireturn, 1) := by decide +kernel
theorem dX5_its_0 : decode cX5_its 0 = .ok (.aload_n 0, 1) := by decide +kernel
theorem dX5_its_1 : decode cX5_its 1 = .ok (.getfield 7, 3) := by decide +kernel
theorem dX5_its_4 : decode cX5_its 4 = .ok (.iconst 5, 1) := by decide +kernel
theorem dX5_its_5 : decode cX5_its 5 = .ok (.bipush 54, 2) := by decide +kernel
theorem dX5_its_7 : decode cX5_its 7 = .ok (.iload_n 1, 1) := by decide +kernel
theorem dX5_its_8 : decode cX5_its 8 = .ok (.imul, 1) := by decide +kernel
theorem dX5_its_9 : decode cX5_its 9 = .ok (.iadd, 1) := by decide +kernel
theorem dX5_its_10 : decode cX5_its 10 = .ok (.iload_n 2, 1) := by decide +kernel
theorem dX5_its_11 : decode cX5_its 11 = .ok (.iadd, 1) := by decide +kernel
theorem dX5_its_12 : decode cX5_its 12 = .ok (.iaload, 1) := by decide +kernel
theorem dX5_its_13 : decode cX5_its 13 = .ok (.ireturn, 1) := by decide +kernel
theorem dX5_lay_0 : decode cX5_lay 0 = .ok (.aload_n 0, 1) := by decide +kernel
theorem dX5_lay_1 : decode cX5_lay 1 = .ok (.getfield 7, 3) := by decide +kernel
theorem dX5_lay_4 : decode cX5_lay 4 = .ok (.iconst 5, 1) := by decide +kernel
theorem dX5_lay_5 : decode cX5_lay 5 = .ok (.bipush 54, 2) := by decide +kernel
theorem dX5_lay_7 : decode cX5_lay 7 = .ok (.iload_n 1, 1) := by decide +kernel
theorem dX5_lay_8 : decode cX5_lay 8 = .ok (.imul, 1) := by decide +kernel
theorem dX5_lay_9 : decode cX5_lay 9 = .ok (.iadd, 1) := by decide +kernel
theorem dX5_lay_10 : decode cX5_lay 10 = .ok (.iload_n 2, 1) := by decide +kernel
theorem dX5_lay_11 : decode cX5_lay 11 = .ok (.iadd, 1) := by decide +kernel
theorem dX5_lay_12 : decode cX5_lay 12 = .ok (.iload_n 3, 1) := by decide +kernel
theorem dX5_lay_13 : decode cX5_lay 13 = .ok (.iastore, 1) := by decide +kernel
theorem dX5_lay_14 : decode cX5_lay 14 = .ok (.return_, 1) := by decide +kernel
theorem dX5_scout_0 : decode cX5_scout 0 = .ok (.aload_n 0, 1) := by decide +kernel
theorem dX5_scout_1 : decode cX5_scout 1 = .ok (.getfield 7, 3) := by decide +kernel
theorem dX5_scout_4 : decode cX5_scout 4 = .ok (.iconst 5, 1) := by decide +kernel
theorem dX5_scout_5 : decode cX5_scout 5 = .ok (.bipush 54, 2) := by decide +kernel
theorem dX5_scout_7 : decode cX5_scout 7 = .ok (.iload_n 1, 1) := by decide +kernel
theorem dX5_scout_8 : decode cX5_scout 8 = .ok (.imul, 1) := by decide +kernel
theorem dX5_scout_9 : decode cX5_scout 9 = .ok (.iadd, 1) := by decide +kernel
theorem dX5_scout_10 : decode cX5_scout 10 = .ok (.bipush 6, 2) := by decide +kernel
theorem dX5_scout_12 : decode cX5_scout 12 = .ok (.iadd, 1) := by decide +kernel
theorem dX5_scout_13 : decode cX5_scout 13 = .ok (.iconst 3, 1) := by decide +kernel
theorem dX5_scout_14 : decode cX5_scout 14 = .ok (.iload_n 2, 1) := by decide +kernel
theorem dX5_scout_15 : decode cX5_scout 15 = .ok (.imul, 1) := by decide +kernel
theorem dX5_scout_16 : decode cX5_scout 16 = .ok (.iadd, 1) := by decide +kernel
theorem dX5_scout_17 : decode cX5_scout 17 = .ok (.iload_n 3, 1) := by decide +kernel
theorem dX5_scout_18 : decode cX5_scout 18 = .ok (.iadd, 1) := by decide +kernel
theorem dX5_scout_19 : decode cX5_scout 19 = .ok (.iaload, 1) := by decide +kernel
theorem dX5_scout_20 : decode cX5_scout 20 = .ok (.ireturn, 1) := by decide +kernel
theorem dX5_layScout_0 : decode cX5_layScout 0 = .ok (.aload_n 0, 1) := by decide +kernel
theorem dX5_layScout_1 : decode cX5_layScout 1 = .ok (.getfield 7, 3) := by decide +kernel
theorem dX5_layScout_4 : decode cX5_layScout 4 = .ok (.iconst 5, 1) := by decide +kernel
theorem dX5_layScout_5 : decode cX5_layScout 5 = .ok (.bipush 54, 2) := by decide +kernel
theorem dX5_layScout_7 : decode cX5_layScout 7 = .ok (.iload_n 1, 1) := by decide +kernel
theorem dX5_layScout_8 : decode cX5_layScout 8 = .ok (.imul, 1) := by decide +kernel
theorem dX5_layScout_9 : decode cX5_layScout 9 = .ok (.iadd, 1) := by decide +kernel
theorem dX5_layScout_10 : decode cX5_layScout 10 = .ok (.bipush 6, 2) := by decide +kernel
theorem dX5_layScout_12 : decode cX5_layScout 12 = .ok (.iadd, 1) := by decide +kernel
theorem dX5_layScout_13 : decode cX5_layScout 13 = .ok (.iconst 3, 1) := by decide +kernel
theorem dX5_layScout_14 : decode cX5_layScout 14 = .ok (.iload_n 2, 1) := by decide +kernel
theorem dX5_layScout_15 : decode cX5_layScout 15 = .ok (.imul, 1) := by decide +kernel
theorem dX5_layScout_16 : decode cX5_layScout 16 = .ok (.iadd, 1) := by decide +kernel
theorem dX5_layScout_17 : decode cX5_layScout 17 = .ok (.iconst 0, 1) := by decide +kernel
theorem dX5_layScout_18 : decode cX5_layScout 18 = .ok (.iadd, 1) := by decide +kernel
theorem dX5_layScout_19 : decode cX5_layScout 19 = .ok (.iload_n 3, 1) := by decide +kernel
theorem dX5_layScout_20 : decode cX5_layScout 20 = .ok (.iastore, 1) := by decide +kernel
theorem dX5_layScout_21 : decode cX5_layScout 21 = .ok (.aload_n 0, 1) := by decide +kernel
theorem dX5_layScout_22 : decode cX5_layScout 22 = .ok (.getfield 7, 3) := by decide +kernel
theorem dX5_layScout_25 : decode cX5_layScout 25 = .ok (.iconst 5, 1) := by decide +kernel
theorem dX5_layScout_26 : decode cX5_layScout 26 = .ok (.bipush 54, 2) := by decide +kernel
theorem dX5_layScout_28 : decode cX5_layScout 28 = .ok (.iload_n 1, 1) := by decide +kernel
theorem dX5_layScout_29 : decode cX5_layScout 29 = .ok (.imul, 1) := by decide +kernel
theorem dX5_layScout_30 : decode cX5_layScout 30 = .ok (.iadd, 1) := by decide +kernel
theorem dX5_layScout_31 : decode cX5_layScout 31 = .ok (.bipush 6, 2) := by decide +kernel
theorem dX5_layScout_33 : decode cX5_layScout 33 = .ok (.iadd, 1) := by decide +kernel
theorem dX5_layScout_34 : decode cX5_layScout 34 = .ok (.iconst 3, 1) := by decide +kernel
theorem dX5_layScout_35 : decode cX5_layScout 35 = .ok (.iload_n 2, 1) := by decide +kernel
theorem dX5_layScout_36 : decode cX5_layScout 36 = .ok (.imul, 1) := by decide +kernel
theorem dX5_layScout_37 : decode cX5_layScout 37 = .ok (.iadd, 1) := by decide +kernel
theorem dX5_layScout_38 : decode cX5_layScout 38 = .ok (.iconst 1, 1) := by decide +kernel
theorem dX5_layScout_39 : decode cX5_layScout 39 = .ok (.iadd, 1) := by decide +kernel
theorem dX5_layScout_40 : decode cX5_layScout 40 = .ok (.iload 4, 2) := by decide +kernel
theorem dX5_layScout_42 : decode cX5_layScout 42 = .ok (.iastore, 1) := by decide +kernel
theorem dX5_layScout_43 : decode cX5_layScout 43 = .ok (.return_, 1) := by decide +kernel
theorem dX5_isScout_0 : decode cX5_isScout 0 = .ok (.aload_n 0, 1) := by decide +kernel
theorem dX5_isScout_1 : decode cX5_isScout 1 = .ok (.iload_n 1, 1) := by decide +kernel
theorem dX5_isScout_2 : decode cX5_isScout 2 = .ok (.invokevirtual 39, 3) := by decide +kernel
theorem dX5_isScout_5 : decode cX5_isScout 5 = .ok (.ifCond .eq 24, 3) := by decide +kernel
theorem dX5_isScout_8 : decode cX5_isScout 8 = .ok (.iload_n 2, 1) := by decide +kernel
theorem dX5_isScout_9 : decode cX5_isScout 9 = .ok (.i2l, 1) := by decide +kernel
theorem dX5_isScout_10 : decode cX5_isScout 10 = .ok (.iconst 0, 1) := by decide +kernel
theorem dX5_isScout_11 : decode cX5_isScout 11 = .ok (.aload_n 0, 1) := by decide +kernel
theorem dX5_isScout_12 : decode cX5_isScout 12 = .ok (.iload_n 1, 1) := by decide +kernel
theorem dX5_isScout_13 : decode cX5_isScout 13 = .ok (.iconst 0, 1) := by decide +kernel
theorem dX5_isScout_14 : decode cX5_isScout 14 = .ok (.invokevirtual 43, 3) := by decide +kernel
theorem dX5_isScout_17 : decode cX5_isScout 17 = .ok (.iconst 1, 1) := by decide +kernel
theorem dX5_isScout_18 : decode cX5_isScout 18 = .ok (.isub, 1) := by decide +kernel
theorem dX5_isScout_19 : decode cX5_isScout 19 = .ok (.invokestatic 35, 3) := by decide +kernel
theorem dX5_isScout_22 : decode cX5_isScout 22 = .ok (.ifCond .eq 7, 3) := by decide +kernel
theorem dX5_isScout_25 : decode cX5_isScout 25 = .ok (.iconst 1, 1) := by decide +kernel
theorem dX5_isScout_26 : decode cX5_isScout 26 = .ok (.goto 4, 3) := by decide +kernel
theorem dX5_isScout_29 : decode cX5_isScout 29 = .ok (.iconst 0, 1) := by decide +kernel
theorem dX5_isScout_30 : decode cX5_isScout 30 = .ok (.ireturn, 1) := by decide +kernel
theorem dX5_isStruck_0 : decode cX5_isStruck 0 = .ok (.aload_n 0, 1) := by decide +kernel
theorem dX5_isStruck_1 : decode cX5_isStruck 1 = .ok (.iload_n 1, 1) := by decide +kernel
theorem dX5_isStruck_2 : decode cX5_isStruck 2 = .ok (.iconst 5, 1) := by decide +kernel
theorem dX5_isStruck_3 : decode cX5_isStruck 3 = .ok (.invokevirtual 43, 3) := by decide +kernel
theorem dX5_isStruck_6 : decode cX5_isStruck 6 = .ok (.iload_n 2, 1) := by decide +kernel
theorem dX5_isStruck_7 : decode cX5_isStruck 7 = .ok (.ishr, 1) := by decide +kernel
theorem dX5_isStruck_8 : decode cX5_isStruck 8 = .ok (.iconst 1, 1) := by decide +kernel
theorem dX5_isStruck_9 : decode cX5_isStruck 9 = .ok (.iand, 1) := by decide +kernel
theorem dX5_isStruck_10 : decode cX5_isStruck 10 = .ok (.iconst 1, 1) := by decide +kernel
theorem dX5_isStruck_11 : decode cX5_isStruck 11 = .ok (.if_icmp .ne 7, 3) := by decide +kernel
theorem dX5_isStruck_14 : decode cX5_isStruck 14 = .ok (.iconst 1, 1) := by decide +kernel
theorem dX5_isStruck_15 : decode cX5_isStruck 15 = .ok (.goto 4, 3) := by decide +kernel
theorem dX5_isStruck_18 : decode cX5_isStruck 18 = .ok (.iconst 0, 1) := by decide +kernel
theorem dX5_isStruck_19 : decode cX5_isStruck 19 = .ok (.ireturn, 1) := by decide +kernel
theorem dX5_those_0 : decode cX5_those 0 = .ok (.iconst 0, 1) := by decide +kernel
theorem dX5_those_1 : decode cX5_those 1 = .ok (.istore_n 3, 1) := by decide +kernel
theorem dX5_those_2 : decode cX5_those 2 = .ok (.iconst 0, 1) := by decide +kernel
theorem dX5_those_3 : decode cX5_those 3 = .ok (.istore 4, 2) := by decide +kernel
theorem dX5_those_5 : decode cX5_those 5 = .ok (.iload 4, 2) := by decide +kernel
theorem dX5_those_7 : decode cX5_those 7 = .ok (.bipush 16, 2) := by decide +kernel
theorem dX5_those_9 : decode cX5_those 9 = .ok (.if_icmp .ge 60, 3) := by decide +kernel
theorem dX5_those_12 : decode cX5_those 12 = .ok (.iload 4, 2) := by decide +kernel
theorem dX5_those_14 : decode cX5_those 14 = .ok (.aload_n 0, 1) := by decide +kernel
theorem dX5_those_15 : decode cX5_those 15 = .ok (.iload_n 1, 1) := by decide +kernel
theorem dX5_those_16 : decode cX5_those 16 = .ok (.iconst 0, 1) := by decide +kernel
theorem dX5_those_17 : decode cX5_those 17 = .ok (.invokevirtual 43, 3) := by decide +kernel
theorem dX5_those_20 : decode cX5_those 20 = .ok (.if_icmp .lt 8, 3) := by decide +kernel
theorem dX5_those_23 : decode cX5_those 23 = .ok (.iload_n 2, 1) := by decide +kernel
theorem dX5_those_24 : decode cX5_those 24 = .ok (.iconst 3, 1) := by decide +kernel
theorem dX5_those_25 : decode cX5_those 25 = .ok (.if_icmp .ne 19, 3) := by decide +kernel
theorem dX5_those_28 : decode cX5_those 28 = .ok (.aload_n 0, 1) := by decide +kernel
theorem dX5_those_29 : decode cX5_those 29 = .ok (.iload_n 1, 1) := by decide +kernel
theorem dX5_those_30 : decode cX5_those 30 = .ok (.iload 4, 2) := by decide +kernel
theorem dX5_those_32 : decode cX5_those 32 = .ok (.iconst 0, 1) := by decide +kernel
theorem dX5_those_33 : decode cX5_those 33 = .ok (.invokevirtual 47, 3) := by decide +kernel
theorem dX5_those_36 : decode cX5_those 36 = .ok (.iload_n 2, 1) := by decide +kernel
theorem dX5_those_37 : decode cX5_those 37 = .ok (.if_icmp .ne 7, 3) := by decide +kernel
theorem dX5_those_40 : decode cX5_those 40 = .ok (.iconst 1, 1) := by decide +kernel
theorem dX5_those_41 : decode cX5_those 41 = .ok (.goto 4, 3) := by decide +kernel
theorem dX5_those_44 : decode cX5_those 44 = .ok (.iconst 0, 1) := by decide +kernel
theorem dX5_those_45 : decode cX5_those 45 = .ok (.istore 5, 2) := by decide +kernel
theorem dX5_those_47 : decode cX5_those 47 = .ok (.iload_n 3, 1) := by decide +kernel
theorem dX5_those_48 : decode cX5_those 48 = .ok (.iload 5, 2) := by decide +kernel
theorem dX5_those_50 : decode cX5_those 50 = .ok (.ifCond .eq 10, 3) := by decide +kernel
theorem dX5_those_53 : decode cX5_those 53 = .ok (.iconst 1, 1) := by decide +kernel
theorem dX5_those_54 : decode cX5_those 54 = .ok (.iload 4, 2) := by decide +kernel
theorem dX5_those_56 : decode cX5_those 56 = .ok (.ishl, 1) := by decide +kernel
theorem dX5_those_57 : decode cX5_those 57 = .ok (.goto 4, 3) := by decide +kernel
theorem dX5_those_60 : decode cX5_those 60 = .ok (.iconst 0, 1) := by decide +kernel
theorem dX5_those_61 : decode cX5_those 61 = .ok (.ior, 1) := by decide +kernel
theorem dX5_those_62 : decode cX5_those 62 = .ok (.istore_n 3, 1) := by decide +kernel
theorem dX5_those_63 : decode cX5_those 63 = .ok (.iinc 4 1, 3) := by decide +kernel
theorem dX5_those_66 : decode cX5_those 66 = .ok (.goto (-61), 3) := by decide +kernel
theorem dX5_those_69 : decode cX5_those 69 = .ok (.iload_n 3, 1) := by decide +kernel
theorem dX5_those_70 : decode cX5_those 70 = .ok (.ireturn, 1) := by decide +kernel
theorem dX5_size_0 : decode cX5_size 0 = .ok (.iconst 0, 1) := by decide +kernel
theorem dX5_size_1 : decode cX5_size 1 = .ok (.istore_n 1, 1) := by decide +kernel
theorem dX5_size_2 : decode cX5_size 2 = .ok (.iconst 0, 1) := by decide +kernel
theorem dX5_size_3 : decode cX5_size 3 = .ok (.istore_n 2, 1) := by decide +kernel
theorem dX5_size_4 : decode cX5_size 4 = .ok (.iload_n 2, 1) := by decide +kernel
theorem dX5_size_5 : decode cX5_size 5 = .ok (.bipush 16, 2) := by decide +kernel
theorem dX5_size_7 : decode cX5_size 7 = .ok (.if_icmp .ge 17, 3) := by decide +kernel
theorem dX5_size_10 : decode cX5_size 10 = .ok (.iload_n 1, 1) := by decide +kernel
theorem dX5_size_11 : decode cX5_size 11 = .ok (.iload_n 0, 1) := by decide +kernel
theorem dX5_size_12 : decode cX5_size 12 = .ok (.iload_n 2, 1) := by decide +kernel
theorem dX5_size_13 : decode cX5_size 13 = .ok (.ishr, 1) := by decide +kernel
theorem dX5_size_14 : decode cX5_size 14 = .ok (.iconst 1, 1) := by decide +kernel
theorem dX5_size_15 : decode cX5_size 15 = .ok (.iand, 1) := by decide +kernel
theorem dX5_size_16 : decode cX5_size 16 = .ok (.iadd, 1) := by decide +kernel
theorem dX5_size_17 : decode cX5_size 17 = .ok (.istore_n 1, 1) := by decide +kernel
theorem dX5_size_18 : decode cX5_size 18 = .ok (.iinc 2 1, 3) := by decide +kernel
theorem dX5_size_21 : decode cX5_size 21 = .ok (.goto (-17), 3) := by decide +kernel
theorem dX5_size_24 : decode cX5_size 24 = .ok (.iload_n 1, 1) := by decide +kernel
theorem dX5_size_25 : decode cX5_size 25 = .ok (.ireturn, 1) := by decide +kernel
theorem dX5_awaited_0 : decode cX5_awaited 0 = .ok (.iconst 0, 1) := by decide +kernel
theorem dX5_awaited_1 : decode cX5_awaited 1 = .ok (.istore_n 2, 1) := by decide +kernel
theorem dX5_awaited_2 : decode cX5_awaited 2 = .ok (.iconst 0, 1) := by decide +kernel
theorem dX5_awaited_3 : decode cX5_awaited 3 = .ok (.istore_n 3, 1) := by decide +kernel
theorem dX5_awaited_4 : decode cX5_awaited 4 = .ok (.iload_n 3, 1) := by decide +kernel
theorem dX5_awaited_5 : decode cX5_awaited 5 = .ok (.aload_n 0, 1) := by decide +kernel
theorem dX5_awaited_6 : decode cX5_awaited 6 = .ok (.iload_n 1, 1) := by decide +kernel
theorem dX5_awaited_7 : decode cX5_awaited 7 = .ok (.iconst 0, 1) := by decide +kernel
theorem dX5_awaited_8 : decode cX5_awaited 8 = .ok (.invokevirtual 43, 3) := by decide +kernel
theorem dX5_awaited_11 : decode cX5_awaited 11 = .ok (.if_icmp .ge 39, 3) := by decide +kernel
theorem dX5_awaited_14 : decode cX5_awaited 14 = .ok (.iload_n 2, 1) := by decide +kernel
theorem dX5_awaited_15 : decode cX5_awaited 15 = .ok (.aload_n 0, 1) := by decide +kernel
theorem dX5_awaited_16 : decode cX5_awaited 16 = .ok (.iload_n 1, 1) := by decide +kernel
theorem dX5_awaited_17 : decode cX5_awaited 17 = .ok (.iload_n 3, 1) := by decide +kernel
theorem dX5_awaited_18 : decode cX5_awaited 18 = .ok (.iconst 0, 1) := by decide +kernel
theorem dX5_awaited_19 : decode cX5_awaited 19 = .ok (.invokevirtual 47, 3) := by decide +kernel
theorem dX5_awaited_22 : decode cX5_awaited 22 = .ok (.iconst 1, 1) := by decide +kernel
theorem dX5_awaited_23 : decode cX5_awaited 23 = .ok (.if_icmp .eq 18, 3) := by decide +kernel
theorem dX5_awaited_26 : decode cX5_awaited 26 = .ok (.aload_n 0, 1) := by decide +kernel
theorem dX5_awaited_27 : decode cX5_awaited 27 = .ok (.iload_n 1, 1) := by decide +kernel
theorem dX5_awaited_28 : decode cX5_awaited 28 = .ok (.iload_n 3, 1) := by decide +kernel
theorem dX5_awaited_29 : decode cX5_awaited 29 = .ok (.invokevirtual 51, 3) := by decide +kernel
theorem dX5_awaited_32 : decode cX5_awaited 32 = .ok (.ifCond .ne 9, 3) := by decide +kernel
theorem dX5_awaited_35 : decode cX5_awaited 35 = .ok (.iconst 1, 1) := by decide +kernel
theorem dX5_awaited_36 : decode cX5_awaited 36 = .ok (.iload_n 3, 1) := by decide +kernel
theorem dX5_awaited_37 : decode cX5_awaited 37 = .ok (.ishl, 1) := by decide +kernel
theorem dX5_awaited_38 : decode cX5_awaited 38 = .ok (.goto 4, 3) := by decide +kernel
theorem dX5_awaited_41 : decode cX5_awaited 41 = .ok (.iconst 0, 1) := by decide +kernel
theorem dX5_awaited_42 : decode cX5_awaited 42 = .ok (.ior, 1) := by decide +kernel
theorem dX5_awaited_43 : decode cX5_awaited 43 = .ok (.istore_n 2, 1) := by decide +kernel
theorem dX5_awaited_44 : decode cX5_awaited 44 = .ok (.iinc 3 1, 3) := by decide +kernel
theorem dX5_awaited_47 : decode cX5_awaited 47 = .ok (.goto (-43), 3) := by decide +kernel
theorem dX5_awaited_50 : decode cX5_awaited 50 = .ok (.iload_n 2, 1) := by decide +kernel
theorem dX5_awaited_51 : decode cX5_awaited 51 = .ok (.ireturn, 1) := by decide +kernel
theorem dX5_remember_0 : decode cX5_remember 0 = .ok (.iconst 0, 1) := by decide +kernel
theorem dX5_remember_1 : decode cX5_remember 1 = .ok (.istore_n 1, 1) := by decide +kernel
theorem dX5_remember_2 : decode cX5_remember 2 = .ok (.iload_n 1, 1) := by decide +kernel
theorem dX5_remember_3 : decode cX5_remember 3 = .ok (.sipush 275, 3) := by decide +kernel
theorem dX5_remember_6 : decode cX5_remember 6 = .ok (.if_icmp .ge 21, 3) := by decide +kernel
theorem dX5_remember_9 : decode cX5_remember 9 = .ok (.aload_n 0, 1) := by decide +kernel
theorem dX5_remember_10 : decode cX5_remember 10 = .ok (.getfield 16, 3) := by decide +kernel
theorem dX5_remember_13 : decode cX5_remember 13 = .ok (.iload_n 1, 1) := by decide +kernel
theorem dX5_remember_14 : decode cX5_remember 14 = .ok (.aload_n 0, 1) := by decide +kernel
theorem dX5_remember_15 : decode cX5_remember 15 = .ok (.getfield 7, 3) := by decide +kernel
theorem dX5_remember_18 : decode cX5_remember 18 = .ok (.iload_n 1, 1) := by decide +kernel
theorem dX5_remember_19 : decode cX5_remember 19 = .ok (.iaload, 1) := by decide +kernel
theorem dX5_remember_20 : decode cX5_remember 20 = .ok (.iastore, 1) := by decide +kernel
theorem dX5_remember_21 : decode cX5_remember 21 = .ok (.iinc 1 1, 3) := by decide +kernel
theorem dX5_remember_24 : decode cX5_remember 24 = .ok (.goto (-22), 3) := by decide +kernel
theorem dX5_remember_27 : decode cX5_remember 27 = .ok (.return_, 1) := by decide +kernel
theorem dX5_record_0 : decode cX5_record 0 = .ok (.iload_n 1, 1) := by decide +kernel
theorem dX5_record_1 : decode cX5_record 1 = .ok (.ifCond .ge 5, 3) := by decide +kernel
theorem dX5_record_4 : decode cX5_record 4 = .ok (.iload_n 1, 1) := by decide +kernel
theorem dX5_record_5 : decode cX5_record 5 = .ok (.ireturn, 1) := by decide +kernel
theorem dX5_record_6 : decode cX5_record 6 = .ok (.aload_n 0, 1) := by decide +kernel
theorem dX5_record_7 : decode cX5_record 7 = .ok (.getfield 55, 3) := by decide +kernel
theorem dX5_record_10 : decode cX5_record 10 = .ok (.bipush 6, 2) := by decide +kernel
theorem dX5_record_12 : decode cX5_record 12 = .ok (.if_icmp .ne 44, 3) := by decide +kernel
theorem dX5_record_15 : decode cX5_record 15 = .ok (.iconst 0, 1) := by decide +kernel
theorem dX5_record_16 : decode cX5_record 16 = .ok (.istore_n 2, 1) := by decide +kernel
theorem dX5_record_17 : decode cX5_record 17 = .ok (.iload_n 2, 1) := by decide +kernel
theorem dX5_record_18 : decode cX5_record 18 = .ok (.sipush 1375, 3) := by decide +kernel
theorem dX5_record_21 : decode cX5_record 21 = .ok (.if_icmp .ge 25, 3) := by decide +kernel
theorem dX5_record_24 : decode cX5_record 24 = .ok (.aload_n 0, 1) := by decide +kernel
theorem dX5_record_25 : decode cX5_record 25 = .ok (.getfield 13, 3) := by decide +kernel
theorem dX5_record_28 : decode cX5_record 28 = .ok (.iload_n 2, 1) := by decide +kernel
theorem dX5_record_29 : decode cX5_record 29 = .ok (.aload_n 0, 1) := by decide +kernel
theorem dX5_record_30 : decode cX5_record 30 = .ok (.getfield 13, 3) := by decide +kernel
theorem dX5_record_33 : decode cX5_record 33 = .ok (.sipush 275, 3) := by decide +kernel
theorem dX5_record_36 : decode cX5_record 36 = .ok (.iload_n 2, 1) := by decide +kernel
theorem dX5_record_37 : decode cX5_record 37 = .ok (.iadd, 1) := by decide +kernel
theorem dX5_record_38 : decode cX5_record 38 = .ok (.iaload, 1) := by decide +kernel
theorem dX5_record_39 : decode cX5_record 39 = .ok (.iastore, 1) := by decide +kernel
theorem dX5_record_40 : decode cX5_record 40 = .ok (.iinc 2 1, 3) := by decide +kernel
theorem dX5_record_43 : decode cX5_record 43 = .ok (.goto (-26), 3) := by decide +kernel
theorem dX5_record_46 : decode cX5_record 46 = .ok (.aload_n 0, 1) := by decide +kernel
theorem dX5_record_47 : decode cX5_record 47 = .ok (.dup, 1) := by decide +kernel
theorem dX5_record_48 : decode cX5_record 48 = .ok (.getfield 55, 3) := by decide +kernel
theorem dX5_record_51 : decode cX5_record 51 = .ok (.iconst 1, 1) := by decide +kernel
theorem dX5_record_52 : decode cX5_record 52 = .ok (.isub, 1) := by decide +kernel
theorem dX5_record_53 : decode cX5_record 53 = .ok (.putfield 55, 3) := by decide +kernel
theorem dX5_record_56 : decode cX5_record 56 = .ok (.iconst 0, 1) := by decide +kernel
theorem dX5_record_57 : decode cX5_record 57 = .ok (.istore_n 2, 1) := by decide +kernel
theorem dX5_record_58 : decode cX5_record 58 = .ok (.iload_n 2, 1) := by decide +kernel
theorem dX5_record_59 : decode cX5_record 59 = .ok (.sipush 275, 3) := by decide +kernel
theorem dX5_record_62 : decode cX5_record 62 = .ok (.if_icmp .ge 30, 3) := by decide +kernel
theorem dX5_record_65 : decode cX5_record 65 = .ok (.aload_n 0, 1) := by decide +kernel
theorem dX5_record_66 : decode cX5_record 66 = .ok (.getfield 13, 3) := by decide +kernel
theorem dX5_record_69 : decode cX5_record 69 = .ok (.sipush 275, 3) := by decide +kernel
theorem dX5_record_72 : decode cX5_record 72 = .ok (.aload_n 0, 1) := by decide +kernel
theorem dX5_record_73 : decode cX5_record 73 = .ok (.getfield 55, 3) := by decide +kernel
theorem dX5_record_76 : decode cX5_record 76 = .ok (.imul, 1) := by decide +kernel
theorem dX5_record_77 : decode cX5_record 77 = .ok (.iload_n 2, 1) := by decide +kernel
theorem dX5_record_78 : decode cX5_record 78 = .ok (.iadd, 1) := by decide +kernel
theorem dX5_record_79 : decode cX5_record 79 = .ok (.aload_n 0, 1) := by decide +kernel
theorem dX5_record_80 : decode cX5_record 80 = .ok (.getfield 16, 3) := by decide +kernel
theorem dX5_record_83 : decode cX5_record 83 = .ok (.iload_n 2, 1) := by decide +kernel
theorem dX5_record_84 : decode cX5_record 84 = .ok (.iaload, 1) := by decide +kernel
theorem dX5_record_85 : decode cX5_record 85 = .ok (.iastore, 1) := by decide +kernel
theorem dX5_record_86 : decode cX5_record 86 = .ok (.iinc 2 1, 3) := by decide +kernel
theorem dX5_record_89 : decode cX5_record 89 = .ok (.goto (-31), 3) := by decide +kernel
theorem dX5_record_92 : decode cX5_record 92 = .ok (.aload_n 0, 1) := by decide +kernel
theorem dX5_record_93 : decode cX5_record 93 = .ok (.dup, 1) := by decide +kernel
theorem dX5_record_94 : decode cX5_record 94 = .ok (.getfield 55, 3) := by decide +kernel
theorem dX5_record_97 : decode cX5_record 97 = .ok (.iconst 1, 1) := by decide +kernel
theorem dX5_record_98 : decode cX5_record 98 = .ok (.iadd, 1) := by decide +kernel
theorem dX5_record_99 : decode cX5_record 99 = .ok (.putfield 55, 3) := by decide +kernel
theorem dX5_record_102 : decode cX5_record 102 = .ok (.iload_n 1, 1) := by decide +kernel
theorem dX5_record_103 : decode cX5_record 103 = .ok (.ireturn, 1) := by decide +kernel
theorem dX5_undo_0 : decode cX5_undo 0 = .ok (.aload_n 0, 1) := by decide +kernel
theorem dX5_undo_1 : decode cX5_undo 1 = .ok (.getfield 55, 3) := by decide +kernel
theorem dX5_undo_4 : decode cX5_undo 4 = .ok (.ifCond .ne 6, 3) := by decide +kernel
theorem dX5_undo_7 : decode cX5_undo 7 = .ok (.bipush (-5), 2) := by decide +kernel
theorem dX5_undo_9 : decode cX5_undo 9 = .ok (.ireturn, 1) := by decide +kernel
theorem dX5_undo_10 : decode cX5_undo 10 = .ok (.aload_n 0, 1) := by decide +kernel
theorem dX5_undo_11 : decode cX5_undo 11 = .ok (.dup, 1) := by decide +kernel
theorem dX5_undo_12 : decode cX5_undo 12 = .ok (.getfield 55, 3) := by decide +kernel
theorem dX5_undo_15 : decode cX5_undo 15 = .ok (.iconst 1, 1) := by decide +kernel
theorem dX5_undo_16 : decode cX5_undo 16 = .ok (.isub, 1) := by decide +kernel
theorem dX5_undo_17 : decode cX5_undo 17 = .ok (.putfield 55, 3) := by decide +kernel
theorem dX5_undo_20 : decode cX5_undo 20 = .ok (.iconst 0, 1) := by decide +kernel
theorem dX5_undo_21 : decode cX5_undo 21 = .ok (.istore_n 1, 1) := by decide +kernel
theorem dX5_undo_22 : decode cX5_undo 22 = .ok (.iload_n 1, 1) := by decide +kernel
theorem dX5_undo_23 : decode cX5_undo 23 = .ok (.sipush 275, 3) := by decide +kernel
theorem dX5_undo_26 : decode cX5_undo 26 = .ok (.if_icmp .ge 30, 3) := by decide +kernel
theorem dX5_undo_29 : decode cX5_undo 29 = .ok (.aload_n 0, 1) := by decide +kernel
theorem dX5_undo_30 : decode cX5_undo 30 = .ok (.getfield 7, 3) := by decide +kernel
theorem dX5_undo_33 : decode cX5_undo 33 = .ok (.iload_n 1, 1) := by decide +kernel
theorem dX5_undo_34 : decode cX5_undo 34 = .ok (.aload_n 0, 1) := by decide +kernel
theorem dX5_undo_35 : decode cX5_undo 35 = .ok (.getfield 13, 3) := by decide +kernel
theorem dX5_undo_38 : decode cX5_undo 38 = .ok (.sipush 275, 3) := by decide +kernel
theorem dX5_undo_41 : decode cX5_undo 41 = .ok (.aload_n 0, 1) := by decide +kernel
theorem dX5_undo_42 : decode cX5_undo 42 = .ok (.getfield 55, 3) := by decide +kernel
theorem dX5_undo_45 : decode cX5_undo 45 = .ok (.imul, 1) := by decide +kernel
theorem dX5_undo_46 : decode cX5_undo 46 = .ok (.iload_n 1, 1) := by decide +kernel
theorem dX5_undo_47 : decode cX5_undo 47 = .ok (.iadd, 1) := by decide +kernel
theorem dX5_undo_48 : decode cX5_undo 48 = .ok (.iaload, 1) := by decide +kernel
theorem dX5_undo_49 : decode cX5_undo 49 = .ok (.iastore, 1) := by decide +kernel
theorem dX5_undo_50 : decode cX5_undo 50 = .ok (.iinc 1 1, 3) := by decide +kernel
theorem dX5_undo_53 : decode cX5_undo 53 = .ok (.goto (-31), 3) := by decide +kernel
theorem dX5_undo_56 : decode cX5_undo 56 = .ok (.aload_n 0, 1) := by decide +kernel
theorem dX5_undo_57 : decode cX5_undo 57 = .ok (.getfield 55, 3) := by decide +kernel
theorem dX5_undo_60 : decode cX5_undo 60 = .ok (.ireturn, 1) := by decide +kernel
theorem dX5_save_0 : decode cX5_save 0 = .ok (.iload_n 1, 1) := by decide +kernel
theorem dX5_save_1 : decode cX5_save 1 = .ok (.i2l, 1) := by decide +kernel
theorem dX5_save_2 : decode cX5_save 2 = .ok (.iconst 0, 1) := by decide +kernel
theorem dX5_save_3 : decode cX5_save 3 = .ok (.iconst 1, 1) := by decide +kernel
theorem dX5_save_4 : decode cX5_save 4 = .ok (.invokestatic 35, 3) := by decide +kernel
theorem dX5_save_7 : decode cX5_save 7 = .ok (.ifCond .ne 6, 3) := by decide +kernel
theorem dX5_save_10 : decode cX5_save 10 = .ok (.bipush (-2), 2) := by decide +kernel
theorem dX5_save_12 : decode cX5_save 12 = .ok (.ireturn, 1) := by decide +kernel
theorem dX5_save_13 : decode cX5_save 13 = .ok (.iconst 0, 1) := by decide +kernel
theorem dX5_save_14 : decode cX5_save 14 = .ok (.istore_n 2, 1) := by decide +kernel
theorem dX5_save_15 : decode cX5_save 15 = .ok (.iload_n 2, 1) := by decide +kernel
theorem dX5_save_16 : decode cX5_save 16 = .ok (.sipush 275, 3) := by decide +kernel
theorem dX5_save_19 : decode cX5_save 19 = .ok (.if_icmp .ge 27, 3) := by decide +kernel
theorem dX5_save_22 : decode cX5_save 22 = .ok (.aload_n 0, 1) := by decide +kernel
theorem dX5_save_23 : decode cX5_save 23 = .ok (.getfield 22, 3) := by decide +kernel
theorem dX5_save_26 : decode cX5_save 26 = .ok (.sipush 275, 3) := by decide +kernel
theorem dX5_save_29 : decode cX5_save 29 = .ok (.iload_n 1, 1) := by decide +kernel
theorem dX5_save_30 : decode cX5_save 30 = .ok (.imul, 1) := by decide +kernel
theorem dX5_save_31 : decode cX5_save 31 = .ok (.iload_n 2, 1) := by decide +kernel
theorem dX5_save_32 : decode cX5_save 32 = .ok (.iadd, 1) := by decide +kernel
theorem dX5_save_33 : decode cX5_save 33 = .ok (.aload_n 0, 1) := by decide +kernel
theorem dX5_save_34 : decode cX5_save 34 = .ok (.getfield 7, 3) := by decide +kernel
theorem dX5_save_37 : decode cX5_save 37 = .ok (.iload_n 2, 1) := by decide +kernel
theorem dX5_save_38 : decode cX5_save 38 = .ok (.iaload, 1) := by decide +kernel
theorem dX5_save_39 : decode cX5_save 39 = .ok (.iastore, 1) := by decide +kernel
theorem dX5_save_40 : decode cX5_save 40 = .ok (.iinc 2 1, 3) := by decide +kernel
theorem dX5_save_43 : decode cX5_save 43 = .ok (.goto (-28), 3) := by decide +kernel
theorem dX5_save_46 : decode cX5_save 46 = .ok (.aload_n 0, 1) := by decide +kernel
theorem dX5_save_47 : decode cX5_save 47 = .ok (.getfield 25, 3) := by decide +kernel
theorem dX5_save_50 : decode cX5_save 50 = .ok (.iload_n 1, 1) := by decide +kernel
theorem dX5_save_51 : decode cX5_save 51 = .ok (.iconst 1, 1) := by decide +kernel
theorem dX5_save_52 : decode cX5_save 52 = .ok (.bastore, 1) := by decide +kernel
theorem dX5_save_53 : decode cX5_save 53 = .ok (.aload_n 0, 1) := by decide +kernel
theorem dX5_save_54 : decode cX5_save 54 = .ok (.getfield 7, 3) := by decide +kernel
theorem dX5_save_57 : decode cX5_save 57 = .ok (.iconst 3, 1) := by decide +kernel
theorem dX5_save_58 : decode cX5_save 58 = .ok (.iaload, 1) := by decide +kernel
theorem dX5_save_59 : decode cX5_save 59 = .ok (.ireturn, 1) := by decide +kernel
theorem dX5_restore_0 : decode cX5_restore 0 = .ok (.iload_n 1, 1) := by decide +kernel
theorem dX5_restore_1 : decode cX5_restore 1 = .ok (.i2l, 1) := by decide +kernel
theorem dX5_restore_2 : decode cX5_restore 2 = .ok (.iconst 0, 1) := by decide +kernel
theorem dX5_restore_3 : decode cX5_restore 3 = .ok (.iconst 1, 1) := by decide +kernel
theorem dX5_restore_4 : decode cX5_restore 4 = .ok (.invokestatic 35, 3) := by decide +kernel
theorem dX5_restore_7 : decode cX5_restore 7 = .ok (.ifCond .ne 6, 3) := by decide +kernel
theorem dX5_restore_10 : decode cX5_restore 10 = .ok (.bipush (-2), 2) := by decide +kernel
theorem dX5_restore_12 : decode cX5_restore 12 = .ok (.ireturn, 1) := by decide +kernel
theorem dX5_restore_13 : decode cX5_restore 13 = .ok (.aload_n 0, 1) := by decide +kernel
theorem dX5_restore_14 : decode cX5_restore 14 = .ok (.getfield 25, 3) := by decide +kernel
theorem dX5_restore_17 : decode cX5_restore 17 = .ok (.iload_n 1, 1) := by decide +kernel
theorem dX5_restore_18 : decode cX5_restore 18 = .ok (.baload, 1) := by decide +kernel
theorem dX5_restore_19 : decode cX5_restore 19 = .ok (.ifCond .ne 6, 3) := by decide +kernel
theorem dX5_restore_22 : decode cX5_restore 22 = .ok (.bipush (-5), 2) := by decide +kernel
theorem dX5_restore_24 : decode cX5_restore 24 = .ok (.ireturn, 1) := by decide +kernel
theorem dX5_restore_25 : decode cX5_restore 25 = .ok (.aload_n 0, 1) := by decide +kernel
theorem dX5_restore_26 : decode cX5_restore 26 = .ok (.invokevirtual 59, 3) := by decide +kernel
theorem dX5_restore_29 : decode cX5_restore 29 = .ok (.iconst 0, 1) := by decide +kernel
theorem dX5_restore_30 : decode cX5_restore 30 = .ok (.istore_n 2, 1) := by decide +kernel
theorem dX5_restore_31 : decode cX5_restore 31 = .ok (.iload_n 2, 1) := by decide +kernel
theorem dX5_restore_32 : decode cX5_restore 32 = .ok (.sipush 275, 3) := by decide +kernel
theorem dX5_restore_35 : decode cX5_restore 35 = .ok (.if_icmp .ge 27, 3) := by decide +kernel
theorem dX5_restore_38 : decode cX5_restore 38 = .ok (.aload_n 0, 1) := by decide +kernel
theorem dX5_restore_39 : decode cX5_restore 39 = .ok (.getfield 7, 3) := by decide +kernel
theorem dX5_restore_42 : decode cX5_restore 42 = .ok (.iload_n 2, 1) := by decide +kernel
theorem dX5_restore_43 : decode cX5_restore 43 = .ok (.aload_n 0, 1) := by decide +kernel
theorem dX5_restore_44 : decode cX5_restore 44 = .ok (.getfield 22, 3) := by decide +kernel
theorem dX5_restore_47 : decode cX5_restore 47 = .ok (.sipush 275, 3) := by decide +kernel
theorem dX5_restore_50 : decode cX5_restore 50 = .ok (.iload_n 1, 1) := by decide +kernel
theorem dX5_restore_51 : decode cX5_restore 51 = .ok (.imul, 1) := by decide +kernel
theorem dX5_restore_52 : decode cX5_restore 52 = .ok (.iload_n 2, 1) := by decide +kernel
theorem dX5_restore_53 : decode cX5_restore 53 = .ok (.iadd, 1) := by decide +kernel
theorem dX5_restore_54 : decode cX5_restore 54 = .ok (.iaload, 1) := by decide +kernel
theorem dX5_restore_55 : decode cX5_restore 55 = .ok (.iastore, 1) := by decide +kernel
theorem dX5_restore_56 : decode cX5_restore 56 = .ok (.iinc 2 1, 3) := by decide +kernel
theorem dX5_restore_59 : decode cX5_restore 59 = .ok (.goto (-28), 3) := by decide +kernel
theorem dX5_restore_62 : decode cX5_restore 62 = .ok (.aload_n 0, 1) := by decide +kernel
theorem dX5_restore_63 : decode cX5_restore 63 = .ok (.aload_n 0, 1) := by decide +kernel
theorem dX5_restore_64 : decode cX5_restore 64 = .ok (.getfield 7, 3) := by decide +kernel
theorem dX5_restore_67 : decode cX5_restore 67 = .ok (.iconst 3, 1) := by decide +kernel
theorem dX5_restore_68 : decode cX5_restore 68 = .ok (.iaload, 1) := by decide +kernel
theorem dX5_restore_69 : decode cX5_restore 69 = .ok (.invokevirtual 62, 3) := by decide +kernel
theorem dX5_restore_72 : decode cX5_restore 72 = .ok (.ireturn, 1) := by decide +kernel
theorem dX5_layAside_0 : decode cX5_layAside 0 = .ok (.iconst 0, 1) := by decide +kernel
theorem dX5_layAside_1 : decode cX5_layAside 1 = .ok (.istore_n 1, 1) := by decide +kernel
theorem dX5_layAside_2 : decode cX5_layAside 2 = .ok (.iload_n 1, 1) := by decide +kernel
theorem dX5_layAside_3 : decode cX5_layAside 3 = .ok (.sipush 275, 3) := by decide +kernel
theorem dX5_layAside_6 : decode cX5_layAside 6 = .ok (.if_icmp .ge 21, 3) := by decide +kernel
theorem dX5_layAside_9 : decode cX5_layAside 9 = .ok (.aload_n 0, 1) := by decide +kernel
theorem dX5_layAside_10 : decode cX5_layAside 10 = .ok (.getfield 19, 3) := by decide +kernel
theorem dX5_layAside_13 : decode cX5_layAside 13 = .ok (.iload_n 1, 1) := by decide +kernel
theorem dX5_layAside_14 : decode cX5_layAside 14 = .ok (.aload_n 0, 1) := by decide +kernel
theorem dX5_layAside_15 : decode cX5_layAside 15 = .ok (.getfield 7, 3) := by decide +kernel
theorem dX5_layAside_18 : decode cX5_layAside 18 = .ok (.iload_n 1, 1) := by decide +kernel
theorem dX5_layAside_19 : decode cX5_layAside 19 = .ok (.iaload, 1) := by decide +kernel
theorem dX5_layAside_20 : decode cX5_layAside 20 = .ok (.iastore, 1) := by decide +kernel
theorem dX5_layAside_21 : decode cX5_layAside 21 = .ok (.iinc 1 1, 3) := by decide +kernel
theorem dX5_layAside_24 : decode cX5_layAside 24 = .ok (.goto (-22), 3) := by decide +kernel
theorem dX5_layAside_27 : decode cX5_layAside 27 = .ok (.return_, 1) := by decide +kernel
theorem dX5_putBack_0 : decode cX5_putBack 0 = .ok (.iconst 0, 1) := by decide +kernel
theorem dX5_putBack_1 : decode cX5_putBack 1 = .ok (.istore_n 1, 1) := by decide +kernel
theorem dX5_putBack_2 : decode cX5_putBack 2 = .ok (.iload_n 1, 1) := by decide +kernel
theorem dX5_putBack_3 : decode cX5_putBack 3 = .ok (.sipush 275, 3) := by decide +kernel
theorem dX5_putBack_6 : decode cX5_putBack 6 = .ok (.if_icmp .ge 21, 3) := by decide +kernel
theorem dX5_putBack_9 : decode cX5_putBack 9 = .ok (.aload_n 0, 1) := by decide +kernel
theorem dX5_putBack_10 : decode cX5_putBack 10 = .ok (.getfield 7, 3) := by decide +kernel
theorem dX5_putBack_13 : decode cX5_putBack 13 = .ok (.iload_n 1, 1) := by decide +kernel
theorem dX5_putBack_14 : decode cX5_putBack 14 = .ok (.aload_n 0, 1) := by decide +kernel
theorem dX5_putBack_15 : decode cX5_putBack 15 = .ok (.getfield 19, 3) := by decide +kernel
theorem dX5_putBack_18 : decode cX5_putBack 18 = .ok (.iload_n 1, 1) := by decide +kernel
theorem dX5_putBack_19 : decode cX5_putBack 19 = .ok (.iaload, 1) := by decide +kernel
theorem dX5_putBack_20 : decode cX5_putBack 20 = .ok (.iastore, 1) := by decide +kernel
theorem dX5_putBack_21 : decode cX5_putBack 21 = .ok (.iinc 1 1, 3) := by decide +kernel
theorem dX5_putBack_24 : decode cX5_putBack 24 = .ok (.goto (-22), 3) := by decide +kernel
theorem dX5_putBack_27 : decode cX5_putBack 27 = .ok (.return_, 1) := by decide +kernel
theorem dX5_clear_0 : decode cX5_clear 0 = .ok (.aload_n 0, 1) := by decide +kernel
theorem dX5_clear_1 : decode cX5_clear 1 = .ok (.iload_n 1, 1) := by decide +kernel
theorem dX5_clear_2 : decode cX5_clear 2 = .ok (.iload_n 2, 1) := by decide +kernel
theorem dX5_clear_3 : decode cX5_clear 3 = .ok (.iconst 0, 1) := by decide +kernel
theorem dX5_clear_4 : decode cX5_clear 4 = .ok (.iconst 0, 1) := by decide +kernel
theorem dX5_clear_5 : decode cX5_clear 5 = .ok (.invokevirtual 66, 3) := by decide +kernel
theorem dX5_clear_8 : decode cX5_clear 8 = .ok (.aload_n 0, 1) := by decide +kernel
theorem dX5_clear_9 : decode cX5_clear 9 = .ok (.getfield 7, 3) := by decide +kernel
theorem dX5_clear_12 : decode cX5_clear 12 = .ok (.iconst 5, 1) := by decide +kernel
theorem dX5_clear_13 : decode cX5_clear 13 = .ok (.bipush 54, 2) := by decide +kernel
theorem dX5_clear_15 : decode cX5_clear 15 = .ok (.iload_n 1, 1) := by decide +kernel
theorem dX5_clear_16 : decode cX5_clear 16 = .ok (.imul, 1) := by decide +kernel
theorem dX5_clear_17 : decode cX5_clear 17 = .ok (.iadd, 1) := by decide +kernel
theorem dX5_clear_18 : decode cX5_clear 18 = .ok (.bipush 6, 2) := by decide +kernel
theorem dX5_clear_20 : decode cX5_clear 20 = .ok (.iadd, 1) := by decide +kernel
theorem dX5_clear_21 : decode cX5_clear 21 = .ok (.iconst 3, 1) := by decide +kernel
theorem dX5_clear_22 : decode cX5_clear 22 = .ok (.iload_n 2, 1) := by decide +kernel
theorem dX5_clear_23 : decode cX5_clear 23 = .ok (.imul, 1) := by decide +kernel
theorem dX5_clear_24 : decode cX5_clear 24 = .ok (.iadd, 1) := by decide +kernel
theorem dX5_clear_25 : decode cX5_clear 25 = .ok (.iconst 2, 1) := by decide +kernel
theorem dX5_clear_26 : decode cX5_clear 26 = .ok (.iadd, 1) := by decide +kernel
theorem dX5_clear_27 : decode cX5_clear 27 = .ok (.iconst 0, 1) := by decide +kernel
theorem dX5_clear_28 : decode cX5_clear 28 = .ok (.iastore, 1) := by decide +kernel
theorem dX5_clear_29 : decode cX5_clear 29 = .ok (.return_, 1) := by decide +kernel
theorem dX5_opensOnce_0 : decode cX5_opensOnce 0 = .ok (.aload_n 0, 1) := by decide +kernel
theorem dX5_opensOnce_1 : decode cX5_opensOnce 1 = .ok (.iload_n 1, 1) := by decide +kernel
theorem dX5_opensOnce_2 : decode cX5_opensOnce 2 = .ok (.invokevirtual 70, 3) := by decide +kernel
theorem dX5_opensOnce_5 : decode cX5_opensOnce 5 = .ok (.ifCond .ne 12, 3) := by decide +kernel
theorem dX5_opensOnce_8 : decode cX5_opensOnce 8 = .ok (.aload_n 0, 1) := by decide +kernel
theorem dX5_opensOnce_9 : decode cX5_opensOnce 9 = .ok (.iload_n 1, 1) := by decide +kernel
theorem dX5_opensOnce_10 : decode cX5_opensOnce 10 = .ok (.iconst 1, 1) := by decide +kernel
theorem dX5_opensOnce_11 : decode cX5_opensOnce 11 = .ok (.invokevirtual 73, 3) := by decide +kernel
theorem dX5_opensOnce_14 : decode cX5_opensOnce 14 = .ok (.ifCond .ne 5, 3) := by decide +kernel
theorem dX5_opensOnce_17 : decode cX5_opensOnce 17 = .ok (.iconst 0, 1) := by decide +kernel
theorem dX5_opensOnce_18 : decode cX5_opensOnce 18 = .ok (.ireturn, 1) := by decide +kernel
theorem dX5_opensOnce_19 : decode cX5_opensOnce 19 = .ok (.iconst 0, 1) := by decide +kernel
theorem dX5_opensOnce_20 : decode cX5_opensOnce 20 = .ok (.istore_n 2, 1) := by decide +kernel
theorem dX5_opensOnce_21 : decode cX5_opensOnce 21 = .ok (.iload_n 2, 1) := by decide +kernel
theorem dX5_opensOnce_22 : decode cX5_opensOnce 22 = .ok (.aload_n 0, 1) := by decide +kernel
theorem dX5_opensOnce_23 : decode cX5_opensOnce 23 = .ok (.iload_n 1, 1) := by decide +kernel
theorem dX5_opensOnce_24 : decode cX5_opensOnce 24 = .ok (.iconst 0, 1) := by decide +kernel
theorem dX5_opensOnce_25 : decode cX5_opensOnce 25 = .ok (.invokevirtual 43, 3) := by decide +kernel
theorem dX5_opensOnce_28 : decode cX5_opensOnce 28 = .ok (.if_icmp .ge 71, 3) := by decide +kernel
theorem dX5_opensOnce_31 : decode cX5_opensOnce 31 = .ok (.aload_n 0, 1) := by decide +kernel
theorem dX5_opensOnce_32 : decode cX5_opensOnce 32 = .ok (.iload_n 1, 1) := by decide +kernel
theorem dX5_opensOnce_33 : decode cX5_opensOnce 33 = .ok (.iload_n 2, 1) := by decide +kernel
theorem dX5_opensOnce_34 : decode cX5_opensOnce 34 = .ok (.iconst 0, 1) := by decide +kernel
theorem dX5_opensOnce_35 : decode cX5_opensOnce 35 = .ok (.invokevirtual 47, 3) := by decide +kernel
theorem dX5_opensOnce_38 : decode cX5_opensOnce 38 = .ok (.iconst 1, 1) := by decide +kernel
theorem dX5_opensOnce_39 : decode cX5_opensOnce 39 = .ok (.if_icmp .ne 54, 3) := by decide +kernel
theorem dX5_opensOnce_42 : decode cX5_opensOnce 42 = .ok (.aload_n 0, 1) := by decide +kernel
theorem dX5_opensOnce_43 : decode cX5_opensOnce 43 = .ok (.iload_n 1, 1) := by decide +kernel
theorem dX5_opensOnce_44 : decode cX5_opensOnce 44 = .ok (.iload_n 2, 1) := by decide +kernel
theorem dX5_opensOnce_45 : decode cX5_opensOnce 45 = .ok (.iconst 3, 1) := by decide +kernel
theorem dX5_opensOnce_46 : decode cX5_opensOnce 46 = .ok (.aload_n 0, 1) := by decide +kernel
theorem dX5_opensOnce_47 : decode cX5_opensOnce 47 = .ok (.getfield 7, 3) := by decide +kernel
theorem dX5_opensOnce_50 : decode cX5_opensOnce 50 = .ok (.iconst 1, 1) := by decide +kernel
theorem dX5_opensOnce_51 : decode cX5_opensOnce 51 = .ok (.iaload, 1) := by decide +kernel
theorem dX5_opensOnce_52 : decode cX5_opensOnce 52 = .ok (.invokevirtual 66, 3) := by decide +kernel
theorem dX5_opensOnce_55 : decode cX5_opensOnce 55 = .ok (.aload_n 0, 1) := by decide +kernel
theorem dX5_opensOnce_56 : decode cX5_opensOnce 56 = .ok (.getfield 7, 3) := by decide +kernel
theorem dX5_opensOnce_59 : decode cX5_opensOnce 59 = .ok (.iconst 5, 1) := by decide +kernel
theorem dX5_opensOnce_60 : decode cX5_opensOnce 60 = .ok (.bipush 54, 2) := by decide +kernel
theorem dX5_opensOnce_62 : decode cX5_opensOnce 62 = .ok (.iload_n 1, 1) := by decide +kernel
theorem dX5_opensOnce_63 : decode cX5_opensOnce 63 = .ok (.imul, 1) := by decide +kernel
theorem dX5_opensOnce_64 : decode cX5_opensOnce 64 = .ok (.iadd, 1) := by decide +kernel
theorem dX5_opensOnce_65 : decode cX5_opensOnce 65 = .ok (.bipush 6, 2) := by decide +kernel
theorem dX5_opensOnce_67 : decode cX5_opensOnce 67 = .ok (.iadd, 1) := by decide +kernel
theorem dX5_opensOnce_68 : decode cX5_opensOnce 68 = .ok (.iconst 3, 1) := by decide +kernel
theorem dX5_opensOnce_69 : decode cX5_opensOnce 69 = .ok (.iload_n 2, 1) := by decide +kernel
theorem dX5_opensOnce_70 : decode cX5_opensOnce 70 = .ok (.imul, 1) := by decide +kernel
theorem dX5_opensOnce_71 : decode cX5_opensOnce 71 = .ok (.iadd, 1) := by decide +kernel
theorem dX5_opensOnce_72 : decode cX5_opensOnce 72 = .ok (.iconst 2, 1) := by decide +kernel
theorem dX5_opensOnce_73 : decode cX5_opensOnce 73 = .ok (.iadd, 1) := by decide +kernel
theorem dX5_opensOnce_74 : decode cX5_opensOnce 74 = .ok (.dup2, 1) := by decide +kernel
theorem dX5_opensOnce_75 : decode cX5_opensOnce 75 = .ok (.iaload, 1) := by decide +kernel
theorem dX5_opensOnce_76 : decode cX5_opensOnce 76 = .ok (.iconst 1, 1) := by decide +kernel
theorem dX5_opensOnce_77 : decode cX5_opensOnce 77 = .ok (.iadd, 1) := by decide +kernel
theorem dX5_opensOnce_78 : decode cX5_opensOnce 78 = .ok (.iastore, 1) := by decide +kernel
theorem dX5_opensOnce_79 : decode cX5_opensOnce 79 = .ok (.aload_n 0, 1) := by decide +kernel
theorem dX5_opensOnce_80 : decode cX5_opensOnce 80 = .ok (.iload_n 1, 1) := by decide +kernel
theorem dX5_opensOnce_81 : decode cX5_opensOnce 81 = .ok (.iconst 4, 1) := by decide +kernel
theorem dX5_opensOnce_82 : decode cX5_opensOnce 82 = .ok (.aload_n 0, 1) := by decide +kernel
theorem dX5_opensOnce_83 : decode cX5_opensOnce 83 = .ok (.iload_n 1, 1) := by decide +kernel
theorem dX5_opensOnce_84 : decode cX5_opensOnce 84 = .ok (.iconst 4, 1) := by decide +kernel
theorem dX5_opensOnce_85 : decode cX5_opensOnce 85 = .ok (.invokevirtual 43, 3) := by decide +kernel
theorem dX5_opensOnce_88 : decode cX5_opensOnce 88 = .ok (.iconst 1, 1) := by decide +kernel
theorem dX5_opensOnce_89 : decode cX5_opensOnce 89 = .ok (.iadd, 1) := by decide +kernel
theorem dX5_opensOnce_90 : decode cX5_opensOnce 90 = .ok (.invokevirtual 76, 3) := by decide +kernel
theorem dX5_opensOnce_93 : decode cX5_opensOnce 93 = .ok (.iinc 2 1, 3) := by decide +kernel
theorem dX5_opensOnce_96 : decode cX5_opensOnce 96 = .ok (.goto (-75), 3) := by decide +kernel
theorem dX5_opensOnce_99 : decode cX5_opensOnce 99 = .ok (.aload_n 0, 1) := by decide +kernel
theorem dX5_opensOnce_100 : decode cX5_opensOnce 100 = .ok (.iload_n 1, 1) := by decide +kernel
theorem dX5_opensOnce_101 : decode cX5_opensOnce 101 = .ok (.iconst 3, 1) := by decide +kernel
theorem dX5_opensOnce_102 : decode cX5_opensOnce 102 = .ok (.aload_n 0, 1) := by decide +kernel
theorem dX5_opensOnce_103 : decode cX5_opensOnce 103 = .ok (.iload_n 1, 1) := by decide +kernel
theorem dX5_opensOnce_104 : decode cX5_opensOnce 104 = .ok (.iconst 3, 1) := by decide +kernel
theorem dX5_opensOnce_105 : decode cX5_opensOnce 105 = .ok (.invokevirtual 43, 3) := by decide +kernel
theorem dX5_opensOnce_108 : decode cX5_opensOnce 108 = .ok (.iconst 1, 1) := by decide +kernel
theorem dX5_opensOnce_109 : decode cX5_opensOnce 109 = .ok (.iadd, 1) := by decide +kernel
theorem dX5_opensOnce_110 : decode cX5_opensOnce 110 = .ok (.invokevirtual 76, 3) := by decide +kernel
theorem dX5_opensOnce_113 : decode cX5_opensOnce 113 = .ok (.aload_n 0, 1) := by decide +kernel
theorem dX5_opensOnce_114 : decode cX5_opensOnce 114 = .ok (.iload_n 1, 1) := by decide +kernel
theorem dX5_opensOnce_115 : decode cX5_opensOnce 115 = .ok (.iconst 1, 1) := by decide +kernel
theorem dX5_opensOnce_116 : decode cX5_opensOnce 116 = .ok (.iconst 1, 1) := by decide +kernel
theorem dX5_opensOnce_117 : decode cX5_opensOnce 117 = .ok (.aload_n 0, 1) := by decide +kernel
theorem dX5_opensOnce_118 : decode cX5_opensOnce 118 = .ok (.iload_n 1, 1) := by decide +kernel
theorem dX5_opensOnce_119 : decode cX5_opensOnce 119 = .ok (.iconst 1, 1) := by decide +kernel
theorem dX5_opensOnce_120 : decode cX5_opensOnce 120 = .ok (.invokevirtual 43, 3) := by decide +kernel
theorem dX5_opensOnce_123 : decode cX5_opensOnce 123 = .ok (.isub, 1) := by decide +kernel
theorem dX5_opensOnce_124 : decode cX5_opensOnce 124 = .ok (.invokevirtual 76, 3) := by decide +kernel
theorem dX5_opensOnce_127 : decode cX5_opensOnce 127 = .ok (.aload_n 0, 1) := by decide +kernel
theorem dX5_opensOnce_128 : decode cX5_opensOnce 128 = .ok (.iload_n 1, 1) := by decide +kernel
theorem dX5_opensOnce_129 : decode cX5_opensOnce 129 = .ok (.iconst 0, 1) := by decide +kernel
theorem dX5_opensOnce_130 : decode cX5_opensOnce 130 = .ok (.aload_n 0, 1) := by decide +kernel
theorem dX5_opensOnce_131 : decode cX5_opensOnce 131 = .ok (.iload_n 1, 1) := by decide +kernel
theorem dX5_opensOnce_132 : decode cX5_opensOnce 132 = .ok (.iconst 2, 1) := by decide +kernel
theorem dX5_opensOnce_133 : decode cX5_opensOnce 133 = .ok (.invokevirtual 43, 3) := by decide +kernel
theorem dX5_opensOnce_136 : decode cX5_opensOnce 136 = .ok (.invokevirtual 76, 3) := by decide +kernel
theorem dX5_opensOnce_139 : decode cX5_opensOnce 139 = .ok (.aload_n 0, 1) := by decide +kernel
theorem dX5_opensOnce_140 : decode cX5_opensOnce 140 = .ok (.iload_n 1, 1) := by decide +kernel
theorem dX5_opensOnce_141 : decode cX5_opensOnce 141 = .ok (.iconst 5, 1) := by decide +kernel
theorem dX5_opensOnce_142 : decode cX5_opensOnce 142 = .ok (.iconst 0, 1) := by decide +kernel
theorem dX5_opensOnce_143 : decode cX5_opensOnce 143 = .ok (.invokevirtual 76, 3) := by decide +kernel
theorem dX5_opensOnce_146 : decode cX5_opensOnce 146 = .ok (.aload_n 0, 1) := by decide +kernel
theorem dX5_opensOnce_147 : decode cX5_opensOnce 147 = .ok (.iload_n 1, 1) := by decide +kernel
theorem dX5_opensOnce_148 : decode cX5_opensOnce 148 = .ok (.iconst 0, 1) := by decide +kernel
theorem dX5_opensOnce_149 : decode cX5_opensOnce 149 = .ok (.invokevirtual 43, 3) := by decide +kernel
theorem dX5_opensOnce_152 : decode cX5_opensOnce 152 = .ok (.istore_n 2, 1) := by decide +kernel
theorem dX5_opensOnce_153 : decode cX5_opensOnce 153 = .ok (.iload_n 2, 1) := by decide +kernel
theorem dX5_opensOnce_154 : decode cX5_opensOnce 154 = .ok (.bipush 16, 2) := by decide +kernel
theorem dX5_opensOnce_156 : decode cX5_opensOnce 156 = .ok (.if_icmp .ge 26, 3) := by decide +kernel
theorem dX5_opensOnce_159 : decode cX5_opensOnce 159 = .ok (.aload_n 0, 1) := by decide +kernel
theorem dX5_opensOnce_160 : decode cX5_opensOnce 160 = .ok (.iload_n 1, 1) := by decide +kernel
theorem dX5_opensOnce_161 : decode cX5_opensOnce 161 = .ok (.iload_n 2, 1) := by decide +kernel
theorem dX5_opensOnce_162 : decode cX5_opensOnce 162 = .ok (.iconst 0, 1) := by decide +kernel
theorem dX5_opensOnce_163 : decode cX5_opensOnce 163 = .ok (.invokevirtual 47, 3) := by decide +kernel
theorem dX5_opensOnce_166 : decode cX5_opensOnce 166 = .ok (.iconst 3, 1) := by decide +kernel
theorem dX5_opensOnce_167 : decode cX5_opensOnce 167 = .ok (.if_icmp .eq 9, 3) := by decide +kernel
theorem dX5_opensOnce_170 : decode cX5_opensOnce 170 = .ok (.aload_n 0, 1) := by decide +kernel
theorem dX5_opensOnce_171 : decode cX5_opensOnce 171 = .ok (.iload_n 1, 1) := by decide +kernel
theorem dX5_opensOnce_172 : decode cX5_opensOnce 172 = .ok (.iload_n 2, 1) := by decide +kernel
theorem dX5_opensOnce_173 : decode cX5_opensOnce 173 = .ok (.invokevirtual 80, 3) := by decide +kernel
theorem dX5_opensOnce_176 : decode cX5_opensOnce 176 = .ok (.iinc 2 1, 3) := by decide +kernel
theorem dX5_opensOnce_179 : decode cX5_opensOnce 179 = .ok (.goto (-26), 3) := by decide +kernel
theorem dX5_opensOnce_182 : decode cX5_opensOnce 182 = .ok (.iconst 0, 1) := by decide +kernel
theorem dX5_opensOnce_183 : decode cX5_opensOnce 183 = .ok (.istore_n 2, 1) := by decide +kernel
theorem dX5_opensOnce_184 : decode cX5_opensOnce 184 = .ok (.iload_n 2, 1) := by decide +kernel
theorem dX5_opensOnce_185 : decode cX5_opensOnce 185 = .ok (.aload_n 0, 1) := by decide +kernel
theorem dX5_opensOnce_186 : decode cX5_opensOnce 186 = .ok (.iload_n 1, 1) := by decide +kernel
theorem dX5_opensOnce_187 : decode cX5_opensOnce 187 = .ok (.iconst 0, 1) := by decide +kernel
theorem dX5_opensOnce_188 : decode cX5_opensOnce 188 = .ok (.invokevirtual 43, 3) := by decide +kernel
theorem dX5_opensOnce_191 : decode cX5_opensOnce 191 = .ok (.if_icmp .ge 28, 3) := by decide +kernel
theorem dX5_opensOnce_194 : decode cX5_opensOnce 194 = .ok (.aload_n 0, 1) := by decide +kernel
theorem dX5_opensOnce_195 : decode cX5_opensOnce 195 = .ok (.iload_n 1, 1) := by decide +kernel
theorem dX5_opensOnce_196 : decode cX5_opensOnce 196 = .ok (.iload_n 2, 1) := by decide +kernel
theorem dX5_opensOnce_197 : decode cX5_opensOnce 197 = .ok (.iconst 0, 1) := by decide +kernel
theorem dX5_opensOnce_198 : decode cX5_opensOnce 198 = .ok (.invokevirtual 47, 3) := by decide +kernel
theorem dX5_opensOnce_201 : decode cX5_opensOnce 201 = .ok (.iconst 2, 1) := by decide +kernel
theorem dX5_opensOnce_202 : decode cX5_opensOnce 202 = .ok (.if_icmp .ne 11, 3) := by decide +kernel
theorem dX5_opensOnce_205 : decode cX5_opensOnce 205 = .ok (.aload_n 0, 1) := by decide +kernel
theorem dX5_opensOnce_206 : decode cX5_opensOnce 206 = .ok (.iload_n 1, 1) := by decide +kernel
theorem dX5_opensOnce_207 : decode cX5_opensOnce 207 = .ok (.iload_n 2, 1) := by decide +kernel
theorem dX5_opensOnce_208 : decode cX5_opensOnce 208 = .ok (.iconst 1, 1) := by decide +kernel
theorem dX5_opensOnce_209 : decode cX5_opensOnce 209 = .ok (.iconst 0, 1) := by decide +kernel
theorem dX5_opensOnce_210 : decode cX5_opensOnce 210 = .ok (.invokevirtual 66, 3) := by decide +kernel
theorem dX5_opensOnce_213 : decode cX5_opensOnce 213 = .ok (.iinc 2 1, 3) := by decide +kernel
theorem dX5_opensOnce_216 : decode cX5_opensOnce 216 = .ok (.goto (-32), 3) := by decide +kernel
theorem dX5_opensOnce_219 : decode cX5_opensOnce 219 = .ok (.iconst 1, 1) := by decide +kernel
theorem dX5_opensOnce_220 : decode cX5_opensOnce 220 = .ok (.ireturn, 1) := by decide +kernel
theorem dX5_opens_0 : decode cX5_opens 0 = .ok (.iconst 0, 1) := by decide +kernel
theorem dX5_opens_1 : decode cX5_opens 1 = .ok (.istore_n 2, 1) := by decide +kernel
theorem dX5_opens_2 : decode cX5_opens 2 = .ok (.iload_n 2, 1) := by decide +kernel
theorem dX5_opens_3 : decode cX5_opens 3 = .ok (.iconst 3, 1) := by decide +kernel
theorem dX5_opens_4 : decode cX5_opens 4 = .ok (.if_icmp .ge 17, 3) := by decide +kernel
theorem dX5_opens_7 : decode cX5_opens 7 = .ok (.aload_n 0, 1) := by decide +kernel
theorem dX5_opens_8 : decode cX5_opens 8 = .ok (.iload_n 1, 1) := by decide +kernel
theorem dX5_opens_9 : decode cX5_opens 9 = .ok (.invokevirtual 84, 3) := by decide +kernel
theorem dX5_opens_12 : decode cX5_opens 12 = .ok (.ifCond .eq 9, 3) := by decide +kernel
theorem dX5_opens_15 : decode cX5_opens 15 = .ok (.iinc 2 1, 3) := by decide +kernel
theorem dX5_opens_18 : decode cX5_opens 18 = .ok (.goto (-16), 3) := by decide +kernel
theorem dX5_opens_21 : decode cX5_opens 21 = .ok (.iload_n 2, 1) := by decide +kernel
theorem dX5_opens_22 : decode cX5_opens 22 = .ok (.ireturn, 1) := by decide +kernel
theorem dX5_minute_0 : decode cX5_minute 0 = .ok (.iconst 0, 1) := by decide +kernel
theorem dX5_minute_1 : decode cX5_minute 1 = .ok (.istore_n 2, 1) := by decide +kernel
theorem dX5_minute_2 : decode cX5_minute 2 = .ok (.iload_n 2, 1) := by decide +kernel
theorem dX5_minute_3 : decode cX5_minute 3 = .ok (.bipush 16, 2) := by decide +kernel
theorem dX5_minute_5 : decode cX5_minute 5 = .ok (.if_icmp .ge 70, 3) := by decide +kernel
theorem dX5_minute_8 : decode cX5_minute 8 = .ok (.aload_n 0, 1) := by decide +kernel
theorem dX5_minute_9 : decode cX5_minute 9 = .ok (.iload_n 1, 1) := by decide +kernel
theorem dX5_minute_10 : decode cX5_minute 10 = .ok (.iload_n 2, 1) := by decide +kernel
theorem dX5_minute_11 : decode cX5_minute 11 = .ok (.iconst 0, 1) := by decide +kernel
theorem dX5_minute_12 : decode cX5_minute 12 = .ok (.invokevirtual 47, 3) := by decide +kernel
theorem dX5_minute_15 : decode cX5_minute 15 = .ok (.iconst 3, 1) := by decide +kernel
theorem dX5_minute_16 : decode cX5_minute 16 = .ok (.if_icmp .ne 53, 3) := by decide +kernel
theorem dX5_minute_19 : decode cX5_minute 19 = .ok (.aload_n 0, 1) := by decide +kernel
theorem dX5_minute_20 : decode cX5_minute 20 = .ok (.iload_n 1, 1) := by decide +kernel
theorem dX5_minute_21 : decode cX5_minute 21 = .ok (.iload_n 2, 1) := by decide +kernel
theorem dX5_minute_22 : decode cX5_minute 22 = .ok (.iconst 3, 1) := by decide +kernel
theorem dX5_minute_23 : decode cX5_minute 23 = .ok (.aload_n 0, 1) := by decide +kernel
theorem dX5_minute_24 : decode cX5_minute 24 = .ok (.iload_n 1, 1) := by decide +kernel
theorem dX5_minute_25 : decode cX5_minute 25 = .ok (.iload_n 2, 1) := by decide +kernel
theorem dX5_minute_26 : decode cX5_minute 26 = .ok (.iconst 1, 1) := by decide +kernel
theorem dX5_minute_27 : decode cX5_minute 27 = .ok (.invokevirtual 47, 3) := by decide +kernel
theorem dX5_minute_30 : decode cX5_minute 30 = .ok (.iconst 1, 1) := by decide +kernel
theorem dX5_minute_31 : decode cX5_minute 31 = .ok (.isub, 1) := by decide +kernel
theorem dX5_minute_32 : decode cX5_minute 32 = .ok (.invokevirtual 66, 3) := by decide +kernel
theorem dX5_minute_35 : decode cX5_minute 35 = .ok (.aload_n 0, 1) := by decide +kernel
theorem dX5_minute_36 : decode cX5_minute 36 = .ok (.iload_n 1, 1) := by decide +kernel
theorem dX5_minute_37 : decode cX5_minute 37 = .ok (.iload_n 2, 1) := by decide +kernel
theorem dX5_minute_38 : decode cX5_minute 38 = .ok (.iconst 1, 1) := by decide +kernel
theorem dX5_minute_39 : decode cX5_minute 39 = .ok (.invokevirtual 47, 3) := by decide +kernel
theorem dX5_minute_42 : decode cX5_minute 42 = .ok (.ifCond .gt 27, 3) := by decide +kernel
theorem dX5_minute_45 : decode cX5_minute 45 = .ok (.aload_n 0, 1) := by decide +kernel
theorem dX5_minute_46 : decode cX5_minute 46 = .ok (.iload_n 1, 1) := by decide +kernel
theorem dX5_minute_47 : decode cX5_minute 47 = .ok (.iload_n 2, 1) := by decide +kernel
theorem dX5_minute_48 : decode cX5_minute 48 = .ok (.iconst 0, 1) := by decide +kernel
theorem dX5_minute_49 : decode cX5_minute 49 = .ok (.iconst 0, 1) := by decide +kernel
theorem dX5_minute_50 : decode cX5_minute 50 = .ok (.invokevirtual 66, 3) := by decide +kernel
theorem dX5_minute_53 : decode cX5_minute 53 = .ok (.iload_n 2, 1) := by decide +kernel
theorem dX5_minute_54 : decode cX5_minute 54 = .ok (.aload_n 0, 1) := by decide +kernel
theorem dX5_minute_55 : decode cX5_minute 55 = .ok (.iload_n 1, 1) := by decide +kernel
theorem dX5_minute_56 : decode cX5_minute 56 = .ok (.iconst 0, 1) := by decide +kernel
theorem dX5_minute_57 : decode cX5_minute 57 = .ok (.invokevirtual 43, 3) := by decide +kernel
theorem dX5_minute_60 : decode cX5_minute 60 = .ok (.if_icmp .lt 9, 3) := by decide +kernel
theorem dX5_minute_63 : decode cX5_minute 63 = .ok (.aload_n 0, 1) := by decide +kernel
theorem dX5_minute_64 : decode cX5_minute 64 = .ok (.iload_n 1, 1) := by decide +kernel
theorem dX5_minute_65 : decode cX5_minute 65 = .ok (.iload_n 2, 1) := by decide +kernel
theorem dX5_minute_66 : decode cX5_minute 66 = .ok (.invokevirtual 80, 3) := by decide +kernel
theorem dX5_minute_69 : decode cX5_minute 69 = .ok (.iinc 2 1, 3) := by decide +kernel
theorem dX5_minute_72 : decode cX5_minute 72 = .ok (.goto (-70), 3) := by decide +kernel
theorem dX5_minute_75 : decode cX5_minute 75 = .ok (.iconst 0, 1) := by decide +kernel
theorem dX5_minute_76 : decode cX5_minute 76 = .ok (.istore_n 2, 1) := by decide +kernel
theorem dX5_minute_77 : decode cX5_minute 77 = .ok (.iload_n 2, 1) := by decide +kernel
theorem dX5_minute_78 : decode cX5_minute 78 = .ok (.aload_n 0, 1) := by decide +kernel
theorem dX5_minute_79 : decode cX5_minute 79 = .ok (.iload_n 1, 1) := by decide +kernel
theorem dX5_minute_80 : decode cX5_minute 80 = .ok (.iconst 0, 1) := by decide +kernel
theorem dX5_minute_81 : decode cX5_minute 81 = .ok (.invokevirtual 43, 3) := by decide +kernel
theorem dX5_minute_84 : decode cX5_minute 84 = .ok (.if_icmp .ge 72, 3) := by decide +kernel
theorem dX5_minute_87 : decode cX5_minute 87 = .ok (.aload_n 0, 1) := by decide +kernel
theorem dX5_minute_88 : decode cX5_minute 88 = .ok (.iload_n 1, 1) := by decide +kernel
theorem dX5_minute_89 : decode cX5_minute 89 = .ok (.iload_n 2, 1) := by decide +kernel
theorem dX5_minute_90 : decode cX5_minute 90 = .ok (.iconst 0, 1) := by decide +kernel
theorem dX5_minute_91 : decode cX5_minute 91 = .ok (.invokevirtual 47, 3) := by decide +kernel
theorem dX5_minute_94 : decode cX5_minute 94 = .ok (.iconst 4, 1) := by decide +kernel
theorem dX5_minute_95 : decode cX5_minute 95 = .ok (.if_icmp .ne 55, 3) := by decide +kernel
theorem dX5_minute_98 : decode cX5_minute 98 = .ok (.aload_n 0, 1) := by decide +kernel
theorem dX5_minute_99 : decode cX5_minute 99 = .ok (.iload_n 1, 1) := by decide +kernel
theorem dX5_minute_100 : decode cX5_minute 100 = .ok (.iload_n 2, 1) := by decide +kernel
theorem dX5_minute_101 : decode cX5_minute 101 = .ok (.iconst 4, 1) := by decide +kernel
theorem dX5_minute_102 : decode cX5_minute 102 = .ok (.aload_n 0, 1) := by decide +kernel
theorem dX5_minute_103 : decode cX5_minute 103 = .ok (.iload_n 1, 1) := by decide +kernel
theorem dX5_minute_104 : decode cX5_minute 104 = .ok (.iload_n 2, 1) := by decide +kernel
theorem dX5_minute_105 : decode cX5_minute 105 = .ok (.iconst 1, 1) := by decide +kernel
theorem dX5_minute_106 : decode cX5_minute 106 = .ok (.invokevirtual 47, 3) := by decide +kernel
theorem dX5_minute_109 : decode cX5_minute 109 = .ok (.iconst 1, 1) := by decide +kernel
theorem dX5_minute_110 : decode cX5_minute 110 = .ok (.iadd, 1) := by decide +kernel
theorem dX5_minute_111 : decode cX5_minute 111 = .ok (.invokevirtual 66, 3) := by decide +kernel
theorem dX5_minute_114 : decode cX5_minute 114 = .ok (.aload_n 0, 1) := by decide +kernel
theorem dX5_minute_115 : decode cX5_minute 115 = .ok (.iload_n 1, 1) := by decide +kernel
theorem dX5_minute_116 : decode cX5_minute 116 = .ok (.iconst 5, 1) := by decide +kernel
theorem dX5_minute_117 : decode cX5_minute 117 = .ok (.aload_n 0, 1) := by decide +kernel
theorem dX5_minute_118 : decode cX5_minute 118 = .ok (.iload_n 1, 1) := by decide +kernel
theorem dX5_minute_119 : decode cX5_minute 119 = .ok (.iconst 5, 1) := by decide +kernel
theorem dX5_minute_120 : decode cX5_minute 120 = .ok (.invokevirtual 43, 3) := by decide +kernel
theorem dX5_minute_123 : decode cX5_minute 123 = .ok (.aload_n 0, 1) := by decide +kernel
theorem dX5_minute_124 : decode cX5_minute 124 = .ok (.iload_n 1, 1) := by decide +kernel
theorem dX5_minute_125 : decode cX5_minute 125 = .ok (.iload_n 2, 1) := by decide +kernel
theorem dX5_minute_126 : decode cX5_minute 126 = .ok (.iconst 1, 1) := by decide +kernel
theorem dX5_minute_127 : decode cX5_minute 127 = .ok (.invokevirtual 47, 3) := by decide +kernel
theorem dX5_minute_130 : decode cX5_minute 130 = .ok (.aload_n 0, 1) := by decide +kernel
theorem dX5_minute_131 : decode cX5_minute 131 = .ok (.getfield 7, 3) := by decide +kernel
theorem dX5_minute_134 : decode cX5_minute 134 = .ok (.iconst 0, 1) := by decide +kernel
theorem dX5_minute_135 : decode cX5_minute 135 = .ok (.iaload, 1) := by decide +kernel
theorem dX5_minute_136 : decode cX5_minute 136 = .ok (.if_icmp .le 9, 3) := by decide +kernel
theorem dX5_minute_139 : decode cX5_minute 139 = .ok (.iconst 1, 1) := by decide +kernel
theorem dX5_minute_140 : decode cX5_minute 140 = .ok (.iload_n 2, 1) := by decide +kernel
theorem dX5_minute_141 : decode cX5_minute 141 = .ok (.ishl, 1) := by decide +kernel
theorem dX5_minute_142 : decode cX5_minute 142 = .ok (.goto 4, 3) := by decide +kernel
theorem dX5_minute_145 : decode cX5_minute 145 = .ok (.iconst 0, 1) := by decide +kernel
theorem dX5_minute_146 : decode cX5_minute 146 = .ok (.ior, 1) := by decide +kernel
theorem dX5_minute_147 : decode cX5_minute 147 = .ok (.invokevirtual 76, 3) := by decide +kernel
theorem dX5_minute_150 : decode cX5_minute 150 = .ok (.iinc 2 1, 3) := by decide +kernel
theorem dX5_minute_153 : decode cX5_minute 153 = .ok (.goto (-76), 3) := by decide +kernel
theorem dX5_minute_156 : decode cX5_minute 156 = .ok (.aload_n 0, 1) := by decide +kernel
theorem dX5_minute_157 : decode cX5_minute 157 = .ok (.iload_n 1, 1) := by decide +kernel
theorem dX5_minute_158 : decode cX5_minute 158 = .ok (.invokevirtual 87, 3) := by decide +kernel
theorem dX5_minute_161 : decode cX5_minute 161 = .ok (.ireturn, 1) := by decide +kernel
theorem dX5_begins_0 : decode cX5_begins 0 = .ok (.iload_n 1, 1) := by decide +kernel
theorem dX5_begins_1 : decode cX5_begins 1 = .ok (.i2l, 1) := by decide +kernel
theorem dX5_begins_2 : decode cX5_begins 2 = .ok (.iconst 1, 1) := by decide +kernel
theorem dX5_begins_3 : decode cX5_begins 3 = .ok (.bipush 16, 2) := by decide +kernel
theorem dX5_begins_5 : decode cX5_begins 5 = .ok (.invokestatic 35, 3) := by decide +kernel
theorem dX5_begins_8 : decode cX5_begins 8 = .ok (.ifCond .ne 6, 3) := by decide +kernel
theorem dX5_begins_11 : decode cX5_begins 11 = .ok (.bipush (-2), 2) := by decide +kernel
theorem dX5_begins_13 : decode cX5_begins 13 = .ok (.ireturn, 1) := by decide +kernel
theorem dX5_begins_14 : decode cX5_begins 14 = .ok (.aload_n 0, 1) := by decide +kernel
theorem dX5_begins_15 : decode cX5_begins 15 = .ok (.getfield 7, 3) := by decide +kernel
theorem dX5_begins_18 : decode cX5_begins 18 = .ok (.iconst 3, 1) := by decide +kernel
theorem dX5_begins_19 : decode cX5_begins 19 = .ok (.iaload, 1) := by decide +kernel
theorem dX5_begins_20 : decode cX5_begins 20 = .ok (.istore_n 2, 1) := by decide +kernel
theorem dX5_begins_21 : decode cX5_begins 21 = .ok (.iload_n 2, 1) := by decide +kernel
theorem dX5_begins_22 : decode cX5_begins 22 = .ok (.iconst 5, 1) := by decide +kernel
theorem dX5_begins_23 : decode cX5_begins 23 = .ok (.if_icmp .ne 6, 3) := by decide +kernel
theorem dX5_begins_26 : decode cX5_begins 26 = .ok (.bipush (-4), 2) := by decide +kernel
theorem dX5_begins_28 : decode cX5_begins 28 = .ok (.ireturn, 1) := by decide +kernel
theorem dX5_begins_29 : decode cX5_begins 29 = .ok (.iconst 0, 1) := by decide +kernel
theorem dX5_begins_30 : decode cX5_begins 30 = .ok (.istore_n 3, 1) := by decide +kernel
theorem dX5_begins_31 : decode cX5_begins 31 = .ok (.iload_n 3, 1) := by decide +kernel
theorem dX5_begins_32 : decode cX5_begins 32 = .ok (.bipush 54, 2) := by decide +kernel
theorem dX5_begins_34 : decode cX5_begins 34 = .ok (.if_icmp .ge 16, 3) := by decide +kernel
theorem dX5_begins_37 : decode cX5_begins 37 = .ok (.aload_n 0, 1) := by decide +kernel
theorem dX5_begins_38 : decode cX5_begins 38 = .ok (.iload_n 2, 1) := by decide +kernel
theorem dX5_begins_39 : decode cX5_begins 39 = .ok (.iload_n 3, 1) := by decide +kernel
theorem dX5_begins_40 : decode cX5_begins 40 = .ok (.iconst 0, 1) := by decide +kernel
theorem dX5_begins_41 : decode cX5_begins 41 = .ok (.invokevirtual 76, 3) := by decide +kernel
theorem dX5_begins_44 : decode cX5_begins 44 = .ok (.iinc 3 1, 3) := by decide +kernel
theorem dX5_begins_47 : decode cX5_begins 47 = .ok (.goto (-16), 3) := by decide +kernel
theorem dX5_begins_50 : decode cX5_begins 50 = .ok (.aload_n 0, 1) := by decide +kernel
theorem dX5_begins_51 : decode cX5_begins 51 = .ok (.iload_n 2, 1) := by decide +kernel
theorem dX5_begins_52 : decode cX5_begins 52 = .ok (.iconst 0, 1) := by decide +kernel
theorem dX5_begins_53 : decode cX5_begins 53 = .ok (.iload_n 1, 1) := by decide +kernel
theorem dX5_begins_54 : decode cX5_begins 54 = .ok (.invokevirtual 76, 3) := by decide +kernel
theorem dX5_begins_57 : decode cX5_begins 57 = .ok (.aload_n 0, 1) := by decide +kernel
theorem dX5_begins_58 : decode cX5_begins 58 = .ok (.iload_n 2, 1) := by decide +kernel
theorem dX5_begins_59 : decode cX5_begins 59 = .ok (.iconst 2, 1) := by decide +kernel
theorem dX5_begins_60 : decode cX5_begins 60 = .ok (.iload_n 1, 1) := by decide +kernel
theorem dX5_begins_61 : decode cX5_begins 61 = .ok (.invokevirtual 76, 3) := by decide +kernel
theorem dX5_begins_64 : decode cX5_begins 64 = .ok (.aload_n 0, 1) := by decide +kernel
theorem dX5_begins_65 : decode cX5_begins 65 = .ok (.getfield 7, 3) := by decide +kernel
theorem dX5_begins_68 : decode cX5_begins 68 = .ok (.iconst 3, 1) := by decide +kernel
theorem dX5_begins_69 : decode cX5_begins 69 = .ok (.dup2, 1) := by decide +kernel
theorem dX5_begins_70 : decode cX5_begins 70 = .ok (.iaload, 1) := by decide +kernel
theorem dX5_begins_71 : decode cX5_begins 71 = .ok (.iconst 1, 1) := by decide +kernel
theorem dX5_begins_72 : decode cX5_begins 72 = .ok (.iadd, 1) := by decide +kernel
theorem dX5_begins_73 : decode cX5_begins 73 = .ok (.iastore, 1) := by decide +kernel
theorem dX5_begins_74 : decode cX5_begins 74 = .ok (.iload_n 2, 1) := by decide +kernel
theorem dX5_begins_75 : decode cX5_begins 75 = .ok (.ireturn, 1) := by decide +kernel
theorem dX5_sizes_0 : decode cX5_sizes 0 = .ok (.aload_n 0, 1) := by decide +kernel
theorem dX5_sizes_1 : decode cX5_sizes 1 = .ok (.iload_n 1, 1) := by decide +kernel
theorem dX5_sizes_2 : decode cX5_sizes 2 = .ok (.invokevirtual 39, 3) := by decide +kernel
theorem dX5_sizes_5 : decode cX5_sizes 5 = .ok (.ifCond .ne 5, 3) := by decide +kernel
theorem dX5_sizes_8 : decode cX5_sizes 8 = .ok (.iconst (-1), 1) := by decide +kernel
theorem dX5_sizes_9 : decode cX5_sizes 9 = .ok (.ireturn, 1) := by decide +kernel
theorem dX5_sizes_10 : decode cX5_sizes 10 = .ok (.iload_n 2, 1) := by decide +kernel
theorem dX5_sizes_11 : decode cX5_sizes 11 = .ok (.i2l, 1) := by decide +kernel
theorem dX5_sizes_12 : decode cX5_sizes 12 = .ok (.iconst 1, 1) := by decide +kernel
theorem dX5_sizes_13 : decode cX5_sizes 13 = .ok (.bipush 16, 2) := by decide +kernel
theorem dX5_sizes_15 : decode cX5_sizes 15 = .ok (.invokestatic 35, 3) := by decide +kernel
theorem dX5_sizes_18 : decode cX5_sizes 18 = .ok (.ifCond .ne 6, 3) := by decide +kernel
theorem dX5_sizes_21 : decode cX5_sizes 21 = .ok (.bipush (-2), 2) := by decide +kernel
theorem dX5_sizes_23 : decode cX5_sizes 23 = .ok (.ireturn, 1) := by decide +kernel
theorem dX5_sizes_24 : decode cX5_sizes 24 = .ok (.aload_n 0, 1) := by decide +kernel
theorem dX5_sizes_25 : decode cX5_sizes 25 = .ok (.iload_n 1, 1) := by decide +kernel
theorem dX5_sizes_26 : decode cX5_sizes 26 = .ok (.iconst 2, 1) := by decide +kernel
theorem dX5_sizes_27 : decode cX5_sizes 27 = .ok (.invokevirtual 43, 3) := by decide +kernel
theorem dX5_sizes_30 : decode cX5_sizes 30 = .ok (.istore_n 3, 1) := by decide +kernel
theorem dX5_sizes_31 : decode cX5_sizes 31 = .ok (.aload_n 0, 1) := by decide +kernel
theorem dX5_sizes_32 : decode cX5_sizes 32 = .ok (.iload_n 1, 1) := by decide +kernel
theorem dX5_sizes_33 : decode cX5_sizes 33 = .ok (.iconst 2, 1) := by decide +kernel
theorem dX5_sizes_34 : decode cX5_sizes 34 = .ok (.iload_n 2, 1) := by decide +kernel
theorem dX5_sizes_35 : decode cX5_sizes 35 = .ok (.invokevirtual 76, 3) := by decide +kernel
theorem dX5_sizes_38 : decode cX5_sizes 38 = .ok (.iload_n 3, 1) := by decide +kernel
theorem dX5_sizes_39 : decode cX5_sizes 39 = .ok (.ireturn, 1) := by decide +kernel
theorem dX5_comes_0 : decode cX5_comes 0 = .ok (.aload_n 0, 1) := by decide +kernel
theorem dX5_comes_1 : decode cX5_comes 1 = .ok (.iload_n 1, 1) := by decide +kernel
theorem dX5_comes_2 : decode cX5_comes 2 = .ok (.iload_n 2, 1) := by decide +kernel
theorem dX5_comes_3 : decode cX5_comes 3 = .ok (.iload_n 3, 1) := by decide +kernel
theorem dX5_comes_4 : decode cX5_comes 4 = .ok (.invokevirtual 90, 3) := by decide +kernel
theorem dX5_comes_7 : decode cX5_comes 7 = .ok (.istore 4, 2) := by decide +kernel
theorem dX5_comes_9 : decode cX5_comes 9 = .ok (.iload 4, 2) := by decide +kernel
theorem dX5_comes_11 : decode cX5_comes 11 = .ok (.ifCond .ge 6, 3) := by decide +kernel
theorem dX5_comes_14 : decode cX5_comes 14 = .ok (.iload 4, 2) := by decide +kernel
theorem dX5_comes_16 : decode cX5_comes 16 = .ok (.ireturn, 1) := by decide +kernel
theorem dX5_comes_17 : decode cX5_comes 17 = .ok (.iload 4, 2) := by decide +kernel
theorem dX5_comes_19 : decode cX5_comes 19 = .ok (.ifCond .le 12, 3) := by decide +kernel
theorem dX5_comes_22 : decode cX5_comes 22 = .ok (.iload 4, 2) := by decide +kernel
theorem dX5_comes_24 : decode cX5_comes 24 = .ok (.iconst 4, 1) := by decide +kernel
theorem dX5_comes_25 : decode cX5_comes 25 = .ok (.if_icmp .ge 6, 3) := by decide +kernel
theorem dX5_comes_28 : decode cX5_comes 28 = .ok (.bipush (-5), 2) := by decide +kernel
theorem dX5_comes_30 : decode cX5_comes 30 = .ok (.ireturn, 1) := by decide +kernel
theorem dX5_comes_31 : decode cX5_comes 31 = .ok (.aload_n 0, 1) := by decide +kernel
theorem dX5_comes_32 : decode cX5_comes 32 = .ok (.getfield 7, 3) := by decide +kernel
theorem dX5_comes_35 : decode cX5_comes 35 = .ok (.iconst 4, 1) := by decide +kernel
theorem dX5_comes_36 : decode cX5_comes 36 = .ok (.dup2, 1) := by decide +kernel
theorem dX5_comes_37 : decode cX5_comes 37 = .ok (.iaload, 1) := by decide +kernel
theorem dX5_comes_38 : decode cX5_comes 38 = .ok (.iload 4, 2) := by decide +kernel
theorem dX5_comes_40 : decode cX5_comes 40 = .ok (.iconst 4, 1) := by decide +kernel
theorem dX5_comes_41 : decode cX5_comes 41 = .ok (.if_icmp .ne 7, 3) := by decide +kernel
theorem dX5_comes_44 : decode cX5_comes 44 = .ok (.iconst 1, 1) := by decide +kernel
theorem dX5_comes_45 : decode cX5_comes 45 = .ok (.goto 4, 3) := by decide +kernel
theorem dX5_comes_48 : decode cX5_comes 48 = .ok (.iconst 0, 1) := by decide +kernel
theorem dX5_comes_49 : decode cX5_comes 49 = .ok (.iadd, 1) := by decide +kernel
theorem dX5_comes_50 : decode cX5_comes 50 = .ok (.iastore, 1) := by decide +kernel
theorem dX5_comes_51 : decode cX5_comes 51 = .ok (.aload_n 0, 1) := by decide +kernel
theorem dX5_comes_52 : decode cX5_comes 52 = .ok (.iload_n 1, 1) := by decide +kernel
theorem dX5_comes_53 : decode cX5_comes 53 = .ok (.iload_n 2, 1) := by decide +kernel
theorem dX5_comes_54 : decode cX5_comes 54 = .ok (.iload 4, 2) := by decide +kernel
theorem dX5_comes_56 : decode cX5_comes 56 = .ok (.iconst 4, 1) := by decide +kernel
theorem dX5_comes_57 : decode cX5_comes 57 = .ok (.if_icmp .ne 7, 3) := by decide +kernel
theorem dX5_comes_60 : decode cX5_comes 60 = .ok (.iconst 2, 1) := by decide +kernel
theorem dX5_comes_61 : decode cX5_comes 61 = .ok (.goto 4, 3) := by decide +kernel
theorem dX5_comes_64 : decode cX5_comes 64 = .ok (.iconst 1, 1) := by decide +kernel
theorem dX5_comes_65 : decode cX5_comes 65 = .ok (.iconst 0, 1) := by decide +kernel
theorem dX5_comes_66 : decode cX5_comes 66 = .ok (.invokevirtual 66, 3) := by decide +kernel
theorem dX5_comes_69 : decode cX5_comes 69 = .ok (.aload_n 0, 1) := by decide +kernel
theorem dX5_comes_70 : decode cX5_comes 70 = .ok (.iload_n 1, 1) := by decide +kernel
theorem dX5_comes_71 : decode cX5_comes 71 = .ok (.invokevirtual 87, 3) := by decide +kernel
theorem dX5_comes_74 : decode cX5_comes 74 = .ok (.ireturn, 1) := by decide +kernel
theorem dX5_loses_0 : decode cX5_loses 0 = .ok (.aload_n 0, 1) := by decide +kernel
theorem dX5_loses_1 : decode cX5_loses 1 = .ok (.iload_n 1, 1) := by decide +kernel
theorem dX5_loses_2 : decode cX5_loses 2 = .ok (.iload_n 2, 1) := by decide +kernel
theorem dX5_loses_3 : decode cX5_loses 3 = .ok (.invokevirtual 93, 3) := by decide +kernel
theorem dX5_loses_6 : decode cX5_loses 6 = .ok (.ifCond .ne 5, 3) := by decide +kernel
theorem dX5_loses_9 : decode cX5_loses 9 = .ok (.iconst (-1), 1) := by decide +kernel
theorem dX5_loses_10 : decode cX5_loses 10 = .ok (.ireturn, 1) := by decide +kernel
theorem dX5_loses_11 : decode cX5_loses 11 = .ok (.aload_n 0, 1) := by decide +kernel
theorem dX5_loses_12 : decode cX5_loses 12 = .ok (.iload_n 1, 1) := by decide +kernel
theorem dX5_loses_13 : decode cX5_loses 13 = .ok (.iload_n 2, 1) := by decide +kernel
theorem dX5_loses_14 : decode cX5_loses 14 = .ok (.iconst 0, 1) := by decide +kernel
theorem dX5_loses_15 : decode cX5_loses 15 = .ok (.invokevirtual 47, 3) := by decide +kernel
theorem dX5_loses_18 : decode cX5_loses 18 = .ok (.iconst 2, 1) := by decide +kernel
theorem dX5_loses_19 : decode cX5_loses 19 = .ok (.if_icmp .le 6, 3) := by decide +kernel
theorem dX5_loses_22 : decode cX5_loses 22 = .ok (.bipush (-5), 2) := by decide +kernel
theorem dX5_loses_24 : decode cX5_loses 24 = .ok (.ireturn, 1) := by decide +kernel
theorem dX5_loses_25 : decode cX5_loses 25 = .ok (.aload_n 0, 1) := by decide +kernel
theorem dX5_loses_26 : decode cX5_loses 26 = .ok (.iload_n 1, 1) := by decide +kernel
theorem dX5_loses_27 : decode cX5_loses 27 = .ok (.iload_n 2, 1) := by decide +kernel
theorem dX5_loses_28 : decode cX5_loses 28 = .ok (.iconst 4, 1) := by decide +kernel
theorem dX5_loses_29 : decode cX5_loses 29 = .ok (.iconst 0, 1) := by decide +kernel
theorem dX5_loses_30 : decode cX5_loses 30 = .ok (.invokevirtual 66, 3) := by decide +kernel
theorem dX5_loses_33 : decode cX5_loses 33 = .ok (.aload_n 0, 1) := by decide +kernel
theorem dX5_loses_34 : decode cX5_loses 34 = .ok (.iload_n 1, 1) := by decide +kernel
theorem dX5_loses_35 : decode cX5_loses 35 = .ok (.invokevirtual 70, 3) := by decide +kernel
theorem dX5_loses_38 : decode cX5_loses 38 = .ok (.invokestatic 96, 3) := by decide +kernel
theorem dX5_loses_41 : decode cX5_loses 41 = .ok (.ireturn, 1) := by decide +kernel
theorem dX5_waits_0 : decode cX5_waits 0 = .ok (.iload_n 1, 1) := by decide +kernel
theorem dX5_waits_1 : decode cX5_waits 1 = .ok (.i2l, 1) := by decide +kernel
theorem dX5_waits_2 : decode cX5_waits 2 = .ok (.iconst 1, 1) := by decide +kernel
theorem dX5_waits_3 : decode cX5_waits 3 = .ok (.bipush 99, 2) := by decide +kernel
theorem dX5_waits_5 : decode cX5_waits 5 = .ok (.invokestatic 35, 3) := by decide +kernel
theorem dX5_waits_8 : decode cX5_waits 8 = .ok (.ifCond .ne 6, 3) := by decide +kernel
theorem dX5_waits_11 : decode cX5_waits 11 = .ok (.bipush (-2), 2) := by decide +kernel
theorem dX5_waits_13 : decode cX5_waits 13 = .ok (.ireturn, 1) := by decide +kernel
theorem dX5_waits_14 : decode cX5_waits 14 = .ok (.aload_n 0, 1) := by decide +kernel
theorem dX5_waits_15 : decode cX5_waits 15 = .ok (.getfield 7, 3) := by decide +kernel
theorem dX5_waits_18 : decode cX5_waits 18 = .ok (.iconst 2, 1) := by decide +kernel
theorem dX5_waits_19 : decode cX5_waits 19 = .ok (.iaload, 1) := by decide +kernel
theorem dX5_waits_20 : decode cX5_waits 20 = .ok (.iload_n 1, 1) := by decide +kernel
theorem dX5_waits_21 : decode cX5_waits 21 = .ok (.iadd, 1) := by decide +kernel
theorem dX5_waits_22 : decode cX5_waits 22 = .ok (.sipush 9999, 3) := by decide +kernel
theorem dX5_waits_25 : decode cX5_waits 25 = .ok (.if_icmp .le 6, 3) := by decide +kernel
theorem dX5_waits_28 : decode cX5_waits 28 = .ok (.bipush (-5), 2) := by decide +kernel
theorem dX5_waits_30 : decode cX5_waits 30 = .ok (.ireturn, 1) := by decide +kernel
theorem dX5_waits_31 : decode cX5_waits 31 = .ok (.iconst 0, 1) := by decide +kernel
theorem dX5_waits_32 : decode cX5_waits 32 = .ok (.istore_n 2, 1) := by decide +kernel
theorem dX5_waits_33 : decode cX5_waits 33 = .ok (.iconst 0, 1) := by decide +kernel
theorem dX5_waits_34 : decode cX5_waits 34 = .ok (.istore_n 3, 1) := by decide +kernel
theorem dX5_waits_35 : decode cX5_waits 35 = .ok (.iload_n 3, 1) := by decide +kernel
theorem dX5_waits_36 : decode cX5_waits 36 = .ok (.iload_n 1, 1) := by decide +kernel
theorem dX5_waits_37 : decode cX5_waits 37 = .ok (.if_icmp .ge 48, 3) := by decide +kernel
theorem dX5_waits_40 : decode cX5_waits 40 = .ok (.aload_n 0, 1) := by decide +kernel
theorem dX5_waits_41 : decode cX5_waits 41 = .ok (.getfield 7, 3) := by decide +kernel
theorem dX5_waits_44 : decode cX5_waits 44 = .ok (.iconst 2, 1) := by decide +kernel
theorem dX5_waits_45 : decode cX5_waits 45 = .ok (.dup2, 1) := by decide +kernel
theorem dX5_waits_46 : decode cX5_waits 46 = .ok (.iaload, 1) := by decide +kernel
theorem dX5_waits_47 : decode cX5_waits 47 = .ok (.iconst 1, 1) := by decide +kernel
theorem dX5_waits_48 : decode cX5_waits 48 = .ok (.iadd, 1) := by decide +kernel
theorem dX5_waits_49 : decode cX5_waits 49 = .ok (.iastore, 1) := by decide +kernel
theorem dX5_waits_50 : decode cX5_waits 50 = .ok (.iconst 0, 1) := by decide +kernel
theorem dX5_waits_51 : decode cX5_waits 51 = .ok (.istore 4, 2) := by decide +kernel
theorem dX5_waits_53 : decode cX5_waits 53 = .ok (.iload 4, 2) := by decide +kernel
theorem dX5_waits_55 : decode cX5_waits 55 = .ok (.aload_n 0, 1) := by decide +kernel
theorem dX5_waits_56 : decode cX5_waits 56 = .ok (.getfield 7, 3) := by decide +kernel
theorem dX5_waits_59 : decode cX5_waits 59 = .ok (.iconst 3, 1) := by decide +kernel
theorem dX5_waits_60 : decode cX5_waits 60 = .ok (.iaload, 1) := by decide +kernel
theorem dX5_waits_61 : decode cX5_waits 61 = .ok (.if_icmp .ge 18, 3) := by decide +kernel
theorem dX5_waits_64 : decode cX5_waits 64 = .ok (.iload_n 2, 1) := by decide +kernel
theorem dX5_waits_65 : decode cX5_waits 65 = .ok (.aload_n 0, 1) := by decide +kernel
theorem dX5_waits_66 : decode cX5_waits 66 = .ok (.iload 4, 2) := by decide +kernel
theorem dX5_waits_68 : decode cX5_waits 68 = .ok (.invokevirtual 99, 3) := by decide +kernel
theorem dX5_waits_71 : decode cX5_waits 71 = .ok (.iadd, 1) := by decide +kernel
theorem dX5_waits_72 : decode cX5_waits 72 = .ok (.istore_n 2, 1) := by decide +kernel
theorem dX5_waits_73 : decode cX5_waits 73 = .ok (.iinc 4 1, 3) := by decide +kernel
theorem dX5_waits_76 : decode cX5_waits 76 = .ok (.goto (-23), 3) := by decide +kernel
theorem dX5_waits_79 : decode cX5_waits 79 = .ok (.iinc 3 1, 3) := by decide +kernel
theorem dX5_waits_82 : decode cX5_waits 82 = .ok (.goto (-47), 3) := by decide +kernel
theorem dX5_waits_85 : decode cX5_waits 85 = .ok (.iload_n 2, 1) := by decide +kernel
theorem dX5_waits_86 : decode cX5_waits 86 = .ok (.ireturn, 1) := by decide +kernel
theorem dX5_set_0 : decode cX5_set 0 = .ok (.iload_n 1, 1) := by decide +kernel
theorem dX5_set_1 : decode cX5_set 1 = .ok (.ifCond .ne 17, 3) := by decide +kernel
theorem dX5_set_4 : decode cX5_set 4 = .ok (.iload_n 2, 1) := by decide +kernel
theorem dX5_set_5 : decode cX5_set 5 = .ok (.i2l, 1) := by decide +kernel
theorem dX5_set_6 : decode cX5_set 6 = .ok (.iconst 0, 1) := by decide +kernel
theorem dX5_set_7 : decode cX5_set 7 = .ok (.bipush 99, 2) := by decide +kernel
theorem dX5_set_9 : decode cX5_set 9 = .ok (.invokestatic 35, 3) := by decide +kernel
theorem dX5_set_12 : decode cX5_set 12 = .ok (.ifCond .ne 25, 3) := by decide +kernel
theorem dX5_set_15 : decode cX5_set 15 = .ok (.goto 19, 3) := by decide +kernel
theorem dX5_set_18 : decode cX5_set 18 = .ok (.iload_n 1, 1) := by decide +kernel
theorem dX5_set_19 : decode cX5_set 19 = .ok (.iconst 1, 1) := by decide +kernel
theorem dX5_set_20 : decode cX5_set 20 = .ok (.if_icmp .ne 14, 3) := by decide +kernel
theorem dX5_set_23 : decode cX5_set 23 = .ok (.iload_n 2, 1) := by decide +kernel
theorem dX5_set_24 : decode cX5_set 24 = .ok (.i2l, 1) := by decide +kernel
theorem dX5_set_25 : decode cX5_set 25 = .ok (.iconst 1, 1) := by decide +kernel
theorem dX5_set_26 : decode cX5_set 26 = .ok (.bipush 99, 2) := by decide +kernel
theorem dX5_set_28 : decode cX5_set 28 = .ok (.invokestatic 35, 3) := by decide +kernel
theorem dX5_set_31 : decode cX5_set 31 = .ok (.ifCond .ne 6, 3) := by decide +kernel
theorem dX5_set_34 : decode cX5_set 34 = .ok (.bipush (-2), 2) := by decide +kernel
theorem dX5_set_36 : decode cX5_set 36 = .ok (.ireturn, 1) := by decide +kernel
theorem dX5_set_37 : decode cX5_set 37 = .ok (.aload_n 0, 1) := by decide +kernel
theorem dX5_set_38 : decode cX5_set 38 = .ok (.invokevirtual 59, 3) := by decide +kernel
theorem dX5_set_41 : decode cX5_set 41 = .ok (.aload_n 0, 1) := by decide +kernel
theorem dX5_set_42 : decode cX5_set 42 = .ok (.getfield 7, 3) := by decide +kernel
theorem dX5_set_45 : decode cX5_set 45 = .ok (.iload_n 1, 1) := by decide +kernel
theorem dX5_set_46 : decode cX5_set 46 = .ok (.iaload, 1) := by decide +kernel
theorem dX5_set_47 : decode cX5_set 47 = .ok (.istore_n 3, 1) := by decide +kernel
theorem dX5_set_48 : decode cX5_set 48 = .ok (.aload_n 0, 1) := by decide +kernel
theorem dX5_set_49 : decode cX5_set 49 = .ok (.getfield 7, 3) := by decide +kernel
theorem dX5_set_52 : decode cX5_set 52 = .ok (.iload_n 1, 1) := by decide +kernel
theorem dX5_set_53 : decode cX5_set 53 = .ok (.iload_n 2, 1) := by decide +kernel
theorem dX5_set_54 : decode cX5_set 54 = .ok (.iastore, 1) := by decide +kernel
theorem dX5_set_55 : decode cX5_set 55 = .ok (.aload_n 0, 1) := by decide +kernel
theorem dX5_set_56 : decode cX5_set 56 = .ok (.iload_n 3, 1) := by decide +kernel
theorem dX5_set_57 : decode cX5_set 57 = .ok (.invokevirtual 62, 3) := by decide +kernel
theorem dX5_set_60 : decode cX5_set 60 = .ok (.ireturn, 1) := by decide +kernel
theorem dX5_troop_0 : decode cX5_troop 0 = .ok (.aload_n 0, 1) := by decide +kernel
theorem dX5_troop_1 : decode cX5_troop 1 = .ok (.invokevirtual 59, 3) := by decide +kernel
theorem dX5_troop_4 : decode cX5_troop 4 = .ok (.aload_n 0, 1) := by decide +kernel
theorem dX5_troop_5 : decode cX5_troop 5 = .ok (.aload_n 0, 1) := by decide +kernel
theorem dX5_troop_6 : decode cX5_troop 6 = .ok (.iload_n 1, 1) := by decide +kernel
theorem dX5_troop_7 : decode cX5_troop 7 = .ok (.invokevirtual 102, 3) := by decide +kernel
theorem dX5_troop_10 : decode cX5_troop 10 = .ok (.invokevirtual 62, 3) := by decide +kernel
theorem dX5_troop_13 : decode cX5_troop 13 = .ok (.ireturn, 1) := by decide +kernel
theorem dX5_resize_0 : decode cX5_resize 0 = .ok (.aload_n 0, 1) := by decide +kernel
theorem dX5_resize_1 : decode cX5_resize 1 = .ok (.invokevirtual 59, 3) := by decide +kernel
theorem dX5_resize_4 : decode cX5_resize 4 = .ok (.aload_n 0, 1) := by decide +kernel
theorem dX5_resize_5 : decode cX5_resize 5 = .ok (.aload_n 0, 1) := by decide +kernel
theorem dX5_resize_6 : decode cX5_resize 6 = .ok (.iload_n 1, 1) := by decide +kernel
theorem dX5_resize_7 : decode cX5_resize 7 = .ok (.iload_n 2, 1) := by decide +kernel
theorem dX5_resize_8 : decode cX5_resize 8 = .ok (.invokevirtual 105, 3) := by decide +kernel
theorem dX5_resize_11 : decode cX5_resize 11 = .ok (.invokevirtual 62, 3) := by decide +kernel
theorem dX5_resize_14 : decode cX5_resize 14 = .ok (.ireturn, 1) := by decide +kernel
theorem dX5_come_0 : decode cX5_come 0 = .ok (.aload_n 0, 1) := by decide +kernel
theorem dX5_come_1 : decode cX5_come 1 = .ok (.invokevirtual 59, 3) := by decide +kernel
theorem dX5_come_4 : decode cX5_come 4 = .ok (.aload_n 0, 1) := by decide +kernel
theorem dX5_come_5 : decode cX5_come 5 = .ok (.aload_n 0, 1) := by decide +kernel
theorem dX5_come_6 : decode cX5_come 6 = .ok (.iload_n 1, 1) := by decide +kernel
theorem dX5_come_7 : decode cX5_come 7 = .ok (.iload_n 2, 1) := by decide +kernel
theorem dX5_come_8 : decode cX5_come 8 = .ok (.iload_n 3, 1) := by decide +kernel
theorem dX5_come_9 : decode cX5_come 9 = .ok (.invokevirtual 108, 3) := by decide +kernel
theorem dX5_come_12 : decode cX5_come 12 = .ok (.invokevirtual 62, 3) := by decide +kernel
theorem dX5_come_15 : decode cX5_come 15 = .ok (.ireturn, 1) := by decide +kernel
theorem dX5_lose_0 : decode cX5_lose 0 = .ok (.aload_n 0, 1) := by decide +kernel
theorem dX5_lose_1 : decode cX5_lose 1 = .ok (.invokevirtual 59, 3) := by decide +kernel
theorem dX5_lose_4 : decode cX5_lose 4 = .ok (.aload_n 0, 1) := by decide +kernel
theorem dX5_lose_5 : decode cX5_lose 5 = .ok (.aload_n 0, 1) := by decide +kernel
theorem dX5_lose_6 : decode cX5_lose 6 = .ok (.iload_n 1, 1) := by decide +kernel
theorem dX5_lose_7 : decode cX5_lose 7 = .ok (.iload_n 2, 1) := by decide +kernel
theorem dX5_lose_8 : decode cX5_lose 8 = .ok (.invokevirtual 111, 3) := by decide +kernel
theorem dX5_lose_11 : decode cX5_lose 11 = .ok (.invokevirtual 62, 3) := by decide +kernel
theorem dX5_lose_14 : decode cX5_lose 14 = .ok (.ireturn, 1) := by decide +kernel
theorem dX5_find_0 : decode cX5_find 0 = .ok (.aload_n 0, 1) := by decide +kernel
theorem dX5_find_1 : decode cX5_find 1 = .ok (.iload_n 1, 1) := by decide +kernel
theorem dX5_find_2 : decode cX5_find 2 = .ok (.iload_n 2, 1) := by decide +kernel
theorem dX5_find_3 : decode cX5_find 3 = .ok (.invokevirtual 93, 3) := by decide +kernel
theorem dX5_find_6 : decode cX5_find 6 = .ok (.ifCond .ne 5, 3) := by decide +kernel
theorem dX5_find_9 : decode cX5_find 9 = .ok (.iconst (-1), 1) := by decide +kernel
theorem dX5_find_10 : decode cX5_find 10 = .ok (.ireturn, 1) := by decide +kernel
theorem dX5_find_11 : decode cX5_find 11 = .ok (.aload_n 0, 1) := by decide +kernel
theorem dX5_find_12 : decode cX5_find 12 = .ok (.iload_n 1, 1) := by decide +kernel
theorem dX5_find_13 : decode cX5_find 13 = .ok (.iload_n 2, 1) := by decide +kernel
theorem dX5_find_14 : decode cX5_find 14 = .ok (.iconst 0, 1) := by decide +kernel
theorem dX5_find_15 : decode cX5_find 15 = .ok (.invokevirtual 47, 3) := by decide +kernel
theorem dX5_find_18 : decode cX5_find 18 = .ok (.iconst 4, 1) := by decide +kernel
theorem dX5_find_19 : decode cX5_find 19 = .ok (.if_icmp .eq 6, 3) := by decide +kernel
theorem dX5_find_22 : decode cX5_find 22 = .ok (.bipush (-5), 2) := by decide +kernel
theorem dX5_find_24 : decode cX5_find 24 = .ok (.ireturn, 1) := by decide +kernel
theorem dX5_find_25 : decode cX5_find 25 = .ok (.aload_n 0, 1) := by decide +kernel
theorem dX5_find_26 : decode cX5_find 26 = .ok (.invokevirtual 59, 3) := by decide +kernel
theorem dX5_find_29 : decode cX5_find 29 = .ok (.aload_n 0, 1) := by decide +kernel
theorem dX5_find_30 : decode cX5_find 30 = .ok (.iload_n 1, 1) := by decide +kernel
theorem dX5_find_31 : decode cX5_find 31 = .ok (.iload_n 2, 1) := by decide +kernel
theorem dX5_find_32 : decode cX5_find 32 = .ok (.iconst 1, 1) := by decide +kernel
theorem dX5_find_33 : decode cX5_find 33 = .ok (.invokevirtual 47, 3) := by decide +kernel
theorem dX5_find_36 : decode cX5_find 36 = .ok (.istore_n 3, 1) := by decide +kernel
theorem dX5_find_37 : decode cX5_find 37 = .ok (.aload_n 0, 1) := by decide +kernel
theorem dX5_find_38 : decode cX5_find 38 = .ok (.iload_n 1, 1) := by decide +kernel
theorem dX5_find_39 : decode cX5_find 39 = .ok (.iload_n 2, 1) := by decide +kernel
theorem dX5_find_40 : decode cX5_find 40 = .ok (.iconst 0, 1) := by decide +kernel
theorem dX5_find_41 : decode cX5_find 41 = .ok (.iconst 0, 1) := by decide +kernel
theorem dX5_find_42 : decode cX5_find 42 = .ok (.invokevirtual 66, 3) := by decide +kernel
theorem dX5_find_45 : decode cX5_find 45 = .ok (.aload_n 0, 1) := by decide +kernel
theorem dX5_find_46 : decode cX5_find 46 = .ok (.iload_n 3, 1) := by decide +kernel
theorem dX5_find_47 : decode cX5_find 47 = .ok (.invokevirtual 62, 3) := by decide +kernel
theorem dX5_find_50 : decode cX5_find 50 = .ok (.ireturn, 1) := by decide +kernel
theorem dX5_pass_0 : decode cX5_pass 0 = .ok (.aload_n 0, 1) := by decide +kernel
theorem dX5_pass_1 : decode cX5_pass 1 = .ok (.invokevirtual 59, 3) := by decide +kernel
theorem dX5_pass_4 : decode cX5_pass 4 = .ok (.aload_n 0, 1) := by decide +kernel
theorem dX5_pass_5 : decode cX5_pass 5 = .ok (.aload_n 0, 1) := by decide +kernel
theorem dX5_pass_6 : decode cX5_pass 6 = .ok (.iload_n 1, 1) := by decide +kernel
theorem dX5_pass_7 : decode cX5_pass 7 = .ok (.invokevirtual 114, 3) := by decide +kernel
theorem dX5_pass_10 : decode cX5_pass 10 = .ok (.invokevirtual 62, 3) := by decide +kernel
theorem dX5_pass_13 : decode cX5_pass 13 = .ok (.ireturn, 1) := by decide +kernel
theorem dX5_ofTroop_0 : decode cX5_ofTroop 0 = .ok (.aload_n 0, 1) := by decide +kernel
theorem dX5_ofTroop_1 : decode cX5_ofTroop 1 = .ok (.iload_n 1, 1) := by decide +kernel
theorem dX5_ofTroop_2 : decode cX5_ofTroop 2 = .ok (.invokevirtual 39, 3) := by decide +kernel
theorem dX5_ofTroop_5 : decode cX5_ofTroop 5 = .ok (.ifCond .ne 5, 3) := by decide +kernel
theorem dX5_ofTroop_8 : decode cX5_ofTroop 8 = .ok (.iconst (-1), 1) := by decide +kernel
theorem dX5_ofTroop_9 : decode cX5_ofTroop 9 = .ok (.ireturn, 1) := by decide +kernel
theorem dX5_ofTroop_10 : decode cX5_ofTroop 10 = .ok (.iload_n 2, 1) := by decide +kernel
theorem dX5_ofTroop_11 : decode cX5_ofTroop 11 = .ok (.i2l, 1) := by decide +kernel
theorem dX5_ofTroop_12 : decode cX5_ofTroop 12 = .ok (.iconst 5, 1) := by decide +kernel
theorem dX5_ofTroop_13 : decode cX5_ofTroop 13 = .ok (.bipush 9, 2) := by decide +kernel
theorem dX5_ofTroop_15 : decode cX5_ofTroop 15 = .ok (.invokestatic 35, 3) := by decide +kernel
theorem dX5_ofTroop_18 : decode cX5_ofTroop 18 = .ok (.ifCond .eq 12, 3) := by decide +kernel
theorem dX5_ofTroop_21 : decode cX5_ofTroop 21 = .ok (.aload_n 0, 1) := by decide +kernel
theorem dX5_ofTroop_22 : decode cX5_ofTroop 22 = .ok (.iload_n 1, 1) := by decide +kernel
theorem dX5_ofTroop_23 : decode cX5_ofTroop 23 = .ok (.iload_n 2, 1) := by decide +kernel
theorem dX5_ofTroop_24 : decode cX5_ofTroop 24 = .ok (.iconst 5, 1) := by decide +kernel
theorem dX5_ofTroop_25 : decode cX5_ofTroop 25 = .ok (.isub, 1) := by decide +kernel
theorem dX5_ofTroop_26 : decode cX5_ofTroop 26 = .ok (.invokevirtual 73, 3) := by decide +kernel
theorem dX5_ofTroop_29 : decode cX5_ofTroop 29 = .ok (.ireturn, 1) := by decide +kernel
theorem dX5_ofTroop_30 : decode cX5_ofTroop 30 = .ok (.iload_n 2, 1) := by decide +kernel
theorem dX5_ofTroop_31 : decode cX5_ofTroop 31 = .ok (.tableswitch 112 0 11 #[61, 68, 75, 82, 91, 112, 112, 112, 112, 112, 98, 105], 61) := by decide +kernel
theorem dX5_ofTroop_92 : decode cX5_ofTroop 92 = .ok (.aload_n 0, 1) := by decide +kernel
theorem dX5_ofTroop_93 : decode cX5_ofTroop 93 = .ok (.iload_n 1, 1) := by decide +kernel
theorem dX5_ofTroop_94 : decode cX5_ofTroop 94 = .ok (.iconst 0, 1) := by decide +kernel
theorem dX5_ofTroop_95 : decode cX5_ofTroop 95 = .ok (.invokevirtual 43, 3) := by decide +kernel
theorem dX5_ofTroop_98 : decode cX5_ofTroop 98 = .ok (.ireturn, 1) := by decide +kernel
theorem dX5_ofTroop_99 : decode cX5_ofTroop 99 = .ok (.aload_n 0, 1) := by decide +kernel
theorem dX5_ofTroop_100 : decode cX5_ofTroop 100 = .ok (.iload_n 1, 1) := by decide +kernel
theorem dX5_ofTroop_101 : decode cX5_ofTroop 101 = .ok (.iconst 1, 1) := by decide +kernel
theorem dX5_ofTroop_102 : decode cX5_ofTroop 102 = .ok (.invokevirtual 43, 3) := by decide +kernel
theorem dX5_ofTroop_105 : decode cX5_ofTroop 105 = .ok (.ireturn, 1) := by decide +kernel
theorem dX5_ofTroop_106 : decode cX5_ofTroop 106 = .ok (.aload_n 0, 1) := by decide +kernel
theorem dX5_ofTroop_107 : decode cX5_ofTroop 107 = .ok (.iload_n 1, 1) := by decide +kernel
theorem dX5_ofTroop_108 : decode cX5_ofTroop 108 = .ok (.iconst 2, 1) := by decide +kernel
theorem dX5_ofTroop_109 : decode cX5_ofTroop 109 = .ok (.invokevirtual 43, 3) := by decide +kernel
theorem dX5_ofTroop_112 : decode cX5_ofTroop 112 = .ok (.ireturn, 1) := by decide +kernel
theorem dX5_ofTroop_113 : decode cX5_ofTroop 113 = .ok (.aload_n 0, 1) := by decide +kernel
theorem dX5_ofTroop_114 : decode cX5_ofTroop 114 = .ok (.iload_n 1, 1) := by decide +kernel
theorem dX5_ofTroop_115 : decode cX5_ofTroop 115 = .ok (.invokevirtual 70, 3) := by decide +kernel
theorem dX5_ofTroop_118 : decode cX5_ofTroop 118 = .ok (.invokestatic 96, 3) := by decide +kernel
theorem dX5_ofTroop_121 : decode cX5_ofTroop 121 = .ok (.ireturn, 1) := by decide +kernel
theorem dX5_ofTroop_122 : decode cX5_ofTroop 122 = .ok (.aload_n 0, 1) := by decide +kernel
theorem dX5_ofTroop_123 : decode cX5_ofTroop 123 = .ok (.iload_n 1, 1) := by decide +kernel
theorem dX5_ofTroop_124 : decode cX5_ofTroop 124 = .ok (.iconst 3, 1) := by decide +kernel
theorem dX5_ofTroop_125 : decode cX5_ofTroop 125 = .ok (.invokevirtual 43, 3) := by decide +kernel
theorem dX5_ofTroop_128 : decode cX5_ofTroop 128 = .ok (.ireturn, 1) := by decide +kernel
theorem dX5_ofTroop_129 : decode cX5_ofTroop 129 = .ok (.aload_n 0, 1) := by decide +kernel
theorem dX5_ofTroop_130 : decode cX5_ofTroop 130 = .ok (.iload_n 1, 1) := by decide +kernel
theorem dX5_ofTroop_131 : decode cX5_ofTroop 131 = .ok (.iconst 5, 1) := by decide +kernel
theorem dX5_ofTroop_132 : decode cX5_ofTroop 132 = .ok (.invokevirtual 43, 3) := by decide +kernel
theorem dX5_ofTroop_135 : decode cX5_ofTroop 135 = .ok (.ireturn, 1) := by decide +kernel
theorem dX5_ofTroop_136 : decode cX5_ofTroop 136 = .ok (.aload_n 0, 1) := by decide +kernel
theorem dX5_ofTroop_137 : decode cX5_ofTroop 137 = .ok (.iload_n 1, 1) := by decide +kernel
theorem dX5_ofTroop_138 : decode cX5_ofTroop 138 = .ok (.iconst 4, 1) := by decide +kernel
theorem dX5_ofTroop_139 : decode cX5_ofTroop 139 = .ok (.invokevirtual 43, 3) := by decide +kernel
theorem dX5_ofTroop_142 : decode cX5_ofTroop 142 = .ok (.ireturn, 1) := by decide +kernel
theorem dX5_ofTroop_143 : decode cX5_ofTroop 143 = .ok (.bipush (-2), 2) := by decide +kernel
theorem dX5_ofTroop_145 : decode cX5_ofTroop 145 = .ok (.ireturn, 1) := by decide +kernel
theorem dX5_of_0 : decode cX5_of 0 = .ok (.aload_n 0, 1) := by decide +kernel
theorem dX5_of_1 : decode cX5_of 1 = .ok (.iload_n 1, 1) := by decide +kernel
theorem dX5_of_2 : decode cX5_of 2 = .ok (.invokevirtual 39, 3) := by decide +kernel
theorem dX5_of_5 : decode cX5_of 5 = .ok (.ifCond .eq 35, 3) := by decide +kernel
theorem dX5_of_8 : decode cX5_of 8 = .ok (.iload_n 2, 1) := by decide +kernel
theorem dX5_of_9 : decode cX5_of 9 = .ok (.i2l, 1) := by decide +kernel
theorem dX5_of_10 : decode cX5_of 10 = .ok (.iconst 0, 1) := by decide +kernel
theorem dX5_of_11 : decode cX5_of 11 = .ok (.bipush 15, 2) := by decide +kernel
theorem dX5_of_13 : decode cX5_of 13 = .ok (.invokestatic 35, 3) := by decide +kernel
theorem dX5_of_16 : decode cX5_of 16 = .ok (.ifCond .eq 24, 3) := by decide +kernel
theorem dX5_of_19 : decode cX5_of 19 = .ok (.iload_n 2, 1) := by decide +kernel
theorem dX5_of_20 : decode cX5_of 20 = .ok (.aload_n 0, 1) := by decide +kernel
theorem dX5_of_21 : decode cX5_of 21 = .ok (.iload_n 1, 1) := by decide +kernel
theorem dX5_of_22 : decode cX5_of 22 = .ok (.iconst 0, 1) := by decide +kernel
theorem dX5_of_23 : decode cX5_of 23 = .ok (.invokevirtual 43, 3) := by decide +kernel
theorem dX5_of_26 : decode cX5_of 26 = .ok (.if_icmp .lt 16, 3) := by decide +kernel
theorem dX5_of_29 : decode cX5_of 29 = .ok (.aload_n 0, 1) := by decide +kernel
theorem dX5_of_30 : decode cX5_of 30 = .ok (.iload_n 1, 1) := by decide +kernel
theorem dX5_of_31 : decode cX5_of 31 = .ok (.iload_n 2, 1) := by decide +kernel
theorem dX5_of_32 : decode cX5_of 32 = .ok (.iconst 0, 1) := by decide +kernel
theorem dX5_of_33 : decode cX5_of 33 = .ok (.invokevirtual 47, 3) := by decide +kernel
theorem dX5_of_36 : decode cX5_of 36 = .ok (.iconst 3, 1) := by decide +kernel
theorem dX5_of_37 : decode cX5_of 37 = .ok (.if_icmp .eq 5, 3) := by decide +kernel
theorem dX5_of_40 : decode cX5_of 40 = .ok (.iconst (-1), 1) := by decide +kernel
theorem dX5_of_41 : decode cX5_of 41 = .ok (.ireturn, 1) := by decide +kernel
theorem dX5_of_42 : decode cX5_of 42 = .ok (.iload_n 3, 1) := by decide +kernel
theorem dX5_of_43 : decode cX5_of 43 = .ok (.i2l, 1) := by decide +kernel
theorem dX5_of_44 : decode cX5_of 44 = .ok (.iconst 0, 1) := by decide +kernel
theorem dX5_of_45 : decode cX5_of 45 = .ok (.iconst 2, 1) := by decide +kernel
theorem dX5_of_46 : decode cX5_of 46 = .ok (.invokestatic 35, 3) := by decide +kernel
theorem dX5_of_49 : decode cX5_of 49 = .ok (.ifCond .eq 13, 3) := by decide +kernel
theorem dX5_of_52 : decode cX5_of 52 = .ok (.aload_n 0, 1) := by decide +kernel
theorem dX5_of_53 : decode cX5_of 53 = .ok (.iload_n 1, 1) := by decide +kernel
theorem dX5_of_54 : decode cX5_of 54 = .ok (.iload_n 2, 1) := by decide +kernel
theorem dX5_of_55 : decode cX5_of 55 = .ok (.iload_n 3, 1) := by decide +kernel
theorem dX5_of_56 : decode cX5_of 56 = .ok (.invokevirtual 47, 3) := by decide +kernel
theorem dX5_of_59 : decode cX5_of 59 = .ok (.goto 23, 3) := by decide +kernel
theorem dX5_of_62 : decode cX5_of 62 = .ok (.iload_n 3, 1) := by decide +kernel
theorem dX5_of_63 : decode cX5_of 63 = .ok (.iconst 3, 1) := by decide +kernel
theorem dX5_of_64 : decode cX5_of 64 = .ok (.if_icmp .ne 16, 3) := by decide +kernel
theorem dX5_of_67 : decode cX5_of 67 = .ok (.aload_n 0, 1) := by decide +kernel
theorem dX5_of_68 : decode cX5_of 68 = .ok (.iload_n 1, 1) := by decide +kernel
theorem dX5_of_69 : decode cX5_of 69 = .ok (.iconst 5, 1) := by decide +kernel
theorem dX5_of_70 : decode cX5_of 70 = .ok (.invokevirtual 43, 3) := by decide +kernel
theorem dX5_of_73 : decode cX5_of 73 = .ok (.iload_n 2, 1) := by decide +kernel
theorem dX5_of_74 : decode cX5_of 74 = .ok (.ishr, 1) := by decide +kernel
theorem dX5_of_75 : decode cX5_of 75 = .ok (.iconst 1, 1) := by decide +kernel
theorem dX5_of_76 : decode cX5_of 76 = .ok (.iand, 1) := by decide +kernel
theorem dX5_of_77 : decode cX5_of 77 = .ok (.goto 5, 3) := by decide +kernel
theorem dX5_of_80 : decode cX5_of 80 = .ok (.bipush (-2), 2) := by decide +kernel
theorem dX5_of_82 : decode cX5_of 82 = .ok (.ireturn, 1) := by decide +kernel
theorem dX5_sum_0 : decode cX5_sum 0 = .ok (.iconst 0, 1) := by decide +kernel
theorem dX5_sum_1 : decode cX5_sum 1 = .ok (.istore_n 2, 1) := by decide +kernel
theorem dX5_sum_2 : decode cX5_sum 2 = .ok (.iconst 0, 1) := by decide +kernel
theorem dX5_sum_3 : decode cX5_sum 3 = .ok (.istore_n 3, 1) := by decide +kernel
theorem dX5_sum_4 : decode cX5_sum 4 = .ok (.iload_n 3, 1) := by decide +kernel
theorem dX5_sum_5 : decode cX5_sum 5 = .ok (.aload_n 0, 1) := by decide +kernel
theorem dX5_sum_6 : decode cX5_sum 6 = .ok (.getfield 7, 3) := by decide +kernel
theorem dX5_sum_9 : decode cX5_sum 9 = .ok (.iconst 3, 1) := by decide +kernel
theorem dX5_sum_10 : decode cX5_sum 10 = .ok (.iaload, 1) := by decide +kernel
theorem dX5_sum_11 : decode cX5_sum 11 = .ok (.if_icmp .ge 35, 3) := by decide +kernel
theorem dX5_sum_14 : decode cX5_sum 14 = .ok (.iload_n 2, 1) := by decide +kernel
theorem dX5_sum_15 : decode cX5_sum 15 = .ok (.iload_n 1, 1) := by decide +kernel
theorem dX5_sum_16 : decode cX5_sum 16 = .ok (.iconst 2, 1) := by decide +kernel
theorem dX5_sum_17 : decode cX5_sum 17 = .ok (.if_icmp .ne 12, 3) := by decide +kernel
theorem dX5_sum_20 : decode cX5_sum 20 = .ok (.aload_n 0, 1) := by decide +kernel
theorem dX5_sum_21 : decode cX5_sum 21 = .ok (.iload_n 3, 1) := by decide +kernel
theorem dX5_sum_22 : decode cX5_sum 22 = .ok (.iconst 3, 1) := by decide +kernel
theorem dX5_sum_23 : decode cX5_sum 23 = .ok (.invokevirtual 43, 3) := by decide +kernel
theorem dX5_sum_26 : decode cX5_sum 26 = .ok (.goto 12, 3) := by decide +kernel
theorem dX5_sum_29 : decode cX5_sum 29 = .ok (.aload_n 0, 1) := by decide +kernel
theorem dX5_sum_30 : decode cX5_sum 30 = .ok (.iload_n 3, 1) := by decide +kernel
theorem dX5_sum_31 : decode cX5_sum 31 = .ok (.iload_n 1, 1) := by decide +kernel
theorem dX5_sum_32 : decode cX5_sum 32 = .ok (.invokevirtual 73, 3) := by decide +kernel
theorem dX5_sum_35 : decode cX5_sum 35 = .ok (.invokestatic 96, 3) := by decide +kernel
theorem dX5_sum_38 : decode cX5_sum 38 = .ok (.iadd, 1) := by decide +kernel
theorem dX5_sum_39 : decode cX5_sum 39 = .ok (.istore_n 2, 1) := by decide +kernel
theorem dX5_sum_40 : decode cX5_sum 40 = .ok (.iinc 3 1, 3) := by decide +kernel
theorem dX5_sum_43 : decode cX5_sum 43 = .ok (.goto (-39), 3) := by decide +kernel
theorem dX5_sum_46 : decode cX5_sum 46 = .ok (.iload_n 2, 1) := by decide +kernel
theorem dX5_sum_47 : decode cX5_sum 47 = .ok (.ireturn, 1) := by decide +kernel
theorem dX5_count_0 : decode cX5_count 0 = .ok (.iload_n 1, 1) := by decide +kernel
theorem dX5_count_1 : decode cX5_count 1 = .ok (.tableswitch 102 0 9 #[55, 62, 69, 69, 69, 75, 82, 82, 92, 97], 55) := by decide +kernel
theorem dX5_count_56 : decode cX5_count 56 = .ok (.aload_n 0, 1) := by decide +kernel
theorem dX5_count_57 : decode cX5_count 57 = .ok (.getfield 7, 3) := by decide +kernel
theorem dX5_count_60 : decode cX5_count 60 = .ok (.iconst 2, 1) := by decide +kernel
theorem dX5_count_61 : decode cX5_count 61 = .ok (.iaload, 1) := by decide +kernel
theorem dX5_count_62 : decode cX5_count 62 = .ok (.ireturn, 1) := by decide +kernel
theorem dX5_count_63 : decode cX5_count 63 = .ok (.aload_n 0, 1) := by decide +kernel
theorem dX5_count_64 : decode cX5_count 64 = .ok (.getfield 7, 3) := by decide +kernel
theorem dX5_count_67 : decode cX5_count 67 = .ok (.iconst 3, 1) := by decide +kernel
theorem dX5_count_68 : decode cX5_count 68 = .ok (.iaload, 1) := by decide +kernel
theorem dX5_count_69 : decode cX5_count 69 = .ok (.ireturn, 1) := by decide +kernel
theorem dX5_count_70 : decode cX5_count 70 = .ok (.aload_n 0, 1) := by decide +kernel
theorem dX5_count_71 : decode cX5_count 71 = .ok (.iload_n 1, 1) := by decide +kernel
theorem dX5_count_72 : decode cX5_count 72 = .ok (.invokevirtual 117, 3) := by decide +kernel
theorem dX5_count_75 : decode cX5_count 75 = .ok (.ireturn, 1) := by decide +kernel
theorem dX5_count_76 : decode cX5_count 76 = .ok (.aload_n 0, 1) := by decide +kernel
theorem dX5_count_77 : decode cX5_count 77 = .ok (.getfield 7, 3) := by decide +kernel
theorem dX5_count_80 : decode cX5_count 80 = .ok (.iconst 4, 1) := by decide +kernel
theorem dX5_count_81 : decode cX5_count 81 = .ok (.iaload, 1) := by decide +kernel
theorem dX5_count_82 : decode cX5_count 82 = .ok (.ireturn, 1) := by decide +kernel
theorem dX5_count_83 : decode cX5_count 83 = .ok (.aload_n 0, 1) := by decide +kernel
theorem dX5_count_84 : decode cX5_count 84 = .ok (.getfield 7, 3) := by decide +kernel
theorem dX5_count_87 : decode cX5_count 87 = .ok (.iload_n 1, 1) := by decide +kernel
theorem dX5_count_88 : decode cX5_count 88 = .ok (.bipush 6, 2) := by decide +kernel
theorem dX5_count_90 : decode cX5_count 90 = .ok (.isub, 1) := by decide +kernel
theorem dX5_count_91 : decode cX5_count 91 = .ok (.iaload, 1) := by decide +kernel
theorem dX5_count_92 : decode cX5_count 92 = .ok (.ireturn, 1) := by decide +kernel
theorem dX5_count_93 : decode cX5_count 93 = .ok (.aload_n 0, 1) := by decide +kernel
theorem dX5_count_94 : decode cX5_count 94 = .ok (.getfield 120, 3) := by decide +kernel
theorem dX5_count_97 : decode cX5_count 97 = .ok (.ireturn, 1) := by decide +kernel
theorem dX5_count_98 : decode cX5_count 98 = .ok (.aload_n 0, 1) := by decide +kernel
theorem dX5_count_99 : decode cX5_count 99 = .ok (.getfield 55, 3) := by decide +kernel
theorem dX5_count_102 : decode cX5_count 102 = .ok (.ireturn, 1) := by decide +kernel
theorem dX5_count_103 : decode cX5_count 103 = .ok (.bipush (-2), 2) := by decide +kernel
theorem dX5_count_105 : decode cX5_count 105 = .ok (.ireturn, 1) := by decide +kernel
theorem dX5_why_0 : decode cX5_why 0 = .ok (.aload_n 0, 1) := by decide +kernel
theorem dX5_why_1 : decode cX5_why 1 = .ok (.iload_n 1, 1) := by decide +kernel
theorem dX5_why_2 : decode cX5_why 2 = .ok (.iload_n 2, 1) := by decide +kernel
theorem dX5_why_3 : decode cX5_why 3 = .ok (.invokevirtual 93, 3) := by decide +kernel
theorem dX5_why_6 : decode cX5_why 6 = .ok (.ifCond .ne 5, 3) := by decide +kernel
theorem dX5_why_9 : decode cX5_why 9 = .ok (.iconst (-1), 1) := by decide +kernel
theorem dX5_why_10 : decode cX5_why 10 = .ok (.ireturn, 1) := by decide +kernel
theorem dX5_why_11 : decode cX5_why 11 = .ok (.iload_n 3, 1) := by decide +kernel
theorem dX5_why_12 : decode cX5_why 12 = .ok (.i2l, 1) := by decide +kernel
theorem dX5_why_13 : decode cX5_why 13 = .ok (.iconst 0, 1) := by decide +kernel
theorem dX5_why_14 : decode cX5_why 14 = .ok (.iconst 1, 1) := by decide +kernel
theorem dX5_why_15 : decode cX5_why 15 = .ok (.invokestatic 35, 3) := by decide +kernel
theorem dX5_why_18 : decode cX5_why 18 = .ok (.ifCond .ne 6, 3) := by decide +kernel
theorem dX5_why_21 : decode cX5_why 21 = .ok (.bipush (-2), 2) := by decide +kernel
theorem dX5_why_23 : decode cX5_why 23 = .ok (.ireturn, 1) := by decide +kernel
theorem dX5_why_24 : decode cX5_why 24 = .ok (.aload_n 0, 1) := by decide +kernel
theorem dX5_why_25 : decode cX5_why 25 = .ok (.iload_n 1, 1) := by decide +kernel
theorem dX5_why_26 : decode cX5_why 26 = .ok (.iload_n 2, 1) := by decide +kernel
theorem dX5_why_27 : decode cX5_why 27 = .ok (.iconst 0, 1) := by decide +kernel
theorem dX5_why_28 : decode cX5_why 28 = .ok (.invokevirtual 47, 3) := by decide +kernel
theorem dX5_why_31 : decode cX5_why 31 = .ok (.istore 4, 2) := by decide +kernel
theorem dX5_why_33 : decode cX5_why 33 = .ok (.iload 4, 2) := by decide +kernel
theorem dX5_why_35 : decode cX5_why 35 = .ok (.iconst 3, 1) := by decide +kernel
theorem dX5_why_36 : decode cX5_why 36 = .ok (.if_icmp .ne 7, 3) := by decide +kernel
theorem dX5_why_39 : decode cX5_why 39 = .ok (.iconst 1, 1) := by decide +kernel
theorem dX5_why_40 : decode cX5_why 40 = .ok (.goto 38, 3) := by decide +kernel
theorem dX5_why_43 : decode cX5_why 43 = .ok (.iload 4, 2) := by decide +kernel
theorem dX5_why_45 : decode cX5_why 45 = .ok (.iconst 1, 1) := by decide +kernel
theorem dX5_why_46 : decode cX5_why 46 = .ok (.if_icmp .ne 7, 3) := by decide +kernel
theorem dX5_why_49 : decode cX5_why 49 = .ok (.iconst 2, 1) := by decide +kernel
theorem dX5_why_50 : decode cX5_why 50 = .ok (.goto 28, 3) := by decide +kernel
theorem dX5_why_53 : decode cX5_why 53 = .ok (.iload 4, 2) := by decide +kernel
theorem dX5_why_55 : decode cX5_why 55 = .ok (.iconst 2, 1) := by decide +kernel
theorem dX5_why_56 : decode cX5_why 56 = .ok (.if_icmp .ne 7, 3) := by decide +kernel
theorem dX5_why_59 : decode cX5_why 59 = .ok (.iconst 3, 1) := by decide +kernel
theorem dX5_why_60 : decode cX5_why 60 = .ok (.goto 18, 3) := by decide +kernel
theorem dX5_why_63 : decode cX5_why 63 = .ok (.iload_n 3, 1) := by decide +kernel
theorem dX5_why_64 : decode cX5_why 64 = .ok (.aload_n 0, 1) := by decide +kernel
theorem dX5_why_65 : decode cX5_why 65 = .ok (.iload_n 1, 1) := by decide +kernel
theorem dX5_why_66 : decode cX5_why 66 = .ok (.iconst 1, 1) := by decide +kernel
theorem dX5_why_67 : decode cX5_why 67 = .ok (.invokevirtual 43, 3) := by decide +kernel
theorem dX5_why_70 : decode cX5_why 70 = .ok (.if_icmp .ne 7, 3) := by decide +kernel
theorem dX5_why_73 : decode cX5_why 73 = .ok (.iconst 0, 1) := by decide +kernel
theorem dX5_why_74 : decode cX5_why 74 = .ok (.goto 4, 3) := by decide +kernel
theorem dX5_why_77 : decode cX5_why 77 = .ok (.iconst 4, 1) := by decide +kernel
theorem dX5_why_78 : decode cX5_why 78 = .ok (.ireturn, 1) := by decide +kernel
theorem dX5_waitsFor_0 : decode cX5_waitsFor 0 = .ok (.aload_n 0, 1) := by decide +kernel
theorem dX5_waitsFor_1 : decode cX5_waitsFor 1 = .ok (.iload_n 1, 1) := by decide +kernel
theorem dX5_waitsFor_2 : decode cX5_waitsFor 2 = .ok (.invokevirtual 39, 3) := by decide +kernel
theorem dX5_waitsFor_5 : decode cX5_waitsFor 5 = .ok (.ifCond .eq 11, 3) := by decide +kernel
theorem dX5_waitsFor_8 : decode cX5_waitsFor 8 = .ok (.aload_n 0, 1) := by decide +kernel
theorem dX5_waitsFor_9 : decode cX5_waitsFor 9 = .ok (.iload_n 1, 1) := by decide +kernel
theorem dX5_waitsFor_10 : decode cX5_waitsFor 10 = .ok (.invokevirtual 70, 3) := by decide +kernel
theorem dX5_waitsFor_13 : decode cX5_waitsFor 13 = .ok (.goto 4, 3) := by decide +kernel
theorem dX5_waitsFor_16 : decode cX5_waitsFor 16 = .ok (.iconst (-1), 1) := by decide +kernel
theorem dX5_waitsFor_17 : decode cX5_waitsFor 17 = .ok (.ireturn, 1) := by decide +kernel
theorem dX5_opensIn_0 : decode cX5_opensIn 0 = .ok (.aload_n 0, 1) := by decide +kernel
theorem dX5_opensIn_1 : decode cX5_opensIn 1 = .ok (.iload_n 1, 1) := by decide +kernel
theorem dX5_opensIn_2 : decode cX5_opensIn 2 = .ok (.invokevirtual 39, 3) := by decide +kernel
theorem dX5_opensIn_5 : decode cX5_opensIn 5 = .ok (.ifCond .ne 5, 3) := by decide +kernel
theorem dX5_opensIn_8 : decode cX5_opensIn 8 = .ok (.iconst (-1), 1) := by decide +kernel
theorem dX5_opensIn_9 : decode cX5_opensIn 9 = .ok (.ireturn, 1) := by decide +kernel
theorem dX5_opensIn_10 : decode cX5_opensIn 10 = .ok (.aload_n 0, 1) := by decide +kernel
theorem dX5_opensIn_11 : decode cX5_opensIn 11 = .ok (.invokevirtual 123, 3) := by decide +kernel
theorem dX5_opensIn_14 : decode cX5_opensIn 14 = .ok (.bipush (-6), 2) := by decide +kernel
theorem dX5_opensIn_16 : decode cX5_opensIn 16 = .ok (.istore_n 2, 1) := by decide +kernel
theorem dX5_opensIn_17 : decode cX5_opensIn 17 = .ok (.iconst 1, 1) := by decide +kernel
theorem dX5_opensIn_18 : decode cX5_opensIn 18 = .ok (.istore_n 3, 1) := by decide +kernel
theorem dX5_opensIn_19 : decode cX5_opensIn 19 = .ok (.iload_n 3, 1) := by decide +kernel
theorem dX5_opensIn_20 : decode cX5_opensIn 20 = .ok (.sipush 200, 3) := by decide +kernel
theorem dX5_opensIn_23 : decode cX5_opensIn 23 = .ok (.if_icmp .gt 30, 3) := by decide +kernel
theorem dX5_opensIn_26 : decode cX5_opensIn 26 = .ok (.iload_n 2, 1) := by decide +kernel
theorem dX5_opensIn_27 : decode cX5_opensIn 27 = .ok (.bipush (-6), 2) := by decide +kernel
theorem dX5_opensIn_29 : decode cX5_opensIn 29 = .ok (.if_icmp .ne 24, 3) := by decide +kernel
theorem dX5_opensIn_32 : decode cX5_opensIn 32 = .ok (.aload_n 0, 1) := by decide +kernel
theorem dX5_opensIn_33 : decode cX5_opensIn 33 = .ok (.iload_n 1, 1) := by decide +kernel
theorem dX5_opensIn_34 : decode cX5_opensIn 34 = .ok (.invokevirtual 99, 3) := by decide +kernel
theorem dX5_opensIn_37 : decode cX5_opensIn 37 = .ok (.ifCond .le 7, 3) := by decide +kernel
theorem dX5_opensIn_40 : decode cX5_opensIn 40 = .ok (.iload_n 3, 1) := by decide +kernel
theorem dX5_opensIn_41 : decode cX5_opensIn 41 = .ok (.goto 5, 3) := by decide +kernel
theorem dX5_opensIn_44 : decode cX5_opensIn 44 = .ok (.bipush (-6), 2) := by decide +kernel
theorem dX5_opensIn_46 : decode cX5_opensIn 46 = .ok (.istore_n 2, 1) := by decide +kernel
theorem dX5_opensIn_47 : decode cX5_opensIn 47 = .ok (.iinc 3 1, 3) := by decide +kernel
theorem dX5_opensIn_50 : decode cX5_opensIn 50 = .ok (.goto (-31), 3) := by decide +kernel
theorem dX5_opensIn_53 : decode cX5_opensIn 53 = .ok (.aload_n 0, 1) := by decide +kernel
theorem dX5_opensIn_54 : decode cX5_opensIn 54 = .ok (.invokevirtual 126, 3) := by decide +kernel
theorem dX5_opensIn_57 : decode cX5_opensIn 57 = .ok (.iload_n 2, 1) := by decide +kernel
theorem dX5_opensIn_58 : decode cX5_opensIn 58 = .ok (.ireturn, 1) := by decide +kernel
theorem dX5_couldHike_0 : decode cX5_couldHike 0 = .ok (.aload_n 0, 1) := by decide +kernel
theorem dX5_couldHike_1 : decode cX5_couldHike 1 = .ok (.iload_n 1, 1) := by decide +kernel
theorem dX5_couldHike_2 : decode cX5_couldHike 2 = .ok (.invokevirtual 39, 3) := by decide +kernel
theorem dX5_couldHike_5 : decode cX5_couldHike 5 = .ok (.ifCond .ne 5, 3) := by decide +kernel
theorem dX5_couldHike_8 : decode cX5_couldHike 8 = .ok (.iconst (-1), 1) := by decide +kernel
theorem dX5_couldHike_9 : decode cX5_couldHike 9 = .ok (.ireturn, 1) := by decide +kernel
theorem dX5_couldHike_10 : decode cX5_couldHike 10 = .ok (.aload_n 0, 1) := by decide +kernel
theorem dX5_couldHike_11 : decode cX5_couldHike 11 = .ok (.invokevirtual 123, 3) := by decide +kernel
theorem dX5_couldHike_14 : decode cX5_couldHike 14 = .ok (.iconst 0, 1) := by decide +kernel
theorem dX5_couldHike_15 : decode cX5_couldHike 15 = .ok (.istore_n 2, 1) := by decide +kernel
theorem dX5_couldHike_16 : decode cX5_couldHike 16 = .ok (.iconst 0, 1) := by decide +kernel
theorem dX5_couldHike_17 : decode cX5_couldHike 17 = .ok (.istore_n 3, 1) := by decide +kernel
theorem dX5_couldHike_18 : decode cX5_couldHike 18 = .ok (.iload_n 3, 1) := by decide +kernel
theorem dX5_couldHike_19 : decode cX5_couldHike 19 = .ok (.bipush 48, 2) := by decide +kernel
theorem dX5_couldHike_21 : decode cX5_couldHike 21 = .ok (.if_icmp .ge 40, 3) := by decide +kernel
theorem dX5_couldHike_24 : decode cX5_couldHike 24 = .ok (.aload_n 0, 1) := by decide +kernel
theorem dX5_couldHike_25 : decode cX5_couldHike 25 = .ok (.iload_n 1, 1) := by decide +kernel
theorem dX5_couldHike_26 : decode cX5_couldHike 26 = .ok (.iload_n 3, 1) := by decide +kernel
theorem dX5_couldHike_27 : decode cX5_couldHike 27 = .ok (.bipush 16, 2) := by decide +kernel
theorem dX5_couldHike_29 : decode cX5_couldHike 29 = .ok (.irem, 1) := by decide +kernel
theorem dX5_couldHike_30 : decode cX5_couldHike 30 = .ok (.aload_n 0, 1) := by decide +kernel
theorem dX5_couldHike_31 : decode cX5_couldHike 31 = .ok (.iload_n 1, 1) := by decide +kernel
theorem dX5_couldHike_32 : decode cX5_couldHike 32 = .ok (.iconst 1, 1) := by decide +kernel
theorem dX5_couldHike_33 : decode cX5_couldHike 33 = .ok (.invokevirtual 43, 3) := by decide +kernel
theorem dX5_couldHike_36 : decode cX5_couldHike 36 = .ok (.invokevirtual 108, 3) := by decide +kernel
theorem dX5_couldHike_39 : decode cX5_couldHike 39 = .ok (.istore 4, 2) := by decide +kernel
theorem dX5_couldHike_41 : decode cX5_couldHike 41 = .ok (.iload_n 2, 1) := by decide +kernel
theorem dX5_couldHike_42 : decode cX5_couldHike 42 = .ok (.iload 4, 2) := by decide +kernel
theorem dX5_couldHike_44 : decode cX5_couldHike 44 = .ok (.ifCond .le 8, 3) := by decide +kernel
theorem dX5_couldHike_47 : decode cX5_couldHike 47 = .ok (.iload 4, 2) := by decide +kernel
theorem dX5_couldHike_49 : decode cX5_couldHike 49 = .ok (.goto 4, 3) := by decide +kernel
theorem dX5_couldHike_52 : decode cX5_couldHike 52 = .ok (.iconst 0, 1) := by decide +kernel
theorem dX5_couldHike_53 : decode cX5_couldHike 53 = .ok (.iadd, 1) := by decide +kernel
theorem dX5_couldHike_54 : decode cX5_couldHike 54 = .ok (.istore_n 2, 1) := by decide +kernel
theorem dX5_couldHike_55 : decode cX5_couldHike 55 = .ok (.iinc 3 1, 3) := by decide +kernel
theorem dX5_couldHike_58 : decode cX5_couldHike 58 = .ok (.goto (-40), 3) := by decide +kernel
theorem dX5_couldHike_61 : decode cX5_couldHike 61 = .ok (.aload_n 0, 1) := by decide +kernel
theorem dX5_couldHike_62 : decode cX5_couldHike 62 = .ok (.invokevirtual 126, 3) := by decide +kernel
theorem dX5_couldHike_65 : decode cX5_couldHike 65 = .ok (.iload_n 2, 1) := by decide +kernel
theorem dX5_couldHike_66 : decode cX5_couldHike 66 = .ok (.ireturn, 1) := by decide +kernel
theorem dX5_put_0 : decode cX5_put 0 = .ok (.lload_n 1, 1) := by decide +kernel
theorem dX5_put_1 : decode cX5_put 1 = .ok (.lstore_n 3, 1) := by decide +kernel
theorem dX5_put_2 : decode cX5_put 2 = .ok (.iconst 0, 1) := by decide +kernel
theorem dX5_put_3 : decode cX5_put 3 = .ok (.istore 5, 2) := by decide +kernel
theorem dX5_put_5 : decode cX5_put 5 = .ok (.lload_n 3, 1) := by decide +kernel
theorem dX5_put_6 : decode cX5_put 6 = .ok (.lconst 0, 1) := by decide +kernel
theorem dX5_put_7 : decode cX5_put 7 = .ok (.lcmp, 1) := by decide +kernel
theorem dX5_put_8 : decode cX5_put 8 = .ok (.ifCond .eq 55, 3) := by decide +kernel
theorem dX5_put_11 : decode cX5_put 11 = .ok (.iload 5, 2) := by decide +kernel
theorem dX5_put_13 : decode cX5_put 13 = .ok (.bipush 8, 2) := by decide +kernel
theorem dX5_put_15 : decode cX5_put 15 = .ok (.if_icmp .ge 48, 3) := by decide +kernel
theorem dX5_put_18 : decode cX5_put 18 = .ok (.aload_n 0, 1) := by decide +kernel
theorem dX5_put_19 : decode cX5_put 19 = .ok (.getfield 32, 3) := by decide +kernel
theorem dX5_put_22 : decode cX5_put 22 = .ok (.iload 5, 2) := by decide +kernel
theorem dX5_put_24 : decode cX5_put 24 = .ok (.lload_n 3, 1) := by decide +kernel
theorem dX5_put_25 : decode cX5_put 25 = .ok (.ldc2_w 129, 3) := by decide +kernel
theorem dX5_put_28 : decode cX5_put 28 = .ok (.land, 1) := by decide +kernel
theorem dX5_put_29 : decode cX5_put 29 = .ok (.l2i, 1) := by decide +kernel
theorem dX5_put_30 : decode cX5_put 30 = .ok (.iastore, 1) := by decide +kernel
theorem dX5_put_31 : decode cX5_put 31 = .ok (.aload_n 0, 1) := by decide +kernel
theorem dX5_put_32 : decode cX5_put 32 = .ok (.getfield 32, 3) := by decide +kernel
theorem dX5_put_35 : decode cX5_put 35 = .ok (.iload 5, 2) := by decide +kernel
theorem dX5_put_37 : decode cX5_put 37 = .ok (.iaload, 1) := by decide +kernel
theorem dX5_put_38 : decode cX5_put 38 = .ok (.i2l, 1) := by decide +kernel
theorem dX5_put_39 : decode cX5_put 39 = .ok (.bipush 33, 2) := by decide +kernel
theorem dX5_put_41 : decode cX5_put 41 = .ok (.bipush 126, 2) := by decide +kernel
theorem dX5_put_43 : decode cX5_put 43 = .ok (.invokestatic 35, 3) := by decide +kernel
theorem dX5_put_46 : decode cX5_put 46 = .ok (.ifCond .ne 6, 3) := by decide +kernel
theorem dX5_put_49 : decode cX5_put 49 = .ok (.bipush (-2), 2) := by decide +kernel
theorem dX5_put_51 : decode cX5_put 51 = .ok (.ireturn, 1) := by decide +kernel
theorem dX5_put_52 : decode cX5_put 52 = .ok (.lload_n 3, 1) := by decide +kernel
theorem dX5_put_53 : decode cX5_put 53 = .ok (.bipush 8, 2) := by decide +kernel
theorem dX5_put_55 : decode cX5_put 55 = .ok (.lushr, 1) := by decide +kernel
theorem dX5_put_56 : decode cX5_put 56 = .ok (.lstore_n 3, 1) := by decide +kernel
theorem dX5_put_57 : decode cX5_put 57 = .ok (.iinc 5 1, 3) := by decide +kernel
theorem dX5_put_60 : decode cX5_put 60 = .ok (.goto (-55), 3) := by decide +kernel
theorem dX5_put_63 : decode cX5_put 63 = .ok (.iload 5, 2) := by decide +kernel
theorem dX5_put_65 : decode cX5_put 65 = .ok (.ifCond .ne 6, 3) := by decide +kernel
theorem dX5_put_68 : decode cX5_put 68 = .ok (.bipush (-2), 2) := by decide +kernel
theorem dX5_put_70 : decode cX5_put 70 = .ok (.ireturn, 1) := by decide +kernel
theorem dX5_put_71 : decode cX5_put 71 = .ok (.aload_n 0, 1) := by decide +kernel
theorem dX5_put_72 : decode cX5_put 72 = .ok (.getfield 120, 3) := by decide +kernel
theorem dX5_put_75 : decode cX5_put 75 = .ok (.iload 5, 2) := by decide +kernel
theorem dX5_put_77 : decode cX5_put 77 = .ok (.iadd, 1) := by decide +kernel
theorem dX5_put_78 : decode cX5_put 78 = .ok (.bipush 80, 2) := by decide +kernel
theorem dX5_put_80 : decode cX5_put 80 = .ok (.if_icmp .le 6, 3) := by decide +kernel
theorem dX5_put_83 : decode cX5_put 83 = .ok (.bipush (-4), 2) := by decide +kernel
theorem dX5_put_85 : decode cX5_put 85 = .ok (.ireturn, 1) := by decide +kernel
theorem dX5_put_86 : decode cX5_put 86 = .ok (.iload 5, 2) := by decide +kernel
theorem dX5_put_88 : decode cX5_put 88 = .ok (.iconst 1, 1) := by decide +kernel
theorem dX5_put_89 : decode cX5_put 89 = .ok (.isub, 1) := by decide +kernel
theorem dX5_put_90 : decode cX5_put 90 = .ok (.istore 6, 2) := by decide +kernel
theorem dX5_put_92 : decode cX5_put 92 = .ok (.iload 6, 2) := by decide +kernel
theorem dX5_put_94 : decode cX5_put 94 = .ok (.ifCond .lt 35, 3) := by decide +kernel
theorem dX5_put_97 : decode cX5_put 97 = .ok (.aload_n 0, 1) := by decide +kernel
theorem dX5_put_98 : decode cX5_put 98 = .ok (.getfield 29, 3) := by decide +kernel
theorem dX5_put_101 : decode cX5_put 101 = .ok (.aload_n 0, 1) := by decide +kernel
theorem dX5_put_102 : decode cX5_put 102 = .ok (.getfield 120, 3) := by decide +kernel
theorem dX5_put_105 : decode cX5_put 105 = .ok (.aload_n 0, 1) := by decide +kernel
theorem dX5_put_106 : decode cX5_put 106 = .ok (.getfield 32, 3) := by decide +kernel
theorem dX5_put_109 : decode cX5_put 109 = .ok (.iload 6, 2) := by decide +kernel
theorem dX5_put_111 : decode cX5_put 111 = .ok (.iaload, 1) := by decide +kernel
theorem dX5_put_112 : decode cX5_put 112 = .ok (.iastore, 1) := by decide +kernel
theorem dX5_put_113 : decode cX5_put 113 = .ok (.aload_n 0, 1) := by decide +kernel
theorem dX5_put_114 : decode cX5_put 114 = .ok (.dup, 1) := by decide +kernel
theorem dX5_put_115 : decode cX5_put 115 = .ok (.getfield 120, 3) := by decide +kernel
theorem dX5_put_118 : decode cX5_put 118 = .ok (.iconst 1, 1) := by decide +kernel
theorem dX5_put_119 : decode cX5_put 119 = .ok (.iadd, 1) := by decide +kernel
theorem dX5_put_120 : decode cX5_put 120 = .ok (.putfield 120, 3) := by decide +kernel
theorem dX5_put_123 : decode cX5_put 123 = .ok (.iinc 6 (-1), 3) := by decide +kernel
theorem dX5_put_126 : decode cX5_put 126 = .ok (.goto (-34), 3) := by decide +kernel
theorem dX5_put_129 : decode cX5_put 129 = .ok (.aload_n 0, 1) := by decide +kernel
theorem dX5_put_130 : decode cX5_put 130 = .ok (.getfield 120, 3) := by decide +kernel
theorem dX5_put_133 : decode cX5_put 133 = .ok (.ireturn, 1) := by decide +kernel
theorem dX5_wipe_0 : decode cX5_wipe 0 = .ok (.aload_n 0, 1) := by decide +kernel
theorem dX5_wipe_1 : decode cX5_wipe 1 = .ok (.getfield 120, 3) := by decide +kernel
theorem dX5_wipe_4 : decode cX5_wipe 4 = .ok (.istore_n 1, 1) := by decide +kernel
theorem dX5_wipe_5 : decode cX5_wipe 5 = .ok (.aload_n 0, 1) := by decide +kernel
theorem dX5_wipe_6 : decode cX5_wipe 6 = .ok (.iconst 0, 1) := by decide +kernel
theorem dX5_wipe_7 : decode cX5_wipe 7 = .ok (.putfield 120, 3) := by decide +kernel
theorem dX5_wipe_10 : decode cX5_wipe 10 = .ok (.iload_n 1, 1) := by decide +kernel
theorem dX5_wipe_11 : decode cX5_wipe 11 = .ok (.ireturn, 1) := by decide +kernel
theorem dX5_sees_0 : decode cX5_sees 0 = .ok (.aload_n 0, 1) := by decide +kernel
theorem dX5_sees_1 : decode cX5_sees 1 = .ok (.getfield 131, 3) := by decide +kernel
theorem dX5_sees_4 : decode cX5_sees 4 = .ok (.aload_n 0, 1) := by decide +kernel
theorem dX5_sees_5 : decode cX5_sees 5 = .ok (.getfield 120, 3) := by decide +kernel
theorem dX5_sees_8 : decode cX5_sees 8 = .ok (.if_icmp .ge 25, 3) := by decide +kernel
theorem dX5_sees_11 : decode cX5_sees 11 = .ok (.aload_n 0, 1) := by decide +kernel
theorem dX5_sees_12 : decode cX5_sees 12 = .ok (.getfield 29, 3) := by decide +kernel
theorem dX5_sees_15 : decode cX5_sees 15 = .ok (.aload_n 0, 1) := by decide +kernel
theorem dX5_sees_16 : decode cX5_sees 16 = .ok (.getfield 131, 3) := by decide +kernel
theorem dX5_sees_19 : decode cX5_sees 19 = .ok (.iaload, 1) := by decide +kernel
theorem dX5_sees_20 : decode cX5_sees 20 = .ok (.i2l, 1) := by decide +kernel
theorem dX5_sees_21 : decode cX5_sees 21 = .ok (.iload_n 1, 1) := by decide +kernel
theorem dX5_sees_22 : decode cX5_sees 22 = .ok (.iload_n 2, 1) := by decide +kernel
theorem dX5_sees_23 : decode cX5_sees 23 = .ok (.invokestatic 35, 3) := by decide +kernel
theorem dX5_sees_26 : decode cX5_sees 26 = .ok (.ifCond .eq 7, 3) := by decide +kernel
theorem dX5_sees_29 : decode cX5_sees 29 = .ok (.iconst 1, 1) := by decide +kernel
theorem dX5_sees_30 : decode cX5_sees 30 = .ok (.goto 4, 3) := by decide +kernel
theorem dX5_sees_33 : decode cX5_sees 33 = .ok (.iconst 0, 1) := by decide +kernel
theorem dX5_sees_34 : decode cX5_sees 34 = .ok (.ireturn, 1) := by decide +kernel
theorem dX5_number_0 : decode cX5_number 0 = .ok (.aload_n 0, 1) := by decide +kernel
theorem dX5_number_1 : decode cX5_number 1 = .ok (.bipush 48, 2) := by decide +kernel
theorem dX5_number_3 : decode cX5_number 3 = .ok (.bipush 57, 2) := by decide +kernel
theorem dX5_number_5 : decode cX5_number 5 = .ok (.invokevirtual 134, 3) := by decide +kernel
theorem dX5_number_8 : decode cX5_number 8 = .ok (.ifCond .ne 6, 3) := by decide +kernel
theorem dX5_number_11 : decode cX5_number 11 = .ok (.bipush (-3), 2) := by decide +kernel
theorem dX5_number_13 : decode cX5_number 13 = .ok (.ireturn, 1) := by decide +kernel
theorem dX5_number_14 : decode cX5_number 14 = .ok (.aload_n 0, 1) := by decide +kernel
theorem dX5_number_15 : decode cX5_number 15 = .ok (.getfield 29, 3) := by decide +kernel
theorem dX5_number_18 : decode cX5_number 18 = .ok (.aload_n 0, 1) := by decide +kernel
theorem dX5_number_19 : decode cX5_number 19 = .ok (.getfield 131, 3) := by decide +kernel
theorem dX5_number_22 : decode cX5_number 22 = .ok (.iaload, 1) := by decide +kernel
theorem dX5_number_23 : decode cX5_number 23 = .ok (.bipush 48, 2) := by decide +kernel
theorem dX5_number_25 : decode cX5_number 25 = .ok (.isub, 1) := by decide +kernel
theorem dX5_number_26 : decode cX5_number 26 = .ok (.istore_n 1, 1) := by decide +kernel
theorem dX5_number_27 : decode cX5_number 27 = .ok (.aload_n 0, 1) := by decide +kernel
theorem dX5_number_28 : decode cX5_number 28 = .ok (.dup, 1) := by decide +kernel
theorem dX5_number_29 : decode cX5_number 29 = .ok (.getfield 131, 3) := by decide +kernel
theorem dX5_number_32 : decode cX5_number 32 = .ok (.iconst 1, 1) := by decide +kernel
theorem dX5_number_33 : decode cX5_number 33 = .ok (.iadd, 1) := by decide +kernel
theorem dX5_number_34 : decode cX5_number 34 = .ok (.putfield 131, 3) := by decide +kernel
theorem dX5_number_37 : decode cX5_number 37 = .ok (.iload_n 1, 1) := by decide +kernel
theorem dX5_number_38 : decode cX5_number 38 = .ok (.ifCond .le 42, 3) := by decide +kernel
theorem dX5_number_41 : decode cX5_number 41 = .ok (.aload_n 0, 1) := by decide +kernel
theorem dX5_number_42 : decode cX5_number 42 = .ok (.bipush 48, 2) := by decide +kernel
theorem dX5_number_44 : decode cX5_number 44 = .ok (.bipush 57, 2) := by decide +kernel
theorem dX5_number_46 : decode cX5_number 46 = .ok (.invokevirtual 134, 3) := by decide +kernel
theorem dX5_number_49 : decode cX5_number 49 = .ok (.ifCond .eq 31, 3) := by decide +kernel
theorem dX5_number_52 : decode cX5_number 52 = .ok (.bipush 10, 2) := by decide +kernel
theorem dX5_number_54 : decode cX5_number 54 = .ok (.iload_n 1, 1) := by decide +kernel
theorem dX5_number_55 : decode cX5_number 55 = .ok (.imul, 1) := by decide +kernel
theorem dX5_number_56 : decode cX5_number 56 = .ok (.aload_n 0, 1) := by decide +kernel
theorem dX5_number_57 : decode cX5_number 57 = .ok (.getfield 29, 3) := by decide +kernel
theorem dX5_number_60 : decode cX5_number 60 = .ok (.aload_n 0, 1) := by decide +kernel
theorem dX5_number_61 : decode cX5_number 61 = .ok (.getfield 131, 3) := by decide +kernel
theorem dX5_number_64 : decode cX5_number 64 = .ok (.iaload, 1) := by decide +kernel
theorem dX5_number_65 : decode cX5_number 65 = .ok (.iadd, 1) := by decide +kernel
theorem dX5_number_66 : decode cX5_number 66 = .ok (.bipush 48, 2) := by decide +kernel
theorem dX5_number_68 : decode cX5_number 68 = .ok (.isub, 1) := by decide +kernel
theorem dX5_number_69 : decode cX5_number 69 = .ok (.istore_n 1, 1) := by decide +kernel
theorem dX5_number_70 : decode cX5_number 70 = .ok (.aload_n 0, 1) := by decide +kernel
theorem dX5_number_71 : decode cX5_number 71 = .ok (.dup, 1) := by decide +kernel
theorem dX5_number_72 : decode cX5_number 72 = .ok (.getfield 131, 3) := by decide +kernel
theorem dX5_number_75 : decode cX5_number 75 = .ok (.iconst 1, 1) := by decide +kernel
theorem dX5_number_76 : decode cX5_number 76 = .ok (.iadd, 1) := by decide +kernel
theorem dX5_number_77 : decode cX5_number 77 = .ok (.putfield 131, 3) := by decide +kernel
theorem dX5_number_80 : decode cX5_number 80 = .ok (.iload_n 1, 1) := by decide +kernel
theorem dX5_number_81 : decode cX5_number 81 = .ok (.ireturn, 1) := by decide +kernel
theorem dX5_behind_0 : decode cX5_behind 0 = .ok (.aload_n 0, 1) := by decide +kernel
theorem dX5_behind_1 : decode cX5_behind 1 = .ok (.iload_n 1, 1) := by decide +kernel
theorem dX5_behind_2 : decode cX5_behind 2 = .ok (.iload_n 1, 1) := by decide +kernel
theorem dX5_behind_3 : decode cX5_behind 3 = .ok (.invokevirtual 134, 3) := by decide +kernel
theorem dX5_behind_6 : decode cX5_behind 6 = .ok (.ifCond .ne 6, 3) := by decide +kernel
theorem dX5_behind_9 : decode cX5_behind 9 = .ok (.bipush (-3), 2) := by decide +kernel
theorem dX5_behind_11 : decode cX5_behind 11 = .ok (.ireturn, 1) := by decide +kernel
theorem dX5_behind_12 : decode cX5_behind 12 = .ok (.aload_n 0, 1) := by decide +kernel
theorem dX5_behind_13 : decode cX5_behind 13 = .ok (.dup, 1) := by decide +kernel
theorem dX5_behind_14 : decode cX5_behind 14 = .ok (.getfield 131, 3) := by decide +kernel
theorem dX5_behind_17 : decode cX5_behind 17 = .ok (.iconst 1, 1) := by decide +kernel
theorem dX5_behind_18 : decode cX5_behind 18 = .ok (.iadd, 1) := by decide +kernel
theorem dX5_behind_19 : decode cX5_behind 19 = .ok (.putfield 131, 3) := by decide +kernel
theorem dX5_behind_22 : decode cX5_behind 22 = .ok (.aload_n 0, 1) := by decide +kernel
theorem dX5_behind_23 : decode cX5_behind 23 = .ok (.invokevirtual 137, 3) := by decide +kernel
theorem dX5_behind_26 : decode cX5_behind 26 = .ok (.ireturn, 1) := by decide +kernel
theorem dX5_order_0 : decode cX5_order 0 = .ok (.aload_n 0, 1) := by decide +kernel
theorem dX5_order_1 : decode cX5_order 1 = .ok (.getfield 131, 3) := by decide +kernel
theorem dX5_order_4 : decode cX5_order 4 = .ok (.aload_n 0, 1) := by decide +kernel
theorem dX5_order_5 : decode cX5_order 5 = .ok (.getfield 120, 3) := by decide +kernel
theorem dX5_order_8 : decode cX5_order 8 = .ok (.if_icmp .ge 15, 3) := by decide +kernel
theorem dX5_order_11 : decode cX5_order 11 = .ok (.aload_n 0, 1) := by decide +kernel
theorem dX5_order_12 : decode cX5_order 12 = .ok (.getfield 29, 3) := by decide +kernel
theorem dX5_order_15 : decode cX5_order 15 = .ok (.aload_n 0, 1) := by decide +kernel
theorem dX5_order_16 : decode cX5_order 16 = .ok (.getfield 131, 3) := by decide +kernel
theorem dX5_order_19 : decode cX5_order 19 = .ok (.iaload, 1) := by decide +kernel
theorem dX5_order_20 : decode cX5_order 20 = .ok (.goto 4, 3) := by decide +kernel
theorem dX5_order_23 : decode cX5_order 23 = .ok (.iconst 0, 1) := by decide +kernel
theorem dX5_order_24 : decode cX5_order 24 = .ok (.istore_n 2, 1) := by decide +kernel
theorem dX5_order_25 : decode cX5_order 25 = .ok (.iload_n 2, 1) := by decide +kernel
theorem dX5_order_26 : decode cX5_order 26 = .ok (.bipush 99, 2) := by decide +kernel
theorem dX5_order_28 : decode cX5_order 28 = .ok (.if_icmp .eq 15, 3) := by decide +kernel
theorem dX5_order_31 : decode cX5_order 31 = .ok (.iload_n 2, 1) := by decide +kernel
theorem dX5_order_32 : decode cX5_order 32 = .ok (.bipush 108, 2) := by decide +kernel
theorem dX5_order_34 : decode cX5_order 34 = .ok (.if_icmp .eq 9, 3) := by decide +kernel
theorem dX5_order_37 : decode cX5_order 37 = .ok (.iload_n 2, 1) := by decide +kernel
theorem dX5_order_38 : decode cX5_order 38 = .ok (.bipush 115, 2) := by decide +kernel
theorem dX5_order_40 : decode cX5_order 40 = .ok (.if_icmp .ne 7, 3) := by decide +kernel
theorem dX5_order_43 : decode cX5_order 43 = .ok (.iconst 1, 1) := by decide +kernel
theorem dX5_order_44 : decode cX5_order 44 = .ok (.goto 4, 3) := by decide +kernel
theorem dX5_order_47 : decode cX5_order 47 = .ok (.iconst 0, 1) := by decide +kernel
theorem dX5_order_48 : decode cX5_order 48 = .ok (.istore_n 3, 1) := by decide +kernel
theorem dX5_order_49 : decode cX5_order 49 = .ok (.iload_n 3, 1) := by decide +kernel
theorem dX5_order_50 : decode cX5_order 50 = .ok (.ifCond .ne 18, 3) := by decide +kernel
theorem dX5_order_53 : decode cX5_order 53 = .ok (.iload_n 2, 1) := by decide +kernel
theorem dX5_order_54 : decode cX5_order 54 = .ok (.bipush 110, 2) := by decide +kernel
theorem dX5_order_56 : decode cX5_order 56 = .ok (.if_icmp .eq 12, 3) := by decide +kernel
theorem dX5_order_59 : decode cX5_order 59 = .ok (.iload_n 2, 1) := by decide +kernel
theorem dX5_order_60 : decode cX5_order 60 = .ok (.bipush 116, 2) := by decide +kernel
theorem dX5_order_62 : decode cX5_order 62 = .ok (.if_icmp .eq 6, 3) := by decide +kernel
theorem dX5_order_65 : decode cX5_order 65 = .ok (.bipush (-3), 2) := by decide +kernel
theorem dX5_order_67 : decode cX5_order 67 = .ok (.ireturn, 1) := by decide +kernel
theorem dX5_order_68 : decode cX5_order 68 = .ok (.aload_n 0, 1) := by decide +kernel
theorem dX5_order_69 : decode cX5_order 69 = .ok (.dup, 1) := by decide +kernel
theorem dX5_order_70 : decode cX5_order 70 = .ok (.getfield 131, 3) := by decide +kernel
theorem dX5_order_73 : decode cX5_order 73 = .ok (.iconst 1, 1) := by decide +kernel
theorem dX5_order_74 : decode cX5_order 74 = .ok (.iadd, 1) := by decide +kernel
theorem dX5_order_75 : decode cX5_order 75 = .ok (.putfield 131, 3) := by decide +kernel
theorem dX5_order_78 : decode cX5_order 78 = .ok (.iconst 0, 1) := by decide +kernel
theorem dX5_order_79 : decode cX5_order 79 = .ok (.istore 4, 2) := by decide +kernel
theorem dX5_order_81 : decode cX5_order 81 = .ok (.iload_n 3, 1) := by decide +kernel
theorem dX5_order_82 : decode cX5_order 82 = .ok (.ifCond .eq 41, 3) := by decide +kernel
theorem dX5_order_85 : decode cX5_order 85 = .ok (.aload_n 0, 1) := by decide +kernel
theorem dX5_order_86 : decode cX5_order 86 = .ok (.bipush 48, 2) := by decide +kernel
theorem dX5_order_88 : decode cX5_order 88 = .ok (.bipush 57, 2) := by decide +kernel
theorem dX5_order_90 : decode cX5_order 90 = .ok (.invokevirtual 134, 3) := by decide +kernel
theorem dX5_order_93 : decode cX5_order 93 = .ok (.ifCond .ne 6, 3) := by decide +kernel
theorem dX5_order_96 : decode cX5_order 96 = .ok (.bipush (-3), 2) := by decide +kernel
theorem dX5_order_98 : decode cX5_order 98 = .ok (.ireturn, 1) := by decide +kernel
theorem dX5_order_99 : decode cX5_order 99 = .ok (.aload_n 0, 1) := by decide +kernel
theorem dX5_order_100 : decode cX5_order 100 = .ok (.getfield 29, 3) := by decide +kernel
theorem dX5_order_103 : decode cX5_order 103 = .ok (.aload_n 0, 1) := by decide +kernel
theorem dX5_order_104 : decode cX5_order 104 = .ok (.getfield 131, 3) := by decide +kernel
theorem dX5_order_107 : decode cX5_order 107 = .ok (.iaload, 1) := by decide +kernel
theorem dX5_order_108 : decode cX5_order 108 = .ok (.bipush 48, 2) := by decide +kernel
theorem dX5_order_110 : decode cX5_order 110 = .ok (.isub, 1) := by decide +kernel
theorem dX5_order_111 : decode cX5_order 111 = .ok (.istore 4, 2) := by decide +kernel
theorem dX5_order_113 : decode cX5_order 113 = .ok (.aload_n 0, 1) := by decide +kernel
theorem dX5_order_114 : decode cX5_order 114 = .ok (.dup, 1) := by decide +kernel
theorem dX5_order_115 : decode cX5_order 115 = .ok (.getfield 131, 3) := by decide +kernel
theorem dX5_order_118 : decode cX5_order 118 = .ok (.iconst 1, 1) := by decide +kernel
theorem dX5_order_119 : decode cX5_order 119 = .ok (.iadd, 1) := by decide +kernel
theorem dX5_order_120 : decode cX5_order 120 = .ok (.putfield 131, 3) := by decide +kernel
theorem dX5_order_123 : decode cX5_order 123 = .ok (.iload_n 3, 1) := by decide +kernel
theorem dX5_order_124 : decode cX5_order 124 = .ok (.ifCond .eq 23, 3) := by decide +kernel
theorem dX5_order_127 : decode cX5_order 127 = .ok (.aload_n 0, 1) := by decide +kernel
theorem dX5_order_128 : decode cX5_order 128 = .ok (.iload_n 2, 1) := by decide +kernel
theorem dX5_order_129 : decode cX5_order 129 = .ok (.bipush 115, 2) := by decide +kernel
theorem dX5_order_131 : decode cX5_order 131 = .ok (.if_icmp .ne 8, 3) := by decide +kernel
theorem dX5_order_134 : decode cX5_order 134 = .ok (.bipush 61, 2) := by decide +kernel
theorem dX5_order_136 : decode cX5_order 136 = .ok (.goto 5, 3) := by decide +kernel
theorem dX5_order_139 : decode cX5_order 139 = .ok (.bipush 46, 2) := by decide +kernel
theorem dX5_order_141 : decode cX5_order 141 = .ok (.invokevirtual 141, 3) := by decide +kernel
theorem dX5_order_144 : decode cX5_order 144 = .ok (.goto 7, 3) := by decide +kernel
theorem dX5_order_147 : decode cX5_order 147 = .ok (.aload_n 0, 1) := by decide +kernel
theorem dX5_order_148 : decode cX5_order 148 = .ok (.invokevirtual 137, 3) := by decide +kernel
theorem dX5_order_151 : decode cX5_order 151 = .ok (.istore 5, 2) := by decide +kernel
theorem dX5_order_153 : decode cX5_order 153 = .ok (.iload 5, 2) := by decide +kernel
theorem dX5_order_155 : decode cX5_order 155 = .ok (.ifCond .ge 6, 3) := by decide +kernel
theorem dX5_order_158 : decode cX5_order 158 = .ok (.bipush (-3), 2) := by decide +kernel
theorem dX5_order_160 : decode cX5_order 160 = .ok (.ireturn, 1) := by decide +kernel
theorem dX5_order_161 : decode cX5_order 161 = .ok (.iconst 0, 1) := by decide +kernel
theorem dX5_order_162 : decode cX5_order 162 = .ok (.istore 6, 2) := by decide +kernel
theorem dX5_order_164 : decode cX5_order 164 = .ok (.iload_n 2, 1) := by decide +kernel
theorem dX5_order_165 : decode cX5_order 165 = .ok (.bipush 99, 2) := by decide +kernel
theorem dX5_order_167 : decode cX5_order 167 = .ok (.if_icmp .ne 59, 3) := by decide +kernel
theorem dX5_order_170 : decode cX5_order 170 = .ok (.aload_n 0, 1) := by decide +kernel
theorem dX5_order_171 : decode cX5_order 171 = .ok (.bipush 98, 2) := by decide +kernel
theorem dX5_order_173 : decode cX5_order 173 = .ok (.bipush 98, 2) := by decide +kernel
theorem dX5_order_175 : decode cX5_order 175 = .ok (.invokevirtual 134, 3) := by decide +kernel
theorem dX5_order_178 : decode cX5_order 178 = .ok (.ifCond .ne 17, 3) := by decide +kernel
theorem dX5_order_181 : decode cX5_order 181 = .ok (.aload_n 0, 1) := by decide +kernel
theorem dX5_order_182 : decode cX5_order 182 = .ok (.bipush 114, 2) := by decide +kernel
theorem dX5_order_184 : decode cX5_order 184 = .ok (.bipush 114, 2) := by decide +kernel
theorem dX5_order_186 : decode cX5_order 186 = .ok (.invokevirtual 134, 3) := by decide +kernel
theorem dX5_order_189 : decode cX5_order 189 = .ok (.ifCond .ne 6, 3) := by decide +kernel
theorem dX5_order_192 : decode cX5_order 192 = .ok (.bipush (-3), 2) := by decide +kernel
theorem dX5_order_194 : decode cX5_order 194 = .ok (.ireturn, 1) := by decide +kernel
theorem dX5_order_195 : decode cX5_order 195 = .ok (.aload_n 0, 1) := by decide +kernel
theorem dX5_order_196 : decode cX5_order 196 = .ok (.getfield 29, 3) := by decide +kernel
theorem dX5_order_199 : decode cX5_order 199 = .ok (.aload_n 0, 1) := by decide +kernel
theorem dX5_order_200 : decode cX5_order 200 = .ok (.getfield 131, 3) := by decide +kernel
theorem dX5_order_203 : decode cX5_order 203 = .ok (.iaload, 1) := by decide +kernel
theorem dX5_order_204 : decode cX5_order 204 = .ok (.bipush 98, 2) := by decide +kernel
theorem dX5_order_206 : decode cX5_order 206 = .ok (.if_icmp .ne 7, 3) := by decide +kernel
theorem dX5_order_209 : decode cX5_order 209 = .ok (.iconst 1, 1) := by decide +kernel
theorem dX5_order_210 : decode cX5_order 210 = .ok (.goto 4, 3) := by decide +kernel
theorem dX5_order_213 : decode cX5_order 213 = .ok (.iconst 0, 1) := by decide +kernel
theorem dX5_order_214 : decode cX5_order 214 = .ok (.istore 6, 2) := by decide +kernel
theorem dX5_order_216 : decode cX5_order 216 = .ok (.aload_n 0, 1) := by decide +kernel
theorem dX5_order_217 : decode cX5_order 217 = .ok (.dup, 1) := by decide +kernel
theorem dX5_order_218 : decode cX5_order 218 = .ok (.getfield 131, 3) := by decide +kernel
theorem dX5_order_221 : decode cX5_order 221 = .ok (.iconst 1, 1) := by decide +kernel
theorem dX5_order_222 : decode cX5_order 222 = .ok (.iadd, 1) := by decide +kernel
theorem dX5_order_223 : decode cX5_order 223 = .ok (.putfield 131, 3) := by decide +kernel
theorem dX5_order_226 : decode cX5_order 226 = .ok (.iload_n 1, 1) := by decide +kernel
theorem dX5_order_227 : decode cX5_order 227 = .ok (.ifCond .ne 5, 3) := by decide +kernel
theorem dX5_order_230 : decode cX5_order 230 = .ok (.iconst 0, 1) := by decide +kernel
theorem dX5_order_231 : decode cX5_order 231 = .ok (.ireturn, 1) := by decide +kernel
theorem dX5_order_232 : decode cX5_order 232 = .ok (.iload_n 2, 1) := by decide +kernel
theorem dX5_order_233 : decode cX5_order 233 = .ok (.bipush 110, 2) := by decide +kernel
theorem dX5_order_235 : decode cX5_order 235 = .ok (.if_icmp .ne 12, 3) := by decide +kernel
theorem dX5_order_238 : decode cX5_order 238 = .ok (.aload_n 0, 1) := by decide +kernel
theorem dX5_order_239 : decode cX5_order 239 = .ok (.iload 5, 2) := by decide +kernel
theorem dX5_order_241 : decode cX5_order 241 = .ok (.invokevirtual 102, 3) := by decide +kernel
theorem dX5_order_244 : decode cX5_order 244 = .ok (.goto 62, 3) := by decide +kernel
theorem dX5_order_247 : decode cX5_order 247 = .ok (.iload_n 2, 1) := by decide +kernel
theorem dX5_order_248 : decode cX5_order 248 = .ok (.bipush 99, 2) := by decide +kernel
theorem dX5_order_250 : decode cX5_order 250 = .ok (.if_icmp .ne 16, 3) := by decide +kernel
theorem dX5_order_253 : decode cX5_order 253 = .ok (.aload_n 0, 1) := by decide +kernel
theorem dX5_order_254 : decode cX5_order 254 = .ok (.iload 4, 2) := by decide +kernel
theorem dX5_order_256 : decode cX5_order 256 = .ok (.iload 5, 2) := by decide +kernel
theorem dX5_order_258 : decode cX5_order 258 = .ok (.iload 6, 2) := by decide +kernel
theorem dX5_order_260 : decode cX5_order 260 = .ok (.invokevirtual 108, 3) := by decide +kernel
theorem dX5_order_263 : decode cX5_order 263 = .ok (.goto 43, 3) := by decide +kernel
theorem dX5_order_266 : decode cX5_order 266 = .ok (.iload_n 2, 1) := by decide +kernel
theorem dX5_order_267 : decode cX5_order 267 = .ok (.bipush 108, 2) := by decide +kernel
theorem dX5_order_269 : decode cX5_order 269 = .ok (.if_icmp .ne 14, 3) := by decide +kernel
theorem dX5_order_272 : decode cX5_order 272 = .ok (.aload_n 0, 1) := by decide +kernel
theorem dX5_order_273 : decode cX5_order 273 = .ok (.iload 4, 2) := by decide +kernel
theorem dX5_order_275 : decode cX5_order 275 = .ok (.iload 5, 2) := by decide +kernel
theorem dX5_order_277 : decode cX5_order 277 = .ok (.invokevirtual 111, 3) := by decide +kernel
theorem dX5_order_280 : decode cX5_order 280 = .ok (.goto 26, 3) := by decide +kernel
theorem dX5_order_283 : decode cX5_order 283 = .ok (.iload_n 2, 1) := by decide +kernel
theorem dX5_order_284 : decode cX5_order 284 = .ok (.bipush 115, 2) := by decide +kernel
theorem dX5_order_286 : decode cX5_order 286 = .ok (.if_icmp .ne 14, 3) := by decide +kernel
theorem dX5_order_289 : decode cX5_order 289 = .ok (.aload_n 0, 1) := by decide +kernel
theorem dX5_order_290 : decode cX5_order 290 = .ok (.iload 4, 2) := by decide +kernel
theorem dX5_order_292 : decode cX5_order 292 = .ok (.iload 5, 2) := by decide +kernel
theorem dX5_order_294 : decode cX5_order 294 = .ok (.invokevirtual 105, 3) := by decide +kernel
theorem dX5_order_297 : decode cX5_order 297 = .ok (.goto 9, 3) := by decide +kernel
theorem dX5_order_300 : decode cX5_order 300 = .ok (.aload_n 0, 1) := by decide +kernel
theorem dX5_order_301 : decode cX5_order 301 = .ok (.iload 5, 2) := by decide +kernel
theorem dX5_order_303 : decode cX5_order 303 = .ok (.invokevirtual 114, 3) := by decide +kernel
theorem dX5_order_306 : decode cX5_order 306 = .ok (.ireturn, 1) := by decide +kernel
theorem dX5_isWell_0 : decode cX5_isWell 0 = .ok (.aload_n 0, 1) := by decide +kernel
theorem dX5_isWell_1 : decode cX5_isWell 1 = .ok (.iconst 0, 1) := by decide +kernel
theorem dX5_isWell_2 : decode cX5_isWell 2 = .ok (.putfield 131, 3) := by decide +kernel
theorem dX5_isWell_5 : decode cX5_isWell 5 = .ok (.aload_n 0, 1) := by decide +kernel
theorem dX5_isWell_6 : decode cX5_isWell 6 = .ok (.iconst 0, 1) := by decide +kernel
theorem dX5_isWell_7 : decode cX5_isWell 7 = .ok (.invokevirtual 144, 3) := by decide +kernel
theorem dX5_isWell_10 : decode cX5_isWell 10 = .ok (.ifCond .ne 7, 3) := by decide +kernel
theorem dX5_isWell_13 : decode cX5_isWell 13 = .ok (.iconst 1, 1) := by decide +kernel
theorem dX5_isWell_14 : decode cX5_isWell 14 = .ok (.goto 4, 3) := by decide +kernel
theorem dX5_isWell_17 : decode cX5_isWell 17 = .ok (.iconst 0, 1) := by decide +kernel
theorem dX5_isWell_18 : decode cX5_isWell 18 = .ok (.istore_n 1, 1) := by decide +kernel
theorem dX5_isWell_19 : decode cX5_isWell 19 = .ok (.iload_n 1, 1) := by decide +kernel
theorem dX5_isWell_20 : decode cX5_isWell 20 = .ok (.ifCond .eq 62, 3) := by decide +kernel
theorem dX5_isWell_23 : decode cX5_isWell 23 = .ok (.aload_n 0, 1) := by decide +kernel
theorem dX5_isWell_24 : decode cX5_isWell 24 = .ok (.getfield 131, 3) := by decide +kernel
theorem dX5_isWell_27 : decode cX5_isWell 27 = .ok (.aload_n 0, 1) := by decide +kernel
theorem dX5_isWell_28 : decode cX5_isWell 28 = .ok (.getfield 120, 3) := by decide +kernel
theorem dX5_isWell_31 : decode cX5_isWell 31 = .ok (.if_icmp .ge 51, 3) := by decide +kernel
theorem dX5_isWell_34 : decode cX5_isWell 34 = .ok (.aload_n 0, 1) := by decide +kernel
theorem dX5_isWell_35 : decode cX5_isWell 35 = .ok (.bipush 59, 2) := by decide +kernel
theorem dX5_isWell_37 : decode cX5_isWell 37 = .ok (.bipush 59, 2) := by decide +kernel
theorem dX5_isWell_39 : decode cX5_isWell 39 = .ok (.invokevirtual 134, 3) := by decide +kernel
theorem dX5_isWell_42 : decode cX5_isWell 42 = .ok (.istore_n 1, 1) := by decide +kernel
theorem dX5_isWell_43 : decode cX5_isWell 43 = .ok (.aload_n 0, 1) := by decide +kernel
theorem dX5_isWell_44 : decode cX5_isWell 44 = .ok (.dup, 1) := by decide +kernel
theorem dX5_isWell_45 : decode cX5_isWell 45 = .ok (.getfield 131, 3) := by decide +kernel
theorem dX5_isWell_48 : decode cX5_isWell 48 = .ok (.iload_n 1, 1) := by decide +kernel
theorem dX5_isWell_49 : decode cX5_isWell 49 = .ok (.ifCond .eq 7, 3) := by decide +kernel
theorem dX5_isWell_52 : decode cX5_isWell 52 = .ok (.iconst 1, 1) := by decide +kernel
theorem dX5_isWell_53 : decode cX5_isWell 53 = .ok (.goto 4, 3) := by decide +kernel
theorem dX5_isWell_56 : decode cX5_isWell 56 = .ok (.iconst 0, 1) := by decide +kernel
theorem dX5_isWell_57 : decode cX5_isWell 57 = .ok (.iadd, 1) := by decide +kernel
theorem dX5_isWell_58 : decode cX5_isWell 58 = .ok (.putfield 131, 3) := by decide +kernel
theorem dX5_isWell_61 : decode cX5_isWell 61 = .ok (.iload_n 1, 1) := by decide +kernel
theorem dX5_isWell_62 : decode cX5_isWell 62 = .ok (.ifCond .eq 15, 3) := by decide +kernel
theorem dX5_isWell_65 : decode cX5_isWell 65 = .ok (.aload_n 0, 1) := by decide +kernel
theorem dX5_isWell_66 : decode cX5_isWell 66 = .ok (.iconst 0, 1) := by decide +kernel
theorem dX5_isWell_67 : decode cX5_isWell 67 = .ok (.invokevirtual 144, 3) := by decide +kernel
theorem dX5_isWell_70 : decode cX5_isWell 70 = .ok (.ifCond .ne 7, 3) := by decide +kernel
theorem dX5_isWell_73 : decode cX5_isWell 73 = .ok (.iconst 1, 1) := by decide +kernel
theorem dX5_isWell_74 : decode cX5_isWell 74 = .ok (.goto 4, 3) := by decide +kernel
theorem dX5_isWell_77 : decode cX5_isWell 77 = .ok (.iconst 0, 1) := by decide +kernel
theorem dX5_isWell_78 : decode cX5_isWell 78 = .ok (.istore_n 1, 1) := by decide +kernel
theorem dX5_isWell_79 : decode cX5_isWell 79 = .ok (.goto (-60), 3) := by decide +kernel
theorem dX5_isWell_82 : decode cX5_isWell 82 = .ok (.iload_n 1, 1) := by decide +kernel
theorem dX5_isWell_83 : decode cX5_isWell 83 = .ok (.ireturn, 1) := by decide +kernel
theorem dX5_fault_0 : decode cX5_fault 0 = .ok (.aload_n 0, 1) := by decide +kernel
theorem dX5_fault_1 : decode cX5_fault 1 = .ok (.invokevirtual 148, 3) := by decide +kernel
theorem dX5_fault_4 : decode cX5_fault 4 = .ok (.ifCond .eq 8, 3) := by decide +kernel
theorem dX5_fault_7 : decode cX5_fault 7 = .ok (.bipush (-6), 2) := by decide +kernel
theorem dX5_fault_9 : decode cX5_fault 9 = .ok (.goto 7, 3) := by decide +kernel
theorem dX5_fault_12 : decode cX5_fault 12 = .ok (.aload_n 0, 1) := by decide +kernel
theorem dX5_fault_13 : decode cX5_fault 13 = .ok (.getfield 131, 3) := by decide +kernel
theorem dX5_fault_16 : decode cX5_fault 16 = .ok (.ireturn, 1) := by decide +kernel
theorem dX5_carryOut_0 : decode cX5_carryOut 0 = .ok (.aload_n 0, 1) := by decide +kernel
theorem dX5_carryOut_1 : decode cX5_carryOut 1 = .ok (.invokevirtual 148, 3) := by decide +kernel
theorem dX5_carryOut_4 : decode cX5_carryOut 4 = .ok (.ifCond .ne 6, 3) := by decide +kernel
theorem dX5_carryOut_7 : decode cX5_carryOut 7 = .ok (.bipush (-3), 2) := by decide +kernel
theorem dX5_carryOut_9 : decode cX5_carryOut 9 = .ok (.ireturn, 1) := by decide +kernel
theorem dX5_carryOut_10 : decode cX5_carryOut 10 = .ok (.aload_n 0, 1) := by decide +kernel
theorem dX5_carryOut_11 : decode cX5_carryOut 11 = .ok (.invokevirtual 59, 3) := by decide +kernel
theorem dX5_carryOut_14 : decode cX5_carryOut 14 = .ok (.aload_n 0, 1) := by decide +kernel
theorem dX5_carryOut_15 : decode cX5_carryOut 15 = .ok (.iconst 0, 1) := by decide +kernel
theorem dX5_carryOut_16 : decode cX5_carryOut 16 = .ok (.putfield 131, 3) := by decide +kernel
theorem dX5_carryOut_19 : decode cX5_carryOut 19 = .ok (.iconst 0, 1) := by decide +kernel
theorem dX5_carryOut_20 : decode cX5_carryOut 20 = .ok (.istore_n 1, 1) := by decide +kernel
theorem dX5_carryOut_21 : decode cX5_carryOut 21 = .ok (.iconst 1, 1) := by decide +kernel
theorem dX5_carryOut_22 : decode cX5_carryOut 22 = .ok (.istore_n 2, 1) := by decide +kernel
theorem dX5_carryOut_23 : decode cX5_carryOut 23 = .ok (.iload_n 2, 1) := by decide +kernel
theorem dX5_carryOut_24 : decode cX5_carryOut 24 = .ok (.ifCond .eq 53, 3) := by decide +kernel
theorem dX5_carryOut_27 : decode cX5_carryOut 27 = .ok (.aload_n 0, 1) := by decide +kernel
theorem dX5_carryOut_28 : decode cX5_carryOut 28 = .ok (.getfield 131, 3) := by decide +kernel
theorem dX5_carryOut_31 : decode cX5_carryOut 31 = .ok (.aload_n 0, 1) := by decide +kernel
theorem dX5_carryOut_32 : decode cX5_carryOut 32 = .ok (.getfield 120, 3) := by decide +kernel
theorem dX5_carryOut_35 : decode cX5_carryOut 35 = .ok (.if_icmp .ge 42, 3) := by decide +kernel
theorem dX5_carryOut_38 : decode cX5_carryOut 38 = .ok (.aload_n 0, 1) := by decide +kernel
theorem dX5_carryOut_39 : decode cX5_carryOut 39 = .ok (.iconst 1, 1) := by decide +kernel
theorem dX5_carryOut_40 : decode cX5_carryOut 40 = .ok (.invokevirtual 144, 3) := by decide +kernel
theorem dX5_carryOut_43 : decode cX5_carryOut 43 = .ok (.ifCond .lt 7, 3) := by decide +kernel
theorem dX5_carryOut_46 : decode cX5_carryOut 46 = .ok (.iconst 1, 1) := by decide +kernel
theorem dX5_carryOut_47 : decode cX5_carryOut 47 = .ok (.goto 4, 3) := by decide +kernel
theorem dX5_carryOut_50 : decode cX5_carryOut 50 = .ok (.iconst 0, 1) := by decide +kernel
theorem dX5_carryOut_51 : decode cX5_carryOut 51 = .ok (.istore_n 2, 1) := by decide +kernel
theorem dX5_carryOut_52 : decode cX5_carryOut 52 = .ok (.iload_n 1, 1) := by decide +kernel
theorem dX5_carryOut_53 : decode cX5_carryOut 53 = .ok (.iload_n 2, 1) := by decide +kernel
theorem dX5_carryOut_54 : decode cX5_carryOut 54 = .ok (.ifCond .eq 7, 3) := by decide +kernel
theorem dX5_carryOut_57 : decode cX5_carryOut 57 = .ok (.iconst 1, 1) := by decide +kernel
theorem dX5_carryOut_58 : decode cX5_carryOut 58 = .ok (.goto 4, 3) := by decide +kernel
theorem dX5_carryOut_61 : decode cX5_carryOut 61 = .ok (.iconst 0, 1) := by decide +kernel
theorem dX5_carryOut_62 : decode cX5_carryOut 62 = .ok (.iadd, 1) := by decide +kernel
theorem dX5_carryOut_63 : decode cX5_carryOut 63 = .ok (.istore_n 1, 1) := by decide +kernel
theorem dX5_carryOut_64 : decode cX5_carryOut 64 = .ok (.aload_n 0, 1) := by decide +kernel
theorem dX5_carryOut_65 : decode cX5_carryOut 65 = .ok (.dup, 1) := by decide +kernel
theorem dX5_carryOut_66 : decode cX5_carryOut 66 = .ok (.getfield 131, 3) := by decide +kernel
theorem dX5_carryOut_69 : decode cX5_carryOut 69 = .ok (.iconst 1, 1) := by decide +kernel
theorem dX5_carryOut_70 : decode cX5_carryOut 70 = .ok (.iadd, 1) := by decide +kernel
theorem dX5_carryOut_71 : decode cX5_carryOut 71 = .ok (.putfield 131, 3) := by decide +kernel
theorem dX5_carryOut_74 : decode cX5_carryOut 74 = .ok (.goto (-51), 3) := by decide +kernel
theorem dX5_carryOut_77 : decode cX5_carryOut 77 = .ok (.aload_n 0, 1) := by decide +kernel
theorem dX5_carryOut_78 : decode cX5_carryOut 78 = .ok (.iconst 0, 1) := by decide +kernel
theorem dX5_carryOut_79 : decode cX5_carryOut 79 = .ok (.putfield 120, 3) := by decide +kernel
theorem dX5_carryOut_82 : decode cX5_carryOut 82 = .ok (.aload_n 0, 1) := by decide +kernel
theorem dX5_carryOut_83 : decode cX5_carryOut 83 = .ok (.iload_n 1, 1) := by decide +kernel
theorem dX5_carryOut_84 : decode cX5_carryOut 84 = .ok (.invokevirtual 62, 3) := by decide +kernel
theorem dX5_carryOut_87 : decode cX5_carryOut 87 = .ok (.ireturn, 1) := by decide +kernel
