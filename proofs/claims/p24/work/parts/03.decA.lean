theorem dX0_init_0 : decode cX0_init 0 = .ok (.aload_n 0, 1) := by decide +kernel
theorem dX0_init_1 : decode cX0_init 1 = .ok (.invokespecial 3, 3) := by decide +kernel
theorem dX0_init_4 : decode cX0_init 4 = .ok (.aload_n 0, 1) := by decide +kernel
theorem dX0_init_5 : decode cX0_init 5 = .ok (.bipush 7, 2) := by decide +kernel
theorem dX0_init_7 : decode cX0_init 7 = .ok (.anewarray 11, 3) := by decide +kernel
theorem dX0_init_10 : decode cX0_init 10 = .ok (.putfield 13, 3) := by decide +kernel
theorem dX0_init_13 : decode cX0_init 13 = .ok (.iconst 0, 1) := by decide +kernel
theorem dX0_init_14 : decode cX0_init 14 = .ok (.istore_n 1, 1) := by decide +kernel
theorem dX0_init_15 : decode cX0_init 15 = .ok (.iload_n 1, 1) := by decide +kernel
theorem dX0_init_16 : decode cX0_init 16 = .ok (.bipush 7, 2) := by decide +kernel
theorem dX0_init_18 : decode cX0_init 18 = .ok (.if_icmp .ge 22, 3) := by decide +kernel
theorem dX0_init_21 : decode cX0_init 21 = .ok (.aload_n 0, 1) := by decide +kernel
theorem dX0_init_22 : decode cX0_init 22 = .ok (.getfield 13, 3) := by decide +kernel
theorem dX0_init_25 : decode cX0_init 25 = .ok (.iload_n 1, 1) := by decide +kernel
theorem dX0_init_26 : decode cX0_init 26 = .ok (.new 11, 3) := by decide +kernel
theorem dX0_init_29 : decode cX0_init 29 = .ok (.dup, 1) := by decide +kernel
theorem dX0_init_30 : decode cX0_init 30 = .ok (.invokespecial 17, 3) := by decide +kernel
theorem dX0_init_33 : decode cX0_init 33 = .ok (.aastore, 1) := by decide +kernel
theorem dX0_init_34 : decode cX0_init 34 = .ok (.iinc 1 1, 3) := by decide +kernel
theorem dX0_init_37 : decode cX0_init 37 = .ok (.goto (-22), 3) := by decide +kernel
theorem dX0_init_40 : decode cX0_init 40 = .ok (.return_, 1) := by decide +kernel
theorem dX0_note_0 : decode cX0_note 0 = .ok (.aload_n 0, 1) := by decide +kernel
theorem dX0_note_1 : decode cX0_note 1 = .ok (.getfield 13, 3) := by decide +kernel
theorem dX0_note_4 : decode cX0_note 4 = .ok (.aload_n 0, 1) := by decide +kernel
theorem dX0_note_5 : decode cX0_note 5 = .ok (.getfield 18, 3) := by decide +kernel
theorem dX0_note_8 : decode cX0_note 8 = .ok (.aload_n 0, 1) := by decide +kernel
theorem dX0_note_9 : decode cX0_note 9 = .ok (.getfield 22, 3) := by decide +kernel
theorem dX0_note_12 : decode cX0_note 12 = .ok (.iadd, 1) := by decide +kernel
theorem dX0_note_13 : decode cX0_note 13 = .ok (.bipush 7, 2) := by decide +kernel
theorem dX0_note_15 : decode cX0_note 15 = .ok (.irem, 1) := by decide +kernel
theorem dX0_note_16 : decode cX0_note 16 = .ok (.aaload, 1) := by decide +kernel
theorem dX0_note_17 : decode cX0_note 17 = .ok (.aload_n 1, 1) := by decide +kernel
theorem dX0_note_18 : decode cX0_note 18 = .ok (.invokevirtual 25, 3) := by decide +kernel
theorem dX0_note_21 : decode cX0_note 21 = .ok (.return_, 1) := by decide +kernel
theorem dX0_keepNoted_0 : decode cX0_keepNoted 0 = .ok (.aload_n 0, 1) := by decide +kernel
theorem dX0_keepNoted_1 : decode cX0_keepNoted 1 = .ok (.getfield 22, 3) := by decide +kernel
theorem dX0_keepNoted_4 : decode cX0_keepNoted 4 = .ok (.bipush 6, 2) := by decide +kernel
theorem dX0_keepNoted_6 : decode cX0_keepNoted 6 = .ok (.if_icmp .ge 16, 3) := by decide +kernel
theorem dX0_keepNoted_9 : decode cX0_keepNoted 9 = .ok (.aload_n 0, 1) := by decide +kernel
theorem dX0_keepNoted_10 : decode cX0_keepNoted 10 = .ok (.dup, 1) := by decide +kernel
theorem dX0_keepNoted_11 : decode cX0_keepNoted 11 = .ok (.getfield 22, 3) := by decide +kernel
theorem dX0_keepNoted_14 : decode cX0_keepNoted 14 = .ok (.iconst 1, 1) := by decide +kernel
theorem dX0_keepNoted_15 : decode cX0_keepNoted 15 = .ok (.iadd, 1) := by decide +kernel
theorem dX0_keepNoted_16 : decode cX0_keepNoted 16 = .ok (.putfield 22, 3) := by decide +kernel
theorem dX0_keepNoted_19 : decode cX0_keepNoted 19 = .ok (.goto 16, 3) := by decide +kernel
theorem dX0_keepNoted_22 : decode cX0_keepNoted 22 = .ok (.aload_n 0, 1) := by decide +kernel
theorem dX0_keepNoted_23 : decode cX0_keepNoted 23 = .ok (.aload_n 0, 1) := by decide +kernel
theorem dX0_keepNoted_24 : decode cX0_keepNoted 24 = .ok (.getfield 18, 3) := by decide +kernel
theorem dX0_keepNoted_27 : decode cX0_keepNoted 27 = .ok (.iconst 1, 1) := by decide +kernel
theorem dX0_keepNoted_28 : decode cX0_keepNoted 28 = .ok (.iadd, 1) := by decide +kernel
theorem dX0_keepNoted_29 : decode cX0_keepNoted 29 = .ok (.bipush 7, 2) := by decide +kernel
theorem dX0_keepNoted_31 : decode cX0_keepNoted 31 = .ok (.irem, 1) := by decide +kernel
theorem dX0_keepNoted_32 : decode cX0_keepNoted 32 = .ok (.putfield 18, 3) := by decide +kernel
theorem dX0_keepNoted_35 : decode cX0_keepNoted 35 = .ok (.return_, 1) := by decide +kernel
theorem dX1_init_0 : decode cX1_init 0 = .ok (.aload_n 0, 1) := by decide +kernel
theorem dX1_init_1 : decode cX1_init 1 = .ok (.invokespecial 3, 3) := by decide +kernel
theorem dX1_init_4 : decode cX1_init 4 = .ok (.aload_n 0, 1) := by decide +kernel
theorem dX1_init_5 : decode cX1_init 5 = .ok (.bipush 80, 2) := by decide +kernel
theorem dX1_init_7 : decode cX1_init 7 = .ok (.newarray .char, 2) := by decide +kernel
theorem dX1_init_9 : decode cX1_init 9 = .ok (.putfield 9, 3) := by decide +kernel
theorem dX1_init_12 : decode cX1_init 12 = .ok (.return_, 1) := by decide +kernel
theorem dX2_init_0 : decode cX2_init 0 = .ok (.aload_n 0, 1) := by decide +kernel
theorem dX2_init_1 : decode cX2_init 1 = .ok (.invokespecial 3, 3) := by decide +kernel
theorem dX2_init_4 : decode cX2_init 4 = .ok (.aload_n 0, 1) := by decide +kernel
theorem dX2_init_5 : decode cX2_init 5 = .ok (.iconst 2, 1) := by decide +kernel
theorem dX2_init_6 : decode cX2_init 6 = .ok (.newarray .int, 2) := by decide +kernel
theorem dX2_init_8 : decode cX2_init 8 = .ok (.putfield 9, 3) := by decide +kernel
theorem dX2_init_11 : decode cX2_init 11 = .ok (.aload_n 0, 1) := by decide +kernel
theorem dX2_init_12 : decode cX2_init 12 = .ok (.getfield 9, 3) := by decide +kernel
theorem dX2_init_15 : decode cX2_init 15 = .ok (.iconst 0, 1) := by decide +kernel
theorem dX2_init_16 : decode cX2_init 16 = .ok (.bipush 20, 2) := by decide +kernel
theorem dX2_init_18 : decode cX2_init 18 = .ok (.iastore, 1) := by decide +kernel
theorem dX2_init_19 : decode cX2_init 19 = .ok (.aload_n 0, 1) := by decide +kernel
theorem dX2_init_20 : decode cX2_init 20 = .ok (.getfield 9, 3) := by decide +kernel
theorem dX2_init_23 : decode cX2_init 23 = .ok (.iconst 1, 1) := by decide +kernel
theorem dX2_init_24 : decode cX2_init 24 = .ok (.bipush 30, 2) := by decide +kernel
theorem dX2_init_26 : decode cX2_init 26 = .ok (.iastore, 1) := by decide +kernel
theorem dX2_init_27 : decode cX2_init 27 = .ok (.aload_n 0, 1) := by decide +kernel
theorem dX2_init_28 : decode cX2_init 28 = .ok (.iconst 5, 1) := by decide +kernel
theorem dX2_init_29 : decode cX2_init 29 = .ok (.anewarray 15, 3) := by decide +kernel
theorem dX2_init_32 : decode cX2_init 32 = .ok (.putfield 17, 3) := by decide +kernel
theorem dX2_init_35 : decode cX2_init 35 = .ok (.iconst 0, 1) := by decide +kernel
theorem dX2_init_36 : decode cX2_init 36 = .ok (.istore_n 1, 1) := by decide +kernel
theorem dX2_init_37 : decode cX2_init 37 = .ok (.iload_n 1, 1) := by decide +kernel
theorem dX2_init_38 : decode cX2_init 38 = .ok (.iconst 5, 1) := by decide +kernel
theorem dX2_init_39 : decode cX2_init 39 = .ok (.if_icmp .ge 22, 3) := by decide +kernel
theorem dX2_init_42 : decode cX2_init 42 = .ok (.aload_n 0, 1) := by decide +kernel
theorem dX2_init_43 : decode cX2_init 43 = .ok (.getfield 17, 3) := by decide +kernel
theorem dX2_init_46 : decode cX2_init 46 = .ok (.iload_n 1, 1) := by decide +kernel
theorem dX2_init_47 : decode cX2_init 47 = .ok (.new 15, 3) := by decide +kernel
theorem dX2_init_50 : decode cX2_init 50 = .ok (.dup, 1) := by decide +kernel
theorem dX2_init_51 : decode cX2_init 51 = .ok (.invokespecial 21, 3) := by decide +kernel
theorem dX2_init_54 : decode cX2_init 54 = .ok (.aastore, 1) := by decide +kernel
theorem dX2_init_55 : decode cX2_init 55 = .ok (.iinc 1 1, 3) := by decide +kernel
theorem dX2_init_58 : decode cX2_init 58 = .ok (.goto (-21), 3) := by decide +kernel
theorem dX2_init_61 : decode cX2_init 61 = .ok (.return_, 1) := by decide +kernel
theorem dX2_copyFrom_0 : decode cX2_copyFrom 0 = .ok (.aload_n 1, 1) := by decide +kernel
theorem dX2_copyFrom_1 : decode cX2_copyFrom 1 = .ok (.getfield 9, 3) := by decide +kernel
theorem dX2_copyFrom_4 : decode cX2_copyFrom 4 = .ok (.iconst 0, 1) := by decide +kernel
theorem dX2_copyFrom_5 : decode cX2_copyFrom 5 = .ok (.aload_n 0, 1) := by decide +kernel
theorem dX2_copyFrom_6 : decode cX2_copyFrom 6 = .ok (.getfield 9, 3) := by decide +kernel
theorem dX2_copyFrom_9 : decode cX2_copyFrom 9 = .ok (.iconst 0, 1) := by decide +kernel
theorem dX2_copyFrom_10 : decode cX2_copyFrom 10 = .ok (.iconst 2, 1) := by decide +kernel
theorem dX2_copyFrom_11 : decode cX2_copyFrom 11 = .ok (.invokestatic 22, 3) := by decide +kernel
theorem dX2_copyFrom_14 : decode cX2_copyFrom 14 = .ok (.aload_n 0, 1) := by decide +kernel
theorem dX2_copyFrom_15 : decode cX2_copyFrom 15 = .ok (.aload_n 1, 1) := by decide +kernel
theorem dX2_copyFrom_16 : decode cX2_copyFrom 16 = .ok (.getfield 28, 3) := by decide +kernel
theorem dX2_copyFrom_19 : decode cX2_copyFrom 19 = .ok (.putfield 28, 3) := by decide +kernel
theorem dX2_copyFrom_22 : decode cX2_copyFrom 22 = .ok (.aload_n 0, 1) := by decide +kernel
theorem dX2_copyFrom_23 : decode cX2_copyFrom 23 = .ok (.aload_n 1, 1) := by decide +kernel
theorem dX2_copyFrom_24 : decode cX2_copyFrom 24 = .ok (.getfield 32, 3) := by decide +kernel
theorem dX2_copyFrom_27 : decode cX2_copyFrom 27 = .ok (.putfield 32, 3) := by decide +kernel
theorem dX2_copyFrom_30 : decode cX2_copyFrom 30 = .ok (.aload_n 0, 1) := by decide +kernel
theorem dX2_copyFrom_31 : decode cX2_copyFrom 31 = .ok (.aload_n 1, 1) := by decide +kernel
theorem dX2_copyFrom_32 : decode cX2_copyFrom 32 = .ok (.getfield 35, 3) := by decide +kernel
theorem dX2_copyFrom_35 : decode cX2_copyFrom 35 = .ok (.putfield 35, 3) := by decide +kernel
theorem dX2_copyFrom_38 : decode cX2_copyFrom 38 = .ok (.iconst 0, 1) := by decide +kernel
theorem dX2_copyFrom_39 : decode cX2_copyFrom 39 = .ok (.istore_n 2, 1) := by decide +kernel
theorem dX2_copyFrom_40 : decode cX2_copyFrom 40 = .ok (.iload_n 2, 1) := by decide +kernel
theorem dX2_copyFrom_41 : decode cX2_copyFrom 41 = .ok (.aload_n 0, 1) := by decide +kernel
theorem dX2_copyFrom_42 : decode cX2_copyFrom 42 = .ok (.getfield 28, 3) := by decide +kernel
theorem dX2_copyFrom_45 : decode cX2_copyFrom 45 = .ok (.if_icmp .ge 24, 3) := by decide +kernel
theorem dX2_copyFrom_48 : decode cX2_copyFrom 48 = .ok (.aload_n 0, 1) := by decide +kernel
theorem dX2_copyFrom_49 : decode cX2_copyFrom 49 = .ok (.getfield 17, 3) := by decide +kernel
theorem dX2_copyFrom_52 : decode cX2_copyFrom 52 = .ok (.iload_n 2, 1) := by decide +kernel
theorem dX2_copyFrom_53 : decode cX2_copyFrom 53 = .ok (.aaload, 1) := by decide +kernel
theorem dX2_copyFrom_54 : decode cX2_copyFrom 54 = .ok (.aload_n 1, 1) := by decide +kernel
theorem dX2_copyFrom_55 : decode cX2_copyFrom 55 = .ok (.getfield 17, 3) := by decide +kernel
theorem dX2_copyFrom_58 : decode cX2_copyFrom 58 = .ok (.iload_n 2, 1) := by decide +kernel
theorem dX2_copyFrom_59 : decode cX2_copyFrom 59 = .ok (.aaload, 1) := by decide +kernel
theorem dX2_copyFrom_60 : decode cX2_copyFrom 60 = .ok (.invokevirtual 38, 3) := by decide +kernel
theorem dX2_copyFrom_63 : decode cX2_copyFrom 63 = .ok (.iinc 2 1, 3) := by decide +kernel
theorem dX2_copyFrom_66 : decode cX2_copyFrom 66 = .ok (.goto (-26), 3) := by decide +kernel
theorem dX2_copyFrom_69 : decode cX2_copyFrom 69 = .ok (.return_, 1) := by decide +kernel
theorem dX2_hikes_0 : decode cX2_hikes 0 = .ok (.iconst 0, 1) := by decide +kernel
theorem dX2_hikes_1 : decode cX2_hikes 1 = .ok (.istore_n 1, 1) := by decide +kernel
theorem dX2_hikes_2 : decode cX2_hikes 2 = .ok (.iconst 0, 1) := by decide +kernel
theorem dX2_hikes_3 : decode cX2_hikes 3 = .ok (.istore_n 2, 1) := by decide +kernel
theorem dX2_hikes_4 : decode cX2_hikes 4 = .ok (.iload_n 2, 1) := by decide +kernel
theorem dX2_hikes_5 : decode cX2_hikes 5 = .ok (.aload_n 0, 1) := by decide +kernel
theorem dX2_hikes_6 : decode cX2_hikes 6 = .ok (.getfield 28, 3) := by decide +kernel
theorem dX2_hikes_9 : decode cX2_hikes 9 = .ok (.if_icmp .ge 21, 3) := by decide +kernel
theorem dX2_hikes_12 : decode cX2_hikes 12 = .ok (.iload_n 1, 1) := by decide +kernel
theorem dX2_hikes_13 : decode cX2_hikes 13 = .ok (.aload_n 0, 1) := by decide +kernel
theorem dX2_hikes_14 : decode cX2_hikes 14 = .ok (.getfield 17, 3) := by decide +kernel
theorem dX2_hikes_17 : decode cX2_hikes 17 = .ok (.iload_n 2, 1) := by decide +kernel
theorem dX2_hikes_18 : decode cX2_hikes 18 = .ok (.aaload, 1) := by decide +kernel
theorem dX2_hikes_19 : decode cX2_hikes 19 = .ok (.getfield 42, 3) := by decide +kernel
theorem dX2_hikes_22 : decode cX2_hikes 22 = .ok (.iadd, 1) := by decide +kernel
theorem dX2_hikes_23 : decode cX2_hikes 23 = .ok (.istore_n 1, 1) := by decide +kernel
theorem dX2_hikes_24 : decode cX2_hikes 24 = .ok (.iinc 2 1, 3) := by decide +kernel
theorem dX2_hikes_27 : decode cX2_hikes 27 = .ok (.goto (-23), 3) := by decide +kernel
theorem dX2_hikes_30 : decode cX2_hikes 30 = .ok (.iload_n 1, 1) := by decide +kernel
theorem dX2_hikes_31 : decode cX2_hikes 31 = .ok (.ireturn, 1) := by decide +kernel
theorem dX2_scoutsOnHikes_0 : decode cX2_scoutsOnHikes 0 = .ok (.iconst 0, 1) := by decide +kernel
theorem dX2_scoutsOnHikes_1 : decode cX2_scoutsOnHikes 1 = .ok (.istore_n 1, 1) := by decide +kernel
theorem dX2_scoutsOnHikes_2 : decode cX2_scoutsOnHikes 2 = .ok (.iconst 0, 1) := by decide +kernel
theorem dX2_scoutsOnHikes_3 : decode cX2_scoutsOnHikes 3 = .ok (.istore_n 2, 1) := by decide +kernel
theorem dX2_scoutsOnHikes_4 : decode cX2_scoutsOnHikes 4 = .ok (.iload_n 2, 1) := by decide +kernel
theorem dX2_scoutsOnHikes_5 : decode cX2_scoutsOnHikes 5 = .ok (.aload_n 0, 1) := by decide +kernel
theorem dX2_scoutsOnHikes_6 : decode cX2_scoutsOnHikes 6 = .ok (.getfield 28, 3) := by decide +kernel
theorem dX2_scoutsOnHikes_9 : decode cX2_scoutsOnHikes 9 = .ok (.if_icmp .ge 24, 3) := by decide +kernel
theorem dX2_scoutsOnHikes_12 : decode cX2_scoutsOnHikes 12 = .ok (.iload_n 1, 1) := by decide +kernel
theorem dX2_scoutsOnHikes_13 : decode cX2_scoutsOnHikes 13 = .ok (.aload_n 0, 1) := by decide +kernel
theorem dX2_scoutsOnHikes_14 : decode cX2_scoutsOnHikes 14 = .ok (.getfield 17, 3) := by decide +kernel
theorem dX2_scoutsOnHikes_17 : decode cX2_scoutsOnHikes 17 = .ok (.iload_n 2, 1) := by decide +kernel
theorem dX2_scoutsOnHikes_18 : decode cX2_scoutsOnHikes 18 = .ok (.aaload, 1) := by decide +kernel
theorem dX2_scoutsOnHikes_19 : decode cX2_scoutsOnHikes 19 = .ok (.getfield 45, 3) := by decide +kernel
theorem dX2_scoutsOnHikes_22 : decode cX2_scoutsOnHikes 22 = .ok (.invokestatic 48, 3) := by decide +kernel
theorem dX2_scoutsOnHikes_25 : decode cX2_scoutsOnHikes 25 = .ok (.iadd, 1) := by decide +kernel
theorem dX2_scoutsOnHikes_26 : decode cX2_scoutsOnHikes 26 = .ok (.istore_n 1, 1) := by decide +kernel
theorem dX2_scoutsOnHikes_27 : decode cX2_scoutsOnHikes 27 = .ok (.iinc 2 1, 3) := by decide +kernel
theorem dX2_scoutsOnHikes_30 : decode cX2_scoutsOnHikes 30 = .ok (.goto (-26), 3) := by decide +kernel
theorem dX2_scoutsOnHikes_33 : decode cX2_scoutsOnHikes 33 = .ok (.iload_n 1, 1) := by decide +kernel
theorem dX2_scoutsOnHikes_34 : decode cX2_scoutsOnHikes 34 = .ok (.ireturn, 1) := by decide +kernel
theorem dX2_scoutsLost_0 : decode cX2_scoutsLost 0 = .ok (.iconst 0, 1) := by decide +kernel
theorem dX2_scoutsLost_1 : decode cX2_scoutsLost 1 = .ok (.istore_n 1, 1) := by decide +kernel
theorem dX2_scoutsLost_2 : decode cX2_scoutsLost 2 = .ok (.iconst 0, 1) := by decide +kernel
theorem dX2_scoutsLost_3 : decode cX2_scoutsLost 3 = .ok (.istore_n 2, 1) := by decide +kernel
theorem dX2_scoutsLost_4 : decode cX2_scoutsLost 4 = .ok (.iload_n 2, 1) := by decide +kernel
theorem dX2_scoutsLost_5 : decode cX2_scoutsLost 5 = .ok (.aload_n 0, 1) := by decide +kernel
theorem dX2_scoutsLost_6 : decode cX2_scoutsLost 6 = .ok (.getfield 28, 3) := by decide +kernel
theorem dX2_scoutsLost_9 : decode cX2_scoutsLost 9 = .ok (.if_icmp .ge 24, 3) := by decide +kernel
theorem dX2_scoutsLost_12 : decode cX2_scoutsLost 12 = .ok (.iload_n 1, 1) := by decide +kernel
theorem dX2_scoutsLost_13 : decode cX2_scoutsLost 13 = .ok (.aload_n 0, 1) := by decide +kernel
theorem dX2_scoutsLost_14 : decode cX2_scoutsLost 14 = .ok (.getfield 17, 3) := by decide +kernel
theorem dX2_scoutsLost_17 : decode cX2_scoutsLost 17 = .ok (.iload_n 2, 1) := by decide +kernel
theorem dX2_scoutsLost_18 : decode cX2_scoutsLost 18 = .ok (.aaload, 1) := by decide +kernel
theorem dX2_scoutsLost_19 : decode cX2_scoutsLost 19 = .ok (.getfield 54, 3) := by decide +kernel
theorem dX2_scoutsLost_22 : decode cX2_scoutsLost 22 = .ok (.invokestatic 48, 3) := by decide +kernel
theorem dX2_scoutsLost_25 : decode cX2_scoutsLost 25 = .ok (.iadd, 1) := by decide +kernel
theorem dX2_scoutsLost_26 : decode cX2_scoutsLost 26 = .ok (.istore_n 1, 1) := by decide +kernel
theorem dX2_scoutsLost_27 : decode cX2_scoutsLost 27 = .ok (.iinc 2 1, 3) := by decide +kernel
theorem dX2_scoutsLost_30 : decode cX2_scoutsLost 30 = .ok (.goto (-26), 3) := by decide +kernel
theorem dX2_scoutsLost_33 : decode cX2_scoutsLost 33 = .ok (.iload_n 1, 1) := by decide +kernel
theorem dX2_scoutsLost_34 : decode cX2_scoutsLost 34 = .ok (.ireturn, 1) := by decide +kernel
theorem dX3_init_0 : decode cX3_init 0 = .ok (.aload_n 0, 1) := by decide +kernel
theorem dX3_init_1 : decode cX3_init 1 = .ok (.invokespecial 3, 3) := by decide +kernel
theorem dX3_init_4 : decode cX3_init 4 = .ok (.aload_n 0, 1) := by decide +kernel
theorem dX3_init_5 : decode cX3_init 5 = .ok (.bipush 16, 2) := by decide +kernel
theorem dX3_init_7 : decode cX3_init 7 = .ok (.newarray .int, 2) := by decide +kernel
theorem dX3_init_9 : decode cX3_init 9 = .ok (.putfield 9, 3) := by decide +kernel
theorem dX3_init_12 : decode cX3_init 12 = .ok (.aload_n 0, 1) := by decide +kernel
theorem dX3_init_13 : decode cX3_init 13 = .ok (.bipush 16, 2) := by decide +kernel
theorem dX3_init_15 : decode cX3_init 15 = .ok (.newarray .int, 2) := by decide +kernel
theorem dX3_init_17 : decode cX3_init 17 = .ok (.putfield 15, 3) := by decide +kernel
theorem dX3_init_20 : decode cX3_init 20 = .ok (.return_, 1) := by decide +kernel
theorem dX3_begin_0 : decode cX3_begin 0 = .ok (.aload_n 0, 1) := by decide +kernel
theorem dX3_begin_1 : decode cX3_begin 1 = .ok (.iload_n 1, 1) := by decide +kernel
theorem dX3_begin_2 : decode cX3_begin 2 = .ok (.putfield 18, 3) := by decide +kernel
theorem dX3_begin_5 : decode cX3_begin 5 = .ok (.aload_n 0, 1) := by decide +kernel
theorem dX3_begin_6 : decode cX3_begin 6 = .ok (.iload_n 1, 1) := by decide +kernel
theorem dX3_begin_7 : decode cX3_begin 7 = .ok (.putfield 22, 3) := by decide +kernel
theorem dX3_begin_10 : decode cX3_begin 10 = .ok (.aload_n 0, 1) := by decide +kernel
theorem dX3_begin_11 : decode cX3_begin 11 = .ok (.iconst 0, 1) := by decide +kernel
theorem dX3_begin_12 : decode cX3_begin 12 = .ok (.putfield 25, 3) := by decide +kernel
theorem dX3_begin_15 : decode cX3_begin 15 = .ok (.aload_n 0, 1) := by decide +kernel
theorem dX3_begin_16 : decode cX3_begin 16 = .ok (.iconst 0, 1) := by decide +kernel
theorem dX3_begin_17 : decode cX3_begin 17 = .ok (.putfield 28, 3) := by decide +kernel
theorem dX3_begin_20 : decode cX3_begin 20 = .ok (.aload_n 0, 1) := by decide +kernel
theorem dX3_begin_21 : decode cX3_begin 21 = .ok (.iconst 0, 1) := by decide +kernel
theorem dX3_begin_22 : decode cX3_begin 22 = .ok (.putfield 31, 3) := by decide +kernel
theorem dX3_begin_25 : decode cX3_begin 25 = .ok (.aload_n 0, 1) := by decide +kernel
theorem dX3_begin_26 : decode cX3_begin 26 = .ok (.iconst 0, 1) := by decide +kernel
theorem dX3_begin_27 : decode cX3_begin 27 = .ok (.putfield 34, 3) := by decide +kernel
theorem dX3_begin_30 : decode cX3_begin 30 = .ok (.aload_n 0, 1) := by decide +kernel
theorem dX3_begin_31 : decode cX3_begin 31 = .ok (.iconst 0, 1) := by decide +kernel
theorem dX3_begin_32 : decode cX3_begin 32 = .ok (.putfield 37, 3) := by decide +kernel
theorem dX3_begin_35 : decode cX3_begin 35 = .ok (.aload_n 0, 1) := by decide +kernel
theorem dX3_begin_36 : decode cX3_begin 36 = .ok (.iconst 0, 1) := by decide +kernel
theorem dX3_begin_37 : decode cX3_begin 37 = .ok (.putfield 40, 3) := by decide +kernel
theorem dX3_begin_40 : decode cX3_begin 40 = .ok (.aload_n 0, 1) := by decide +kernel
theorem dX3_begin_41 : decode cX3_begin 41 = .ok (.iconst 0, 1) := by decide +kernel
theorem dX3_begin_42 : decode cX3_begin 42 = .ok (.putfield 43, 3) := by decide +kernel
theorem dX3_begin_45 : decode cX3_begin 45 = .ok (.aload_n 0, 1) := by decide +kernel
theorem dX3_begin_46 : decode cX3_begin 46 = .ok (.iconst 0, 1) := by decide +kernel
theorem dX3_begin_47 : decode cX3_begin 47 = .ok (.putfield 46, 3) := by decide +kernel
theorem dX3_begin_50 : decode cX3_begin 50 = .ok (.iconst 0, 1) := by decide +kernel
theorem dX3_begin_51 : decode cX3_begin 51 = .ok (.istore_n 2, 1) := by decide +kernel
theorem dX3_begin_52 : decode cX3_begin 52 = .ok (.iload_n 2, 1) := by decide +kernel
theorem dX3_begin_53 : decode cX3_begin 53 = .ok (.bipush 16, 2) := by decide +kernel
theorem dX3_begin_55 : decode cX3_begin 55 = .ok (.if_icmp .ge 23, 3) := by decide +kernel
theorem dX3_begin_58 : decode cX3_begin 58 = .ok (.aload_n 0, 1) := by decide +kernel
theorem dX3_begin_59 : decode cX3_begin 59 = .ok (.getfield 9, 3) := by decide +kernel
theorem dX3_begin_62 : decode cX3_begin 62 = .ok (.iload_n 2, 1) := by decide +kernel
theorem dX3_begin_63 : decode cX3_begin 63 = .ok (.iconst 0, 1) := by decide +kernel
theorem dX3_begin_64 : decode cX3_begin 64 = .ok (.iastore, 1) := by decide +kernel
theorem dX3_begin_65 : decode cX3_begin 65 = .ok (.aload_n 0, 1) := by decide +kernel
theorem dX3_begin_66 : decode cX3_begin 66 = .ok (.getfield 15, 3) := by decide +kernel
theorem dX3_begin_69 : decode cX3_begin 69 = .ok (.iload_n 2, 1) := by decide +kernel
theorem dX3_begin_70 : decode cX3_begin 70 = .ok (.iconst 0, 1) := by decide +kernel
theorem dX3_begin_71 : decode cX3_begin 71 = .ok (.iastore, 1) := by decide +kernel
theorem dX3_begin_72 : decode cX3_begin 72 = .ok (.iinc 2 1, 3) := by decide +kernel
theorem dX3_begin_75 : decode cX3_begin 75 = .ok (.goto (-23), 3) := by decide +kernel
theorem dX3_begin_78 : decode cX3_begin 78 = .ok (.return_, 1) := by decide +kernel
theorem dX3_copyFrom_0 : decode cX3_copyFrom 0 = .ok (.aload_n 0, 1) := by decide +kernel
theorem dX3_copyFrom_1 : decode cX3_copyFrom 1 = .ok (.aload_n 1, 1) := by decide +kernel
theorem dX3_copyFrom_2 : decode cX3_copyFrom 2 = .ok (.getfield 18, 3) := by decide +kernel
theorem dX3_copyFrom_5 : decode cX3_copyFrom 5 = .ok (.putfield 18, 3) := by decide +kernel
theorem dX3_copyFrom_8 : decode cX3_copyFrom 8 = .ok (.aload_n 0, 1) := by decide +kernel
theorem dX3_copyFrom_9 : decode cX3_copyFrom 9 = .ok (.aload_n 1, 1) := by decide +kernel
theorem dX3_copyFrom_10 : decode cX3_copyFrom 10 = .ok (.getfield 22, 3) := by decide +kernel
theorem dX3_copyFrom_13 : decode cX3_copyFrom 13 = .ok (.putfield 22, 3) := by decide +kernel
theorem dX3_copyFrom_16 : decode cX3_copyFrom 16 = .ok (.aload_n 0, 1) := by decide +kernel
theorem dX3_copyFrom_17 : decode cX3_copyFrom 17 = .ok (.aload_n 1, 1) := by decide +kernel
theorem dX3_copyFrom_18 : decode cX3_copyFrom 18 = .ok (.getfield 25, 3) := by decide +kernel
theorem dX3_copyFrom_21 : decode cX3_copyFrom 21 = .ok (.putfield 25, 3) := by decide +kernel
theorem dX3_copyFrom_24 : decode cX3_copyFrom 24 = .ok (.aload_n 0, 1) := by decide +kernel
theorem dX3_copyFrom_25 : decode cX3_copyFrom 25 = .ok (.aload_n 1, 1) := by decide +kernel
theorem dX3_copyFrom_26 : decode cX3_copyFrom 26 = .ok (.getfield 28, 3) := by decide +kernel
theorem dX3_copyFrom_29 : decode cX3_copyFrom 29 = .ok (.putfield 28, 3) := by decide +kernel
theorem dX3_copyFrom_32 : decode cX3_copyFrom 32 = .ok (.aload_n 0, 1) := by decide +kernel
theorem dX3_copyFrom_33 : decode cX3_copyFrom 33 = .ok (.aload_n 1, 1) := by decide +kernel
theorem dX3_copyFrom_34 : decode cX3_copyFrom 34 = .ok (.getfield 31, 3) := by decide +kernel
theorem dX3_copyFrom_37 : decode cX3_copyFrom 37 = .ok (.putfield 31, 3) := by decide +kernel
theorem dX3_copyFrom_40 : decode cX3_copyFrom 40 = .ok (.aload_n 0, 1) := by decide +kernel
theorem dX3_copyFrom_41 : decode cX3_copyFrom 41 = .ok (.aload_n 1, 1) := by decide +kernel
theorem dX3_copyFrom_42 : decode cX3_copyFrom 42 = .ok (.getfield 34, 3) := by decide +kernel
theorem dX3_copyFrom_45 : decode cX3_copyFrom 45 = .ok (.putfield 34, 3) := by decide +kernel
theorem dX3_copyFrom_48 : decode cX3_copyFrom 48 = .ok (.aload_n 0, 1) := by decide +kernel
theorem dX3_copyFrom_49 : decode cX3_copyFrom 49 = .ok (.aload_n 1, 1) := by decide +kernel
theorem dX3_copyFrom_50 : decode cX3_copyFrom 50 = .ok (.getfield 37, 3) := by decide +kernel
theorem dX3_copyFrom_53 : decode cX3_copyFrom 53 = .ok (.putfield 37, 3) := by decide +kernel
theorem dX3_copyFrom_56 : decode cX3_copyFrom 56 = .ok (.aload_n 0, 1) := by decide +kernel
theorem dX3_copyFrom_57 : decode cX3_copyFrom 57 = .ok (.aload_n 1, 1) := by decide +kernel
theorem dX3_copyFrom_58 : decode cX3_copyFrom 58 = .ok (.getfield 40, 3) := by decide +kernel
theorem dX3_copyFrom_61 : decode cX3_copyFrom 61 = .ok (.putfield 40, 3) := by decide +kernel
theorem dX3_copyFrom_64 : decode cX3_copyFrom 64 = .ok (.aload_n 0, 1) := by decide +kernel
theorem dX3_copyFrom_65 : decode cX3_copyFrom 65 = .ok (.aload_n 1, 1) := by decide +kernel
theorem dX3_copyFrom_66 : decode cX3_copyFrom 66 = .ok (.getfield 43, 3) := by decide +kernel
theorem dX3_copyFrom_69 : decode cX3_copyFrom 69 = .ok (.putfield 43, 3) := by decide +kernel
theorem dX3_copyFrom_72 : decode cX3_copyFrom 72 = .ok (.aload_n 0, 1) := by decide +kernel
theorem dX3_copyFrom_73 : decode cX3_copyFrom 73 = .ok (.aload_n 1, 1) := by decide +kernel
theorem dX3_copyFrom_74 : decode cX3_copyFrom 74 = .ok (.getfield 46, 3) := by decide +kernel
theorem dX3_copyFrom_77 : decode cX3_copyFrom 77 = .ok (.putfield 46, 3) := by decide +kernel
theorem dX3_copyFrom_80 : decode cX3_copyFrom 80 = .ok (.aload_n 1, 1) := by decide +kernel
theorem dX3_copyFrom_81 : decode cX3_copyFrom 81 = .ok (.getfield 9, 3) := by decide +kernel
theorem dX3_copyFrom_84 : decode cX3_copyFrom 84 = .ok (.iconst 0, 1) := by decide +kernel
theorem dX3_copyFrom_85 : decode cX3_copyFrom 85 = .ok (.aload_n 0, 1) := by decide +kernel
theorem dX3_copyFrom_86 : decode cX3_copyFrom 86 = .ok (.getfield 9, 3) := by decide +kernel
theorem dX3_copyFrom_89 : decode cX3_copyFrom 89 = .ok (.iconst 0, 1) := by decide +kernel
theorem dX3_copyFrom_90 : decode cX3_copyFrom 90 = .ok (.bipush 16, 2) := by decide +kernel
theorem dX3_copyFrom_92 : decode cX3_copyFrom 92 = .ok (.invokestatic 49, 3) := by decide +kernel
theorem dX3_copyFrom_95 : decode cX3_copyFrom 95 = .ok (.aload_n 1, 1) := by decide +kernel
theorem dX3_copyFrom_96 : decode cX3_copyFrom 96 = .ok (.getfield 15, 3) := by decide +kernel
theorem dX3_copyFrom_99 : decode cX3_copyFrom 99 = .ok (.iconst 0, 1) := by decide +kernel
theorem dX3_copyFrom_100 : decode cX3_copyFrom 100 = .ok (.aload_n 0, 1) := by decide +kernel
theorem dX3_copyFrom_101 : decode cX3_copyFrom 101 = .ok (.getfield 15, 3) := by decide +kernel
theorem dX3_copyFrom_104 : decode cX3_copyFrom 104 = .ok (.iconst 0, 1) := by decide +kernel
theorem dX3_copyFrom_105 : decode cX3_copyFrom 105 = .ok (.bipush 16, 2) := by decide +kernel
theorem dX3_copyFrom_107 : decode cX3_copyFrom 107 = .ok (.invokestatic 49, 3) := by decide +kernel
theorem dX3_copyFrom_110 : decode cX3_copyFrom 110 = .ok (.return_, 1) := by decide +kernel
theorem dX3_hasScout_0 : decode cX3_hasScout 0 = .ok (.iload_n 1, 1) := by decide +kernel
theorem dX3_hasScout_1 : decode cX3_hasScout 1 = .ok (.ifCond .lt 15, 3) := by decide +kernel
theorem dX3_hasScout_4 : decode cX3_hasScout 4 = .ok (.iload_n 1, 1) := by decide +kernel
theorem dX3_hasScout_5 : decode cX3_hasScout 5 = .ok (.aload_n 0, 1) := by decide +kernel
theorem dX3_hasScout_6 : decode cX3_hasScout 6 = .ok (.getfield 18, 3) := by decide +kernel
theorem dX3_hasScout_9 : decode cX3_hasScout 9 = .ok (.if_icmp .ge 7, 3) := by decide +kernel
theorem dX3_hasScout_12 : decode cX3_hasScout 12 = .ok (.iconst 1, 1) := by decide +kernel
theorem dX3_hasScout_13 : decode cX3_hasScout 13 = .ok (.goto 4, 3) := by decide +kernel
theorem dX3_hasScout_16 : decode cX3_hasScout 16 = .ok (.iconst 0, 1) := by decide +kernel
theorem dX3_hasScout_17 : decode cX3_hasScout 17 = .ok (.ireturn, 1) := by decide +kernel
theorem dX3_knows_0 : decode cX3_knows 0 = .ok (.aload_n 0, 1) := by decide +kernel
theorem dX3_knows_1 : decode cX3_knows 1 = .ok (.iload_n 1, 1) := by decide +kernel
theorem dX3_knows_2 : decode cX3_knows 2 = .ok (.invokevirtual 55, 3) := by decide +kernel
theorem dX3_knows_5 : decode cX3_knows 5 = .ok (.ifCond .ne 24, 3) := by decide +kernel
theorem dX3_knows_8 : decode cX3_knows 8 = .ok (.iload_n 1, 1) := by decide +kernel
theorem dX3_knows_9 : decode cX3_knows 9 = .ok (.ifCond .lt 24, 3) := by decide +kernel
theorem dX3_knows_12 : decode cX3_knows 12 = .ok (.iload_n 1, 1) := by decide +kernel
theorem dX3_knows_13 : decode cX3_knows 13 = .ok (.bipush 16, 2) := by decide +kernel
theorem dX3_knows_15 : decode cX3_knows 15 = .ok (.if_icmp .ge 18, 3) := by decide +kernel
theorem dX3_knows_18 : decode cX3_knows 18 = .ok (.aload_n 0, 1) := by decide +kernel
theorem dX3_knows_19 : decode cX3_knows 19 = .ok (.getfield 34, 3) := by decide +kernel
theorem dX3_knows_22 : decode cX3_knows 22 = .ok (.iload_n 1, 1) := by decide +kernel
theorem dX3_knows_23 : decode cX3_knows 23 = .ok (.invokestatic 59, 3) := by decide +kernel
theorem dX3_knows_26 : decode cX3_knows 26 = .ok (.ifCond .eq 7, 3) := by decide +kernel
theorem dX3_knows_29 : decode cX3_knows 29 = .ok (.iconst 1, 1) := by decide +kernel
theorem dX3_knows_30 : decode cX3_knows 30 = .ok (.goto 4, 3) := by decide +kernel
theorem dX3_knows_33 : decode cX3_knows 33 = .ok (.iconst 0, 1) := by decide +kernel
theorem dX3_knows_34 : decode cX3_knows 34 = .ok (.ireturn, 1) := by decide +kernel
theorem dX3_howIs_0 : decode cX3_howIs 0 = .ok (.aload_n 0, 1) := by decide +kernel
theorem dX3_howIs_1 : decode cX3_howIs 1 = .ok (.getfield 28, 3) := by decide +kernel
theorem dX3_howIs_4 : decode cX3_howIs 4 = .ok (.iload_n 1, 1) := by decide +kernel
theorem dX3_howIs_5 : decode cX3_howIs 5 = .ok (.invokestatic 59, 3) := by decide +kernel
theorem dX3_howIs_8 : decode cX3_howIs 8 = .ok (.ifCond .eq 5, 3) := by decide +kernel
theorem dX3_howIs_11 : decode cX3_howIs 11 = .ok (.iconst 1, 1) := by decide +kernel
theorem dX3_howIs_12 : decode cX3_howIs 12 = .ok (.ireturn, 1) := by decide +kernel
theorem dX3_howIs_13 : decode cX3_howIs 13 = .ok (.aload_n 0, 1) := by decide +kernel
theorem dX3_howIs_14 : decode cX3_howIs 14 = .ok (.getfield 31, 3) := by decide +kernel
theorem dX3_howIs_17 : decode cX3_howIs 17 = .ok (.iload_n 1, 1) := by decide +kernel
theorem dX3_howIs_18 : decode cX3_howIs 18 = .ok (.invokestatic 59, 3) := by decide +kernel
theorem dX3_howIs_21 : decode cX3_howIs 21 = .ok (.ifCond .eq 5, 3) := by decide +kernel
theorem dX3_howIs_24 : decode cX3_howIs 24 = .ok (.iconst 2, 1) := by decide +kernel
theorem dX3_howIs_25 : decode cX3_howIs 25 = .ok (.ireturn, 1) := by decide +kernel
theorem dX3_howIs_26 : decode cX3_howIs 26 = .ok (.aload_n 0, 1) := by decide +kernel
theorem dX3_howIs_27 : decode cX3_howIs 27 = .ok (.getfield 34, 3) := by decide +kernel
theorem dX3_howIs_30 : decode cX3_howIs 30 = .ok (.iload_n 1, 1) := by decide +kernel
theorem dX3_howIs_31 : decode cX3_howIs 31 = .ok (.invokestatic 59, 3) := by decide +kernel
theorem dX3_howIs_34 : decode cX3_howIs 34 = .ok (.ifCond .eq 5, 3) := by decide +kernel
theorem dX3_howIs_37 : decode cX3_howIs 37 = .ok (.iconst 3, 1) := by decide +kernel
theorem dX3_howIs_38 : decode cX3_howIs 38 = .ok (.ireturn, 1) := by decide +kernel
theorem dX3_howIs_39 : decode cX3_howIs 39 = .ok (.aload_n 0, 1) := by decide +kernel
theorem dX3_howIs_40 : decode cX3_howIs 40 = .ok (.getfield 37, 3) := by decide +kernel
theorem dX3_howIs_43 : decode cX3_howIs 43 = .ok (.iload_n 1, 1) := by decide +kernel
theorem dX3_howIs_44 : decode cX3_howIs 44 = .ok (.invokestatic 59, 3) := by decide +kernel
theorem dX3_howIs_47 : decode cX3_howIs 47 = .ok (.ifCond .eq 7, 3) := by decide +kernel
theorem dX3_howIs_50 : decode cX3_howIs 50 = .ok (.iconst 4, 1) := by decide +kernel
theorem dX3_howIs_51 : decode cX3_howIs 51 = .ok (.goto 4, 3) := by decide +kernel
theorem dX3_howIs_54 : decode cX3_howIs 54 = .ok (.iconst 0, 1) := by decide +kernel
theorem dX3_howIs_55 : decode cX3_howIs 55 = .ok (.ireturn, 1) := by decide +kernel
theorem dX3_everyone_0 : decode cX3_everyone 0 = .ok (.iconst 1, 1) := by decide +kernel
theorem dX3_everyone_1 : decode cX3_everyone 1 = .ok (.aload_n 0, 1) := by decide +kernel
theorem dX3_everyone_2 : decode cX3_everyone 2 = .ok (.getfield 18, 3) := by decide +kernel
theorem dX3_everyone_5 : decode cX3_everyone 5 = .ok (.ishl, 1) := by decide +kernel
theorem dX3_everyone_6 : decode cX3_everyone 6 = .ok (.iconst 1, 1) := by decide +kernel
theorem dX3_everyone_7 : decode cX3_everyone 7 = .ok (.isub, 1) := by decide +kernel
theorem dX3_everyone_8 : decode cX3_everyone 8 = .ok (.ireturn, 1) := by decide +kernel
theorem dX3_atHome_0 : decode cX3_atHome 0 = .ok (.aload_n 0, 1) := by decide +kernel
theorem dX3_atHome_1 : decode cX3_atHome 1 = .ok (.invokevirtual 63, 3) := by decide +kernel
theorem dX3_atHome_4 : decode cX3_atHome 4 = .ok (.aload_n 0, 1) := by decide +kernel
theorem dX3_atHome_5 : decode cX3_atHome 5 = .ok (.getfield 28, 3) := by decide +kernel
theorem dX3_atHome_8 : decode cX3_atHome 8 = .ok (.aload_n 0, 1) := by decide +kernel
theorem dX3_atHome_9 : decode cX3_atHome 9 = .ok (.getfield 31, 3) := by decide +kernel
theorem dX3_atHome_12 : decode cX3_atHome 12 = .ok (.ior, 1) := by decide +kernel
theorem dX3_atHome_13 : decode cX3_atHome 13 = .ok (.aload_n 0, 1) := by decide +kernel
theorem dX3_atHome_14 : decode cX3_atHome 14 = .ok (.getfield 34, 3) := by decide +kernel
theorem dX3_atHome_17 : decode cX3_atHome 17 = .ok (.ior, 1) := by decide +kernel
theorem dX3_atHome_18 : decode cX3_atHome 18 = .ok (.aload_n 0, 1) := by decide +kernel
theorem dX3_atHome_19 : decode cX3_atHome 19 = .ok (.getfield 37, 3) := by decide +kernel
theorem dX3_atHome_22 : decode cX3_atHome 22 = .ok (.ior, 1) := by decide +kernel
theorem dX3_atHome_23 : decode cX3_atHome 23 = .ok (.iconst (-1), 1) := by decide +kernel
theorem dX3_atHome_24 : decode cX3_atHome 24 = .ok (.ixor, 1) := by decide +kernel
theorem dX3_atHome_25 : decode cX3_atHome 25 = .ok (.iand, 1) := by decide +kernel
theorem dX3_atHome_26 : decode cX3_atHome 26 = .ok (.ireturn, 1) := by decide +kernel
theorem dX3_waitedFor_0 : decode cX3_waitedFor 0 = .ok (.aload_n 0, 1) := by decide +kernel
theorem dX3_waitedFor_1 : decode cX3_waitedFor 1 = .ok (.invokevirtual 63, 3) := by decide +kernel
theorem dX3_waitedFor_4 : decode cX3_waitedFor 4 = .ok (.aload_n 0, 1) := by decide +kernel
theorem dX3_waitedFor_5 : decode cX3_waitedFor 5 = .ok (.getfield 28, 3) := by decide +kernel
theorem dX3_waitedFor_8 : decode cX3_waitedFor 8 = .ok (.aload_n 0, 1) := by decide +kernel
theorem dX3_waitedFor_9 : decode cX3_waitedFor 9 = .ok (.getfield 40, 3) := by decide +kernel
theorem dX3_waitedFor_12 : decode cX3_waitedFor 12 = .ok (.ior, 1) := by decide +kernel
theorem dX3_waitedFor_13 : decode cX3_waitedFor 13 = .ok (.iconst (-1), 1) := by decide +kernel
theorem dX3_waitedFor_14 : decode cX3_waitedFor 14 = .ok (.ixor, 1) := by decide +kernel
theorem dX3_waitedFor_15 : decode cX3_waitedFor 15 = .ok (.iand, 1) := by decide +kernel
theorem dX3_waitedFor_16 : decode cX3_waitedFor 16 = .ok (.ireturn, 1) := by decide +kernel
theorem dX3_countDown_0 : decode cX3_countDown 0 = .ok (.aload_n 0, 1) := by decide +kernel
theorem dX3_countDown_1 : decode cX3_countDown 1 = .ok (.invokevirtual 67, 3) := by decide +kernel
theorem dX3_countDown_4 : decode cX3_countDown 4 = .ok (.invokestatic 70, 3) := by decide +kernel
theorem dX3_countDown_7 : decode cX3_countDown 7 = .ok (.ireturn, 1) := by decide +kernel
theorem dX3_takeIn_0 : decode cX3_takeIn 0 = .ok (.aload_n 0, 1) := by decide +kernel
theorem dX3_takeIn_1 : decode cX3_takeIn 1 = .ok (.iload_n 1, 1) := by decide +kernel
theorem dX3_takeIn_2 : decode cX3_takeIn 2 = .ok (.invokevirtual 76, 3) := by decide +kernel
theorem dX3_takeIn_5 : decode cX3_takeIn 5 = .ok (.iload_n 2, 1) := by decide +kernel
theorem dX3_takeIn_6 : decode cX3_takeIn 6 = .ok (.aload_n 0, 1) := by decide +kernel
theorem dX3_takeIn_7 : decode cX3_takeIn 7 = .ok (.getfield 25, 3) := by decide +kernel
theorem dX3_takeIn_10 : decode cX3_takeIn 10 = .ok (.if_icmp .ne 18, 3) := by decide +kernel
theorem dX3_takeIn_13 : decode cX3_takeIn 13 = .ok (.aload_n 0, 1) := by decide +kernel
theorem dX3_takeIn_14 : decode cX3_takeIn 14 = .ok (.dup, 1) := by decide +kernel
theorem dX3_takeIn_15 : decode cX3_takeIn 15 = .ok (.getfield 28, 3) := by decide +kernel
theorem dX3_takeIn_18 : decode cX3_takeIn 18 = .ok (.iconst 1, 1) := by decide +kernel
theorem dX3_takeIn_19 : decode cX3_takeIn 19 = .ok (.iload_n 1, 1) := by decide +kernel
theorem dX3_takeIn_20 : decode cX3_takeIn 20 = .ok (.ishl, 1) := by decide +kernel
theorem dX3_takeIn_21 : decode cX3_takeIn 21 = .ok (.ior, 1) := by decide +kernel
theorem dX3_takeIn_22 : decode cX3_takeIn 22 = .ok (.putfield 28, 3) := by decide +kernel
theorem dX3_takeIn_25 : decode cX3_takeIn 25 = .ok (.goto 15, 3) := by decide +kernel
theorem dX3_takeIn_28 : decode cX3_takeIn 28 = .ok (.aload_n 0, 1) := by decide +kernel
theorem dX3_takeIn_29 : decode cX3_takeIn 29 = .ok (.dup, 1) := by decide +kernel
theorem dX3_takeIn_30 : decode cX3_takeIn 30 = .ok (.getfield 31, 3) := by decide +kernel
theorem dX3_takeIn_33 : decode cX3_takeIn 33 = .ok (.iconst 1, 1) := by decide +kernel
theorem dX3_takeIn_34 : decode cX3_takeIn 34 = .ok (.iload_n 1, 1) := by decide +kernel
theorem dX3_takeIn_35 : decode cX3_takeIn 35 = .ok (.ishl, 1) := by decide +kernel
theorem dX3_takeIn_36 : decode cX3_takeIn 36 = .ok (.ior, 1) := by decide +kernel
theorem dX3_takeIn_37 : decode cX3_takeIn 37 = .ok (.putfield 31, 3) := by decide +kernel
theorem dX3_takeIn_40 : decode cX3_takeIn 40 = .ok (.aload_n 0, 1) := by decide +kernel
theorem dX3_takeIn_41 : decode cX3_takeIn 41 = .ok (.iload_n 3, 1) := by decide +kernel
theorem dX3_takeIn_42 : decode cX3_takeIn 42 = .ok (.invokevirtual 80, 3) := by decide +kernel
theorem dX3_takeIn_45 : decode cX3_takeIn 45 = .ok (.ireturn, 1) := by decide +kernel
theorem dX3_bringHome_0 : decode cX3_bringHome 0 = .ok (.aload_n 0, 1) := by decide +kernel
theorem dX3_bringHome_1 : decode cX3_bringHome 1 = .ok (.dup, 1) := by decide +kernel
theorem dX3_bringHome_2 : decode cX3_bringHome 2 = .ok (.getfield 28, 3) := by decide +kernel
theorem dX3_bringHome_5 : decode cX3_bringHome 5 = .ok (.iconst 1, 1) := by decide +kernel
theorem dX3_bringHome_6 : decode cX3_bringHome 6 = .ok (.iload_n 1, 1) := by decide +kernel
theorem dX3_bringHome_7 : decode cX3_bringHome 7 = .ok (.ishl, 1) := by decide +kernel
theorem dX3_bringHome_8 : decode cX3_bringHome 8 = .ok (.iconst (-1), 1) := by decide +kernel
theorem dX3_bringHome_9 : decode cX3_bringHome 9 = .ok (.ixor, 1) := by decide +kernel
theorem dX3_bringHome_10 : decode cX3_bringHome 10 = .ok (.iand, 1) := by decide +kernel
theorem dX3_bringHome_11 : decode cX3_bringHome 11 = .ok (.putfield 28, 3) := by decide +kernel
theorem dX3_bringHome_14 : decode cX3_bringHome 14 = .ok (.aload_n 0, 1) := by decide +kernel
theorem dX3_bringHome_15 : decode cX3_bringHome 15 = .ok (.dup, 1) := by decide +kernel
theorem dX3_bringHome_16 : decode cX3_bringHome 16 = .ok (.getfield 31, 3) := by decide +kernel
theorem dX3_bringHome_19 : decode cX3_bringHome 19 = .ok (.iconst 1, 1) := by decide +kernel
theorem dX3_bringHome_20 : decode cX3_bringHome 20 = .ok (.iload_n 1, 1) := by decide +kernel
theorem dX3_bringHome_21 : decode cX3_bringHome 21 = .ok (.ishl, 1) := by decide +kernel
theorem dX3_bringHome_22 : decode cX3_bringHome 22 = .ok (.iconst (-1), 1) := by decide +kernel
theorem dX3_bringHome_23 : decode cX3_bringHome 23 = .ok (.ixor, 1) := by decide +kernel
theorem dX3_bringHome_24 : decode cX3_bringHome 24 = .ok (.iand, 1) := by decide +kernel
theorem dX3_bringHome_25 : decode cX3_bringHome 25 = .ok (.putfield 31, 3) := by decide +kernel
theorem dX3_bringHome_28 : decode cX3_bringHome 28 = .ok (.aload_n 0, 1) := by decide +kernel
theorem dX3_bringHome_29 : decode cX3_bringHome 29 = .ok (.dup, 1) := by decide +kernel
theorem dX3_bringHome_30 : decode cX3_bringHome 30 = .ok (.getfield 34, 3) := by decide +kernel
theorem dX3_bringHome_33 : decode cX3_bringHome 33 = .ok (.iconst 1, 1) := by decide +kernel
theorem dX3_bringHome_34 : decode cX3_bringHome 34 = .ok (.iload_n 1, 1) := by decide +kernel
theorem dX3_bringHome_35 : decode cX3_bringHome 35 = .ok (.ishl, 1) := by decide +kernel
theorem dX3_bringHome_36 : decode cX3_bringHome 36 = .ok (.iconst (-1), 1) := by decide +kernel
theorem dX3_bringHome_37 : decode cX3_bringHome 37 = .ok (.ixor, 1) := by decide +kernel
theorem dX3_bringHome_38 : decode cX3_bringHome 38 = .ok (.iand, 1) := by decide +kernel
theorem dX3_bringHome_39 : decode cX3_bringHome 39 = .ok (.putfield 34, 3) := by decide +kernel
theorem dX3_bringHome_42 : decode cX3_bringHome 42 = .ok (.aload_n 0, 1) := by decide +kernel
theorem dX3_bringHome_43 : decode cX3_bringHome 43 = .ok (.dup, 1) := by decide +kernel
theorem dX3_bringHome_44 : decode cX3_bringHome 44 = .ok (.getfield 37, 3) := by decide +kernel
theorem dX3_bringHome_47 : decode cX3_bringHome 47 = .ok (.iconst 1, 1) := by decide +kernel
theorem dX3_bringHome_48 : decode cX3_bringHome 48 = .ok (.iload_n 1, 1) := by decide +kernel
theorem dX3_bringHome_49 : decode cX3_bringHome 49 = .ok (.ishl, 1) := by decide +kernel
theorem dX3_bringHome_50 : decode cX3_bringHome 50 = .ok (.iconst (-1), 1) := by decide +kernel
theorem dX3_bringHome_51 : decode cX3_bringHome 51 = .ok (.ixor, 1) := by decide +kernel
theorem dX3_bringHome_52 : decode cX3_bringHome 52 = .ok (.iand, 1) := by decide +kernel
theorem dX3_bringHome_53 : decode cX3_bringHome 53 = .ok (.putfield 37, 3) := by decide +kernel
theorem dX3_bringHome_56 : decode cX3_bringHome 56 = .ok (.aload_n 0, 1) := by decide +kernel
theorem dX3_bringHome_57 : decode cX3_bringHome 57 = .ok (.getfield 9, 3) := by decide +kernel
theorem dX3_bringHome_60 : decode cX3_bringHome 60 = .ok (.iload_n 1, 1) := by decide +kernel
theorem dX3_bringHome_61 : decode cX3_bringHome 61 = .ok (.iconst 0, 1) := by decide +kernel
theorem dX3_bringHome_62 : decode cX3_bringHome 62 = .ok (.iastore, 1) := by decide +kernel
theorem dX3_bringHome_63 : decode cX3_bringHome 63 = .ok (.return_, 1) := by decide +kernel
theorem dX3_missScout_0 : decode cX3_missScout 0 = .ok (.aload_n 0, 1) := by decide +kernel
theorem dX3_missScout_1 : decode cX3_missScout 1 = .ok (.iload_n 1, 1) := by decide +kernel
theorem dX3_missScout_2 : decode cX3_missScout 2 = .ok (.invokevirtual 76, 3) := by decide +kernel
theorem dX3_missScout_5 : decode cX3_missScout 5 = .ok (.aload_n 0, 1) := by decide +kernel
theorem dX3_missScout_6 : decode cX3_missScout 6 = .ok (.dup, 1) := by decide +kernel
theorem dX3_missScout_7 : decode cX3_missScout 7 = .ok (.getfield 37, 3) := by decide +kernel
theorem dX3_missScout_10 : decode cX3_missScout 10 = .ok (.iconst 1, 1) := by decide +kernel
theorem dX3_missScout_11 : decode cX3_missScout 11 = .ok (.iload_n 1, 1) := by decide +kernel
theorem dX3_missScout_12 : decode cX3_missScout 12 = .ok (.ishl, 1) := by decide +kernel
theorem dX3_missScout_13 : decode cX3_missScout 13 = .ok (.ior, 1) := by decide +kernel
theorem dX3_missScout_14 : decode cX3_missScout 14 = .ok (.putfield 37, 3) := by decide +kernel
theorem dX3_missScout_17 : decode cX3_missScout 17 = .ok (.return_, 1) := by decide +kernel
theorem dX3_passMinute_0 : decode cX3_passMinute 0 = .ok (.aload_n 0, 1) := by decide +kernel
theorem dX3_passMinute_1 : decode cX3_passMinute 1 = .ok (.getfield 34, 3) := by decide +kernel
theorem dX3_passMinute_4 : decode cX3_passMinute 4 = .ok (.aload_n 0, 1) := by decide +kernel
theorem dX3_passMinute_5 : decode cX3_passMinute 5 = .ok (.getfield 37, 3) := by decide +kernel
theorem dX3_passMinute_8 : decode cX3_passMinute 8 = .ok (.ior, 1) := by decide +kernel
theorem dX3_passMinute_9 : decode cX3_passMinute 9 = .ok (.ifCond .eq 79, 3) := by decide +kernel
theorem dX3_passMinute_12 : decode cX3_passMinute 12 = .ok (.iconst 0, 1) := by decide +kernel
theorem dX3_passMinute_13 : decode cX3_passMinute 13 = .ok (.istore_n 3, 1) := by decide +kernel
theorem dX3_passMinute_14 : decode cX3_passMinute 14 = .ok (.iload_n 3, 1) := by decide +kernel
theorem dX3_passMinute_15 : decode cX3_passMinute 15 = .ok (.bipush 16, 2) := by decide +kernel
theorem dX3_passMinute_17 : decode cX3_passMinute 17 = .ok (.if_icmp .ge 71, 3) := by decide +kernel
theorem dX3_passMinute_20 : decode cX3_passMinute 20 = .ok (.aload_n 0, 1) := by decide +kernel
theorem dX3_passMinute_21 : decode cX3_passMinute 21 = .ok (.getfield 34, 3) := by decide +kernel
theorem dX3_passMinute_24 : decode cX3_passMinute 24 = .ok (.iload_n 3, 1) := by decide +kernel
theorem dX3_passMinute_25 : decode cX3_passMinute 25 = .ok (.invokestatic 59, 3) := by decide +kernel
theorem dX3_passMinute_28 : decode cX3_passMinute 28 = .ok (.ifCond .eq 11, 3) := by decide +kernel
theorem dX3_passMinute_31 : decode cX3_passMinute 31 = .ok (.aload_n 0, 1) := by decide +kernel
theorem dX3_passMinute_32 : decode cX3_passMinute 32 = .ok (.iload_n 3, 1) := by decide +kernel
theorem dX3_passMinute_33 : decode cX3_passMinute 33 = .ok (.invokevirtual 83, 3) := by decide +kernel
theorem dX3_passMinute_36 : decode cX3_passMinute 36 = .ok (.goto 46, 3) := by decide +kernel
theorem dX3_passMinute_39 : decode cX3_passMinute 39 = .ok (.aload_n 0, 1) := by decide +kernel
theorem dX3_passMinute_40 : decode cX3_passMinute 40 = .ok (.getfield 37, 3) := by decide +kernel
theorem dX3_passMinute_43 : decode cX3_passMinute 43 = .ok (.iload_n 3, 1) := by decide +kernel
theorem dX3_passMinute_44 : decode cX3_passMinute 44 = .ok (.invokestatic 59, 3) := by decide +kernel
theorem dX3_passMinute_47 : decode cX3_passMinute 47 = .ok (.ifCond .eq 35, 3) := by decide +kernel
theorem dX3_passMinute_50 : decode cX3_passMinute 50 = .ok (.aload_n 0, 1) := by decide +kernel
theorem dX3_passMinute_51 : decode cX3_passMinute 51 = .ok (.getfield 9, 3) := by decide +kernel
theorem dX3_passMinute_54 : decode cX3_passMinute 54 = .ok (.iload_n 3, 1) := by decide +kernel
theorem dX3_passMinute_55 : decode cX3_passMinute 55 = .ok (.dup2, 1) := by decide +kernel
theorem dX3_passMinute_56 : decode cX3_passMinute 56 = .ok (.iaload, 1) := by decide +kernel
theorem dX3_passMinute_57 : decode cX3_passMinute 57 = .ok (.iconst 1, 1) := by decide +kernel
theorem dX3_passMinute_58 : decode cX3_passMinute 58 = .ok (.iadd, 1) := by decide +kernel
theorem dX3_passMinute_59 : decode cX3_passMinute 59 = .ok (.iastore, 1) := by decide +kernel
theorem dX3_passMinute_60 : decode cX3_passMinute 60 = .ok (.aload_n 0, 1) := by decide +kernel
theorem dX3_passMinute_61 : decode cX3_passMinute 61 = .ok (.getfield 9, 3) := by decide +kernel
theorem dX3_passMinute_64 : decode cX3_passMinute 64 = .ok (.iload_n 3, 1) := by decide +kernel
theorem dX3_passMinute_65 : decode cX3_passMinute 65 = .ok (.iaload, 1) := by decide +kernel
theorem dX3_passMinute_66 : decode cX3_passMinute 66 = .ok (.iload_n 1, 1) := by decide +kernel
theorem dX3_passMinute_67 : decode cX3_passMinute 67 = .ok (.if_icmp .le 15, 3) := by decide +kernel
theorem dX3_passMinute_70 : decode cX3_passMinute 70 = .ok (.aload_n 0, 1) := by decide +kernel
theorem dX3_passMinute_71 : decode cX3_passMinute 71 = .ok (.dup, 1) := by decide +kernel
theorem dX3_passMinute_72 : decode cX3_passMinute 72 = .ok (.getfield 40, 3) := by decide +kernel
theorem dX3_passMinute_75 : decode cX3_passMinute 75 = .ok (.iconst 1, 1) := by decide +kernel
theorem dX3_passMinute_76 : decode cX3_passMinute 76 = .ok (.iload_n 3, 1) := by decide +kernel
theorem dX3_passMinute_77 : decode cX3_passMinute 77 = .ok (.ishl, 1) := by decide +kernel
theorem dX3_passMinute_78 : decode cX3_passMinute 78 = .ok (.ior, 1) := by decide +kernel
theorem dX3_passMinute_79 : decode cX3_passMinute 79 = .ok (.putfield 40, 3) := by decide +kernel
theorem dX3_passMinute_82 : decode cX3_passMinute 82 = .ok (.iinc 3 1, 3) := by decide +kernel
theorem dX3_passMinute_85 : decode cX3_passMinute 85 = .ok (.goto (-71), 3) := by decide +kernel
theorem dX3_passMinute_88 : decode cX3_passMinute 88 = .ok (.aload_n 0, 1) := by decide +kernel
theorem dX3_passMinute_89 : decode cX3_passMinute 89 = .ok (.iload_n 2, 1) := by decide +kernel
theorem dX3_passMinute_90 : decode cX3_passMinute 90 = .ok (.invokevirtual 80, 3) := by decide +kernel
theorem dX3_passMinute_93 : decode cX3_passMinute 93 = .ok (.ireturn, 1) := by decide +kernel
theorem dX3_walkOn_0 : decode cX3_walkOn 0 = .ok (.aload_n 0, 1) := by decide +kernel
theorem dX3_walkOn_1 : decode cX3_walkOn 1 = .ok (.getfield 9, 3) := by decide +kernel
theorem dX3_walkOn_4 : decode cX3_walkOn 4 = .ok (.iload_n 1, 1) := by decide +kernel
theorem dX3_walkOn_5 : decode cX3_walkOn 5 = .ok (.dup2, 1) := by decide +kernel
theorem dX3_walkOn_6 : decode cX3_walkOn 6 = .ok (.iaload, 1) := by decide +kernel
theorem dX3_walkOn_7 : decode cX3_walkOn 7 = .ok (.iconst 1, 1) := by decide +kernel
theorem dX3_walkOn_8 : decode cX3_walkOn 8 = .ok (.isub, 1) := by decide +kernel
theorem dX3_walkOn_9 : decode cX3_walkOn 9 = .ok (.iastore, 1) := by decide +kernel
theorem dX3_walkOn_10 : decode cX3_walkOn 10 = .ok (.aload_n 0, 1) := by decide +kernel
theorem dX3_walkOn_11 : decode cX3_walkOn 11 = .ok (.getfield 9, 3) := by decide +kernel
theorem dX3_walkOn_14 : decode cX3_walkOn 14 = .ok (.iload_n 1, 1) := by decide +kernel
theorem dX3_walkOn_15 : decode cX3_walkOn 15 = .ok (.iaload, 1) := by decide +kernel
theorem dX3_walkOn_16 : decode cX3_walkOn 16 = .ok (.ifCond .gt 23, 3) := by decide +kernel
theorem dX3_walkOn_19 : decode cX3_walkOn 19 = .ok (.aload_n 0, 1) := by decide +kernel
theorem dX3_walkOn_20 : decode cX3_walkOn 20 = .ok (.iload_n 1, 1) := by decide +kernel
theorem dX3_walkOn_21 : decode cX3_walkOn 21 = .ok (.invokevirtual 76, 3) := by decide +kernel
theorem dX3_walkOn_24 : decode cX3_walkOn 24 = .ok (.aload_n 0, 1) := by decide +kernel
theorem dX3_walkOn_25 : decode cX3_walkOn 25 = .ok (.iload_n 1, 1) := by decide +kernel
theorem dX3_walkOn_26 : decode cX3_walkOn 26 = .ok (.invokevirtual 55, 3) := by decide +kernel
theorem dX3_walkOn_29 : decode cX3_walkOn 29 = .ok (.ifCond .ne 10, 3) := by decide +kernel
theorem dX3_walkOn_32 : decode cX3_walkOn 32 = .ok (.aload_n 0, 1) := by decide +kernel
theorem dX3_walkOn_33 : decode cX3_walkOn 33 = .ok (.getfield 15, 3) := by decide +kernel
theorem dX3_walkOn_36 : decode cX3_walkOn 36 = .ok (.iload_n 1, 1) := by decide +kernel
theorem dX3_walkOn_37 : decode cX3_walkOn 37 = .ok (.iconst 0, 1) := by decide +kernel
theorem dX3_walkOn_38 : decode cX3_walkOn 38 = .ok (.iastore, 1) := by decide +kernel
theorem dX3_walkOn_39 : decode cX3_walkOn 39 = .ok (.return_, 1) := by decide +kernel
theorem dX3_openGate_0 : decode cX3_openGate 0 = .ok (.iconst 0, 1) := by decide +kernel
theorem dX3_openGate_1 : decode cX3_openGate 1 = .ok (.istore_n 2, 1) := by decide +kernel
theorem dX3_openGate_2 : decode cX3_openGate 2 = .ok (.iload_n 2, 1) := by decide +kernel
theorem dX3_openGate_3 : decode cX3_openGate 3 = .ok (.iconst 3, 1) := by decide +kernel
theorem dX3_openGate_4 : decode cX3_openGate 4 = .ok (.if_icmp .ge 28, 3) := by decide +kernel
theorem dX3_openGate_7 : decode cX3_openGate 7 = .ok (.aload_n 0, 1) := by decide +kernel
theorem dX3_openGate_8 : decode cX3_openGate 8 = .ok (.getfield 28, 3) := by decide +kernel
theorem dX3_openGate_11 : decode cX3_openGate 11 = .ok (.ifCond .eq 21, 3) := by decide +kernel
theorem dX3_openGate_14 : decode cX3_openGate 14 = .ok (.aload_n 0, 1) := by decide +kernel
theorem dX3_openGate_15 : decode cX3_openGate 15 = .ok (.invokevirtual 67, 3) := by decide +kernel
theorem dX3_openGate_18 : decode cX3_openGate 18 = .ok (.ifCond .ne 14, 3) := by decide +kernel
theorem dX3_openGate_21 : decode cX3_openGate 21 = .ok (.aload_n 0, 1) := by decide +kernel
theorem dX3_openGate_22 : decode cX3_openGate 22 = .ok (.iload_n 1, 1) := by decide +kernel
theorem dX3_openGate_23 : decode cX3_openGate 23 = .ok (.invokevirtual 86, 3) := by decide +kernel
theorem dX3_openGate_26 : decode cX3_openGate 26 = .ok (.iinc 2 1, 3) := by decide +kernel
theorem dX3_openGate_29 : decode cX3_openGate 29 = .ok (.goto (-27), 3) := by decide +kernel
theorem dX3_openGate_32 : decode cX3_openGate 32 = .ok (.iload_n 2, 1) := by decide +kernel
theorem dX3_openGate_33 : decode cX3_openGate 33 = .ok (.ireturn, 1) := by decide +kernel
theorem dX3_beginHike_0 : decode cX3_beginHike 0 = .ok (.iconst 0, 1) := by decide +kernel
theorem dX3_beginHike_1 : decode cX3_beginHike 1 = .ok (.istore_n 2, 1) := by decide +kernel
theorem dX3_beginHike_2 : decode cX3_beginHike 2 = .ok (.iload_n 2, 1) := by decide +kernel
theorem dX3_beginHike_3 : decode cX3_beginHike 3 = .ok (.bipush 16, 2) := by decide +kernel
theorem dX3_beginHike_5 : decode cX3_beginHike 5 = .ok (.if_icmp .ge 37, 3) := by decide +kernel
theorem dX3_beginHike_8 : decode cX3_beginHike 8 = .ok (.aload_n 0, 1) := by decide +kernel
theorem dX3_beginHike_9 : decode cX3_beginHike 9 = .ok (.getfield 28, 3) := by decide +kernel
theorem dX3_beginHike_12 : decode cX3_beginHike 12 = .ok (.iload_n 2, 1) := by decide +kernel
theorem dX3_beginHike_13 : decode cX3_beginHike 13 = .ok (.invokestatic 59, 3) := by decide +kernel
theorem dX3_beginHike_16 : decode cX3_beginHike 16 = .ok (.ifCond .eq 20, 3) := by decide +kernel
theorem dX3_beginHike_19 : decode cX3_beginHike 19 = .ok (.aload_n 0, 1) := by decide +kernel
theorem dX3_beginHike_20 : decode cX3_beginHike 20 = .ok (.getfield 9, 3) := by decide +kernel
theorem dX3_beginHike_23 : decode cX3_beginHike 23 = .ok (.iload_n 2, 1) := by decide +kernel
theorem dX3_beginHike_24 : decode cX3_beginHike 24 = .ok (.iload_n 1, 1) := by decide +kernel
theorem dX3_beginHike_25 : decode cX3_beginHike 25 = .ok (.iastore, 1) := by decide +kernel
theorem dX3_beginHike_26 : decode cX3_beginHike 26 = .ok (.aload_n 0, 1) := by decide +kernel
theorem dX3_beginHike_27 : decode cX3_beginHike 27 = .ok (.getfield 15, 3) := by decide +kernel
theorem dX3_beginHike_30 : decode cX3_beginHike 30 = .ok (.iload_n 2, 1) := by decide +kernel
theorem dX3_beginHike_31 : decode cX3_beginHike 31 = .ok (.dup2, 1) := by decide +kernel
theorem dX3_beginHike_32 : decode cX3_beginHike 32 = .ok (.iaload, 1) := by decide +kernel
theorem dX3_beginHike_33 : decode cX3_beginHike 33 = .ok (.iconst 1, 1) := by decide +kernel
theorem dX3_beginHike_34 : decode cX3_beginHike 34 = .ok (.iadd, 1) := by decide +kernel
theorem dX3_beginHike_35 : decode cX3_beginHike 35 = .ok (.iastore, 1) := by decide +kernel
theorem dX3_beginHike_36 : decode cX3_beginHike 36 = .ok (.iinc 2 1, 3) := by decide +kernel
theorem dX3_beginHike_39 : decode cX3_beginHike 39 = .ok (.goto (-37), 3) := by decide +kernel
theorem dX3_beginHike_42 : decode cX3_beginHike 42 = .ok (.aload_n 0, 1) := by decide +kernel
theorem dX3_beginHike_43 : decode cX3_beginHike 43 = .ok (.dup, 1) := by decide +kernel
theorem dX3_beginHike_44 : decode cX3_beginHike 44 = .ok (.getfield 43, 3) := by decide +kernel
theorem dX3_beginHike_47 : decode cX3_beginHike 47 = .ok (.iconst 1, 1) := by decide +kernel
theorem dX3_beginHike_48 : decode cX3_beginHike 48 = .ok (.iadd, 1) := by decide +kernel
theorem dX3_beginHike_49 : decode cX3_beginHike 49 = .ok (.putfield 43, 3) := by decide +kernel
theorem dX3_beginHike_52 : decode cX3_beginHike 52 = .ok (.aload_n 0, 1) := by decide +kernel
theorem dX3_beginHike_53 : decode cX3_beginHike 53 = .ok (.dup, 1) := by decide +kernel
theorem dX3_beginHike_54 : decode cX3_beginHike 54 = .ok (.getfield 46, 3) := by decide +kernel
theorem dX3_beginHike_57 : decode cX3_beginHike 57 = .ok (.aload_n 0, 1) := by decide +kernel
theorem dX3_beginHike_58 : decode cX3_beginHike 58 = .ok (.getfield 28, 3) := by decide +kernel
theorem dX3_beginHike_61 : decode cX3_beginHike 61 = .ok (.invokestatic 70, 3) := by decide +kernel
theorem dX3_beginHike_64 : decode cX3_beginHike 64 = .ok (.iadd, 1) := by decide +kernel
theorem dX3_beginHike_65 : decode cX3_beginHike 65 = .ok (.putfield 46, 3) := by decide +kernel
theorem dX3_beginHike_68 : decode cX3_beginHike 68 = .ok (.aload_n 0, 1) := by decide +kernel
theorem dX3_beginHike_69 : decode cX3_beginHike 69 = .ok (.dup, 1) := by decide +kernel
theorem dX3_beginHike_70 : decode cX3_beginHike 70 = .ok (.getfield 34, 3) := by decide +kernel
theorem dX3_beginHike_73 : decode cX3_beginHike 73 = .ok (.aload_n 0, 1) := by decide +kernel
theorem dX3_beginHike_74 : decode cX3_beginHike 74 = .ok (.getfield 28, 3) := by decide +kernel
theorem dX3_beginHike_77 : decode cX3_beginHike 77 = .ok (.ior, 1) := by decide +kernel
theorem dX3_beginHike_78 : decode cX3_beginHike 78 = .ok (.putfield 34, 3) := by decide +kernel
theorem dX3_beginHike_81 : decode cX3_beginHike 81 = .ok (.aload_n 0, 1) := by decide +kernel
theorem dX3_beginHike_82 : decode cX3_beginHike 82 = .ok (.iconst 1, 1) := by decide +kernel
theorem dX3_beginHike_83 : decode cX3_beginHike 83 = .ok (.aload_n 0, 1) := by decide +kernel
theorem dX3_beginHike_84 : decode cX3_beginHike 84 = .ok (.getfield 25, 3) := by decide +kernel
theorem dX3_beginHike_87 : decode cX3_beginHike 87 = .ok (.isub, 1) := by decide +kernel
theorem dX3_beginHike_88 : decode cX3_beginHike 88 = .ok (.putfield 25, 3) := by decide +kernel
theorem dX3_beginHike_91 : decode cX3_beginHike 91 = .ok (.aload_n 0, 1) := by decide +kernel
theorem dX3_beginHike_92 : decode cX3_beginHike 92 = .ok (.aload_n 0, 1) := by decide +kernel
theorem dX3_beginHike_93 : decode cX3_beginHike 93 = .ok (.getfield 22, 3) := by decide +kernel
theorem dX3_beginHike_96 : decode cX3_beginHike 96 = .ok (.putfield 18, 3) := by decide +kernel
theorem dX3_beginHike_99 : decode cX3_beginHike 99 = .ok (.aload_n 0, 1) := by decide +kernel
theorem dX3_beginHike_100 : decode cX3_beginHike 100 = .ok (.dup, 1) := by decide +kernel
theorem dX3_beginHike_101 : decode cX3_beginHike 101 = .ok (.getfield 37, 3) := by decide +kernel
theorem dX3_beginHike_104 : decode cX3_beginHike 104 = .ok (.aload_n 0, 1) := by decide +kernel
theorem dX3_beginHike_105 : decode cX3_beginHike 105 = .ok (.invokevirtual 63, 3) := by decide +kernel
theorem dX3_beginHike_108 : decode cX3_beginHike 108 = .ok (.iand, 1) := by decide +kernel
theorem dX3_beginHike_109 : decode cX3_beginHike 109 = .ok (.putfield 37, 3) := by decide +kernel
theorem dX3_beginHike_112 : decode cX3_beginHike 112 = .ok (.aload_n 0, 1) := by decide +kernel
theorem dX3_beginHike_113 : decode cX3_beginHike 113 = .ok (.iconst 0, 1) := by decide +kernel
theorem dX3_beginHike_114 : decode cX3_beginHike 114 = .ok (.putfield 40, 3) := by decide +kernel
theorem dX3_beginHike_117 : decode cX3_beginHike 117 = .ok (.aload_n 0, 1) := by decide +kernel
theorem dX3_beginHike_118 : decode cX3_beginHike 118 = .ok (.aload_n 0, 1) := by decide +kernel
theorem dX3_beginHike_119 : decode cX3_beginHike 119 = .ok (.getfield 31, 3) := by decide +kernel
theorem dX3_beginHike_122 : decode cX3_beginHike 122 = .ok (.aload_n 0, 1) := by decide +kernel
theorem dX3_beginHike_123 : decode cX3_beginHike 123 = .ok (.invokevirtual 63, 3) := by decide +kernel
theorem dX3_beginHike_126 : decode cX3_beginHike 126 = .ok (.iand, 1) := by decide +kernel
theorem dX3_beginHike_127 : decode cX3_beginHike 127 = .ok (.putfield 28, 3) := by decide +kernel
theorem dX3_beginHike_130 : decode cX3_beginHike 130 = .ok (.aload_n 0, 1) := by decide +kernel
theorem dX3_beginHike_131 : decode cX3_beginHike 131 = .ok (.iconst 0, 1) := by decide +kernel
theorem dX3_beginHike_132 : decode cX3_beginHike 132 = .ok (.putfield 31, 3) := by decide +kernel
theorem dX3_beginHike_135 : decode cX3_beginHike 135 = .ok (.aload_n 0, 1) := by decide +kernel
theorem dX3_beginHike_136 : decode cX3_beginHike 136 = .ok (.getfield 18, 3) := by decide +kernel
theorem dX3_beginHike_139 : decode cX3_beginHike 139 = .ok (.istore_n 2, 1) := by decide +kernel
theorem dX3_beginHike_140 : decode cX3_beginHike 140 = .ok (.iload_n 2, 1) := by decide +kernel
theorem dX3_beginHike_141 : decode cX3_beginHike 141 = .ok (.bipush 16, 2) := by decide +kernel
theorem dX3_beginHike_143 : decode cX3_beginHike 143 = .ok (.if_icmp .ge 34, 3) := by decide +kernel
theorem dX3_beginHike_146 : decode cX3_beginHike 146 = .ok (.aload_n 0, 1) := by decide +kernel
theorem dX3_beginHike_147 : decode cX3_beginHike 147 = .ok (.getfield 34, 3) := by decide +kernel
theorem dX3_beginHike_150 : decode cX3_beginHike 150 = .ok (.iload_n 2, 1) := by decide +kernel
theorem dX3_beginHike_151 : decode cX3_beginHike 151 = .ok (.invokestatic 59, 3) := by decide +kernel
theorem dX3_beginHike_154 : decode cX3_beginHike 154 = .ok (.ifCond .ne 17, 3) := by decide +kernel
theorem dX3_beginHike_157 : decode cX3_beginHike 157 = .ok (.aload_n 0, 1) := by decide +kernel
theorem dX3_beginHike_158 : decode cX3_beginHike 158 = .ok (.getfield 9, 3) := by decide +kernel
theorem dX3_beginHike_161 : decode cX3_beginHike 161 = .ok (.iload_n 2, 1) := by decide +kernel
theorem dX3_beginHike_162 : decode cX3_beginHike 162 = .ok (.iconst 0, 1) := by decide +kernel
theorem dX3_beginHike_163 : decode cX3_beginHike 163 = .ok (.iastore, 1) := by decide +kernel
theorem dX3_beginHike_164 : decode cX3_beginHike 164 = .ok (.aload_n 0, 1) := by decide +kernel
theorem dX3_beginHike_165 : decode cX3_beginHike 165 = .ok (.getfield 15, 3) := by decide +kernel
theorem dX3_beginHike_168 : decode cX3_beginHike 168 = .ok (.iload_n 2, 1) := by decide +kernel
theorem dX3_beginHike_169 : decode cX3_beginHike 169 = .ok (.iconst 0, 1) := by decide +kernel
theorem dX3_beginHike_170 : decode cX3_beginHike 170 = .ok (.iastore, 1) := by decide +kernel
theorem dX3_beginHike_171 : decode cX3_beginHike 171 = .ok (.iinc 2 1, 3) := by decide +kernel
theorem dX3_beginHike_174 : decode cX3_beginHike 174 = .ok (.goto (-34), 3) := by decide +kernel
theorem dX3_beginHike_177 : decode cX3_beginHike 177 = .ok (.return_, 1) := by decide +kernel
theorem dX3_isIn_0 : decode cX3_isIn 0 = .ok (.iload_n 0, 1) := by decide +kernel
theorem dX3_isIn_1 : decode cX3_isIn 1 = .ok (.iload_n 1, 1) := by decide +kernel
theorem dX3_isIn_2 : decode cX3_isIn 2 = .ok (.ishr, 1) := by decide +kernel
theorem dX3_isIn_3 : decode cX3_isIn 3 = .ok (.iconst 1, 1) := by decide +kernel
theorem dX3_isIn_4 : decode cX3_isIn 4 = .ok (.iand, 1) := by decide +kernel
theorem dX3_isIn_5 : decode cX3_isIn 5 = .ok (.ifCond .eq 7, 3) := by decide +kernel
theorem dX3_isIn_8 : decode cX3_isIn 8 = .ok (.iconst 1, 1) := by decide +kernel
theorem dX3_isIn_9 : decode cX3_isIn 9 = .ok (.goto 4, 3) := by decide +kernel
theorem dX3_isIn_12 : decode cX3_isIn 12 = .ok (.iconst 0, 1) := by decide +kernel
theorem dX3_isIn_13 : decode cX3_isIn 13 = .ok (.ireturn, 1) := by decide +kernel
theorem dJ6_bitCount_0f7a4_0 : decode cJ6_bitCount_0f7a4 0 = .ok (.iload_n 0, 1) := by decide +kernel
theorem dJ6_bitCount_0f7a4_1 : decode cJ6_bitCount_0f7a4 1 = .ok (.iload_n 0, 1) := by decide +kernel
theorem dJ6_bitCount_0f7a4_2 : decode cJ6_bitCount_0f7a4 2 = .ok (.iconst 1, 1) := by decide +kernel
theorem dJ6_bitCount_0f7a4_3 : decode cJ6_bitCount_0f7a4 3 = .ok (.iushr, 1) := by decide +kernel
theorem dJ6_bitCount_0f7a4_4 : decode cJ6_bitCount_0f7a4 4 = .ok (.ldc_w 265, 3) := by decide +kernel
theorem dJ6_bitCount_0f7a4_7 : decode cJ6_bitCount_0f7a4 7 = .ok (.iand, 1) := by decide +kernel
theorem dJ6_bitCount_0f7a4_8 : decode cJ6_bitCount_0f7a4 8 = .ok (.isub, 1) := by decide +kernel
theorem dJ6_bitCount_0f7a4_9 : decode cJ6_bitCount_0f7a4 9 = .ok (.istore_n 0, 1) := by decide +kernel
theorem dJ6_bitCount_0f7a4_10 : decode cJ6_bitCount_0f7a4 10 = .ok (.iload_n 0, 1) := by decide +kernel
theorem dJ6_bitCount_0f7a4_11 : decode cJ6_bitCount_0f7a4 11 = .ok (.ldc_w 266, 3) := by decide +kernel
theorem dJ6_bitCount_0f7a4_14 : decode cJ6_bitCount_0f7a4 14 = .ok (.iand, 1) := by decide +kernel
theorem dJ6_bitCount_0f7a4_15 : decode cJ6_bitCount_0f7a4 15 = .ok (.iload_n 0, 1) := by decide +kernel
theorem dJ6_bitCount_0f7a4_16 : decode cJ6_bitCount_0f7a4 16 = .ok (.iconst 2, 1) := by decide +kernel
theorem dJ6_bitCount_0f7a4_17 : decode cJ6_bitCount_0f7a4 17 = .ok (.iushr, 1) := by decide +kernel
theorem dJ6_bitCount_0f7a4_18 : decode cJ6_bitCount_0f7a4 18 = .ok (.ldc_w 266, 3) := by decide +kernel
theorem dJ6_bitCount_0f7a4_21 : decode cJ6_bitCount_0f7a4 21 = .ok (.iand, 1) := by decide +kernel
theorem dJ6_bitCount_0f7a4_22 : decode cJ6_bitCount_0f7a4 22 = .ok (.iadd, 1) := by decide +kernel
theorem dJ6_bitCount_0f7a4_23 : decode cJ6_bitCount_0f7a4 23 = .ok (.istore_n 0, 1) := by decide +kernel
theorem dJ6_bitCount_0f7a4_24 : decode cJ6_bitCount_0f7a4 24 = .ok (.iload_n 0, 1) := by decide +kernel
theorem dJ6_bitCount_0f7a4_25 : decode cJ6_bitCount_0f7a4 25 = .ok (.iload_n 0, 1) := by decide +kernel
theorem dJ6_bitCount_0f7a4_26 : decode cJ6_bitCount_0f7a4 26 = .ok (.iconst 4, 1) := by decide +kernel
theorem dJ6_bitCount_0f7a4_27 : decode cJ6_bitCount_0f7a4 27 = .ok (.iushr, 1) := by decide +kernel
theorem dJ6_bitCount_0f7a4_28 : decode cJ6_bitCount_0f7a4 28 = .ok (.iadd, 1) := by decide +kernel
theorem dJ6_bitCount_0f7a4_29 : decode cJ6_bitCount_0f7a4 29 = .ok (.ldc_w 267, 3) := by decide +kernel
theorem dJ6_bitCount_0f7a4_32 : decode cJ6_bitCount_0f7a4 32 = .ok (.iand, 1) := by decide +kernel
theorem dJ6_bitCount_0f7a4_33 : decode cJ6_bitCount_0f7a4 33 = .ok (.istore_n 0, 1) := by decide +kernel
theorem dJ6_bitCount_0f7a4_34 : decode cJ6_bitCount_0f7a4 34 = .ok (.iload_n 0, 1) := by decide +kernel
theorem dJ6_bitCount_0f7a4_35 : decode cJ6_bitCount_0f7a4 35 = .ok (.iload_n 0, 1) := by decide +kernel
theorem dJ6_bitCount_0f7a4_36 : decode cJ6_bitCount_0f7a4 36 = .ok (.bipush 8, 2) := by decide +kernel
theorem dJ6_bitCount_0f7a4_38 : decode cJ6_bitCount_0f7a4 38 = .ok (.iushr, 1) := by decide +kernel
theorem dJ6_bitCount_0f7a4_39 : decode cJ6_bitCount_0f7a4 39 = .ok (.iadd, 1) := by decide +kernel
theorem dJ6_bitCount_0f7a4_40 : decode cJ6_bitCount_0f7a4 40 = .ok (.istore_n 0, 1) := by decide +kernel
theorem dJ6_bitCount_0f7a4_41 : decode cJ6_bitCount_0f7a4 41 = .ok (.iload_n 0, 1) := by decide +kernel
theorem dJ6_bitCount_0f7a4_42 : decode cJ6_bitCount_0f7a4 42 = .ok (.iload_n 0, 1) := by decide +kernel
theorem dJ6_bitCount_0f7a4_43 : decode cJ6_bitCount_0f7a4 43 = .ok (.bipush 16, 2) := by decide +kernel
theorem dJ6_bitCount_0f7a4_45 : decode cJ6_bitCount_0f7a4 45 = .ok (.iushr, 1) := by decide +kernel
theorem dJ6_bitCount_0f7a4_46 : decode cJ6_bitCount_0f7a4 46 = .ok (.iadd, 1) := by decide +kernel
theorem dJ6_bitCount_0f7a4_47 : decode cJ6_bitCount_0f7a4 47 = .ok (.istore_n 0, 1) := by decide +kernel
theorem dJ6_bitCount_0f7a4_48 : decode cJ6_bitCount_0f7a4 48 = .ok (.iload_n 0, 1) := by decide +kernel
theorem dJ6_bitCount_0f7a4_49 : decode cJ6_bitCount_0f7a4 49 = .ok (.bipush 63, 2) := by decide +kernel
theorem dJ6_bitCount_0f7a4_51 : decode cJ6_bitCount_0f7a4 51 = .ok (.iand, 1) := by decide +kernel
theorem dJ6_bitCount_0f7a4_52 : decode cJ6_bitCount_0f7a4 52 = .ok (.ireturn, 1) := by decide +kernel
