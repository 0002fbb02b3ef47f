/-! what the bytes decode to -/
theorem DX0_init_0 : decode jX0_init.2.1 0 = .ok (.aload_n 0, 1) := by decide +kernel
theorem DX0_init_1 : decode jX0_init.2.1 1 = .ok (.invokespecial 1, 3) := by decide +kernel
theorem DX0_init_4 : decode jX0_init.2.1 4 = .ok (.aload_n 0, 1) := by decide +kernel
theorem DX0_init_5 : decode jX0_init.2.1 5 = .ok (.aload_n 1, 1) := by decide +kernel
theorem DX0_init_6 : decode jX0_init.2.1 6 = .ok (.putfield 7, 3) := by decide +kernel
theorem DX0_init_9 : decode jX0_init.2.1 9 = .ok (.aload_n 0, 1) := by decide +kernel
theorem DX0_init_10 : decode jX0_init.2.1 10 = .ok (.iload_n 2, 1) := by decide +kernel
theorem DX0_init_11 : decode jX0_init.2.1 11 = .ok (.putfield 13, 3) := by decide +kernel
theorem DX0_init_14 : decode jX0_init.2.1 14 = .ok (.aload_n 0, 1) := by decide +kernel
theorem DX0_init_15 : decode jX0_init.2.1 15 = .ok (.iload_n 3, 1) := by decide +kernel
theorem DX0_init_16 : decode jX0_init.2.1 16 = .ok (.putfield 17, 3) := by decide +kernel
theorem DX0_init_19 : decode jX0_init.2.1 19 = .ok (.return_, 1) := by decide +kernel
theorem DX1_init_0 : decode jX1_init.2.1 0 = .ok (.aload_n 0, 1) := by decide +kernel
theorem DX1_init_1 : decode jX1_init.2.1 1 = .ok (.invokespecial 3, 3) := by decide +kernel
theorem DX1_init_4 : decode jX1_init.2.1 4 = .ok (.aload_n 0, 1) := by decide +kernel
theorem DX1_init_5 : decode jX1_init.2.1 5 = .ok (.bipush 40, 2) := by decide +kernel
theorem DX1_init_7 : decode jX1_init.2.1 7 = .ok (.anewarray 9, 3) := by decide +kernel
theorem DX1_init_10 : decode jX1_init.2.1 10 = .ok (.putfield 11, 3) := by decide +kernel
theorem DX1_init_13 : decode jX1_init.2.1 13 = .ok (.return_, 1) := by decide +kernel
theorem DX1_find_0 : decode jX1_find.2.1 0 = .ok (.iload_n 1, 1) := by decide +kernel
theorem DX1_find_1 : decode jX1_find.2.1 1 = .ok (.ifCond .lt 26, 3) := by decide +kernel
theorem DX1_find_4 : decode jX1_find.2.1 4 = .ok (.iload_n 1, 1) := by decide +kernel
theorem DX1_find_5 : decode jX1_find.2.1 5 = .ok (.aload_n 0, 1) := by decide +kernel
theorem DX1_find_6 : decode jX1_find.2.1 6 = .ok (.getfield 17, 3) := by decide +kernel
theorem DX1_find_9 : decode jX1_find.2.1 9 = .ok (.if_icmp .ge 18, 3) := by decide +kernel
theorem DX1_find_12 : decode jX1_find.2.1 12 = .ok (.iload_n 1, 1) := by decide +kernel
theorem DX1_find_13 : decode jX1_find.2.1 13 = .ok (.bipush 40, 2) := by decide +kernel
theorem DX1_find_15 : decode jX1_find.2.1 15 = .ok (.if_icmp .ge 12, 3) := by decide +kernel
theorem DX1_find_18 : decode jX1_find.2.1 18 = .ok (.aload_n 0, 1) := by decide +kernel
theorem DX1_find_19 : decode jX1_find.2.1 19 = .ok (.getfield 11, 3) := by decide +kernel
theorem DX1_find_22 : decode jX1_find.2.1 22 = .ok (.iload_n 1, 1) := by decide +kernel
theorem DX1_find_23 : decode jX1_find.2.1 23 = .ok (.aaload, 1) := by decide +kernel
theorem DX1_find_24 : decode jX1_find.2.1 24 = .ok (.goto 4, 3) := by decide +kernel
theorem DX1_find_27 : decode jX1_find.2.1 27 = .ok (.aconst_null, 1) := by decide +kernel
theorem DX1_find_28 : decode jX1_find.2.1 28 = .ok (.areturn, 1) := by decide +kernel
theorem DX1_keep_0 : decode jX1_keep.2.1 0 = .ok (.aload_n 1, 1) := by decide +kernel
theorem DX1_keep_1 : decode jX1_keep.2.1 1 = .ok (.ifnull 41, 3) := by decide +kernel
theorem DX1_keep_4 : decode jX1_keep.2.1 4 = .ok (.aload_n 0, 1) := by decide +kernel
theorem DX1_keep_5 : decode jX1_keep.2.1 5 = .ok (.getfield 17, 3) := by decide +kernel
theorem DX1_keep_8 : decode jX1_keep.2.1 8 = .ok (.bipush 40, 2) := by decide +kernel
theorem DX1_keep_10 : decode jX1_keep.2.1 10 = .ok (.if_icmp .ge 32, 3) := by decide +kernel
theorem DX1_keep_13 : decode jX1_keep.2.1 13 = .ok (.aload_n 0, 1) := by decide +kernel
theorem DX1_keep_14 : decode jX1_keep.2.1 14 = .ok (.getfield 11, 3) := by decide +kernel
theorem DX1_keep_17 : decode jX1_keep.2.1 17 = .ok (.aload_n 0, 1) := by decide +kernel
theorem DX1_keep_18 : decode jX1_keep.2.1 18 = .ok (.getfield 17, 3) := by decide +kernel
theorem DX1_keep_21 : decode jX1_keep.2.1 21 = .ok (.new 9, 3) := by decide +kernel
theorem DX1_keep_24 : decode jX1_keep.2.1 24 = .ok (.dup, 1) := by decide +kernel
theorem DX1_keep_25 : decode jX1_keep.2.1 25 = .ok (.aload_n 1, 1) := by decide +kernel
theorem DX1_keep_26 : decode jX1_keep.2.1 26 = .ok (.iload_n 2, 1) := by decide +kernel
theorem DX1_keep_27 : decode jX1_keep.2.1 27 = .ok (.iload_n 3, 1) := by decide +kernel
theorem DX1_keep_28 : decode jX1_keep.2.1 28 = .ok (.invokespecial 21, 3) := by decide +kernel
theorem DX1_keep_31 : decode jX1_keep.2.1 31 = .ok (.aastore, 1) := by decide +kernel
theorem DX1_keep_32 : decode jX1_keep.2.1 32 = .ok (.aload_n 0, 1) := by decide +kernel
theorem DX1_keep_33 : decode jX1_keep.2.1 33 = .ok (.dup, 1) := by decide +kernel
theorem DX1_keep_34 : decode jX1_keep.2.1 34 = .ok (.getfield 17, 3) := by decide +kernel
theorem DX1_keep_37 : decode jX1_keep.2.1 37 = .ok (.iconst 1, 1) := by decide +kernel
theorem DX1_keep_38 : decode jX1_keep.2.1 38 = .ok (.iadd, 1) := by decide +kernel
theorem DX1_keep_39 : decode jX1_keep.2.1 39 = .ok (.putfield 17, 3) := by decide +kernel
theorem DX1_keep_42 : decode jX1_keep.2.1 42 = .ok (.return_, 1) := by decide +kernel
theorem DX2_init_0 : decode jX2_init.2.1 0 = .ok (.aload_n 0, 1) := by decide +kernel
theorem DX2_init_1 : decode jX2_init.2.1 1 = .ok (.invokespecial 1, 3) := by decide +kernel
theorem DX2_init_4 : decode jX2_init.2.1 4 = .ok (.aload_n 0, 1) := by decide +kernel
theorem DX2_init_5 : decode jX2_init.2.1 5 = .ok (.iconst 5, 1) := by decide +kernel
theorem DX2_init_6 : decode jX2_init.2.1 6 = .ok (.putfield 9, 3) := by decide +kernel
theorem DX2_init_9 : decode jX2_init.2.1 9 = .ok (.aload_n 0, 1) := by decide +kernel
theorem DX2_init_10 : decode jX2_init.2.1 10 = .ok (.iconst 1, 1) := by decide +kernel
theorem DX2_init_11 : decode jX2_init.2.1 11 = .ok (.putfield 13, 3) := by decide +kernel
theorem DX2_init_14 : decode jX2_init.2.1 14 = .ok (.aload_n 0, 1) := by decide +kernel
theorem DX2_init_15 : decode jX2_init.2.1 15 = .ok (.iload_n 1, 1) := by decide +kernel
theorem DX2_init_16 : decode jX2_init.2.1 16 = .ok (.putfield 17, 3) := by decide +kernel
theorem DX2_init_19 : decode jX2_init.2.1 19 = .ok (.aload_n 0, 1) := by decide +kernel
theorem DX2_init_20 : decode jX2_init.2.1 20 = .ok (.iload_n 2, 1) := by decide +kernel
theorem DX2_init_21 : decode jX2_init.2.1 21 = .ok (.putfield 20, 3) := by decide +kernel
theorem DX2_init_24 : decode jX2_init.2.1 24 = .ok (.aload_n 0, 1) := by decide +kernel
theorem DX2_init_25 : decode jX2_init.2.1 25 = .ok (.iload_n 3, 1) := by decide +kernel
theorem DX2_init_26 : decode jX2_init.2.1 26 = .ok (.putfield 23, 3) := by decide +kernel
theorem DX2_init_29 : decode jX2_init.2.1 29 = .ok (.return_, 1) := by decide +kernel
theorem DX2_cordsLeft_0 : decode jX2_cordsLeft.2.1 0 = .ok (.aload_n 0, 1) := by decide +kernel
theorem DX2_cordsLeft_1 : decode jX2_cordsLeft.2.1 1 = .ok (.getfield 26, 3) := by decide +kernel
theorem DX2_cordsLeft_4 : decode jX2_cordsLeft.2.1 4 = .ok (.bipush 10, 2) := by decide +kernel
theorem DX2_cordsLeft_6 : decode jX2_cordsLeft.2.1 6 = .ok (.idiv, 1) := by decide +kernel
theorem DX2_cordsLeft_7 : decode jX2_cordsLeft.2.1 7 = .ok (.aload_n 0, 1) := by decide +kernel
theorem DX2_cordsLeft_8 : decode jX2_cordsLeft.2.1 8 = .ok (.getfield 29, 3) := by decide +kernel
theorem DX2_cordsLeft_11 : decode jX2_cordsLeft.2.1 11 = .ok (.isub, 1) := by decide +kernel
theorem DX2_cordsLeft_12 : decode jX2_cordsLeft.2.1 12 = .ok (.ireturn, 1) := by decide +kernel
theorem DX2_become_0 : decode jX2_become.2.1 0 = .ok (.iload_n 1, 1) := by decide +kernel
theorem DX2_become_1 : decode jX2_become.2.1 1 = .ok (.ifCond .ne 16, 3) := by decide +kernel
theorem DX2_become_4 : decode jX2_become.2.1 4 = .ok (.aload_n 0, 1) := by decide +kernel
theorem DX2_become_5 : decode jX2_become.2.1 5 = .ok (.getfield 23, 3) := by decide +kernel
theorem DX2_become_8 : decode jX2_become.2.1 8 = .ok (.istore_n 3, 1) := by decide +kernel
theorem DX2_become_9 : decode jX2_become.2.1 9 = .ok (.aload_n 0, 1) := by decide +kernel
theorem DX2_become_10 : decode jX2_become.2.1 10 = .ok (.iload_n 2, 1) := by decide +kernel
theorem DX2_become_11 : decode jX2_become.2.1 11 = .ok (.putfield 23, 3) := by decide +kernel
theorem DX2_become_14 : decode jX2_become.2.1 14 = .ok (.goto 48, 3) := by decide +kernel
theorem DX2_become_17 : decode jX2_become.2.1 17 = .ok (.iload_n 1, 1) := by decide +kernel
theorem DX2_become_18 : decode jX2_become.2.1 18 = .ok (.iconst 1, 1) := by decide +kernel
theorem DX2_become_19 : decode jX2_become.2.1 19 = .ok (.if_icmp .ne 16, 3) := by decide +kernel
theorem DX2_become_22 : decode jX2_become.2.1 22 = .ok (.aload_n 0, 1) := by decide +kernel
theorem DX2_become_23 : decode jX2_become.2.1 23 = .ok (.getfield 9, 3) := by decide +kernel
theorem DX2_become_26 : decode jX2_become.2.1 26 = .ok (.istore_n 3, 1) := by decide +kernel
theorem DX2_become_27 : decode jX2_become.2.1 27 = .ok (.aload_n 0, 1) := by decide +kernel
theorem DX2_become_28 : decode jX2_become.2.1 28 = .ok (.iload_n 2, 1) := by decide +kernel
theorem DX2_become_29 : decode jX2_become.2.1 29 = .ok (.putfield 9, 3) := by decide +kernel
theorem DX2_become_32 : decode jX2_become.2.1 32 = .ok (.goto 30, 3) := by decide +kernel
theorem DX2_become_35 : decode jX2_become.2.1 35 = .ok (.aload_n 0, 1) := by decide +kernel
theorem DX2_become_36 : decode jX2_become.2.1 36 = .ok (.getfield 13, 3) := by decide +kernel
theorem DX2_become_39 : decode jX2_become.2.1 39 = .ok (.ifCond .eq 7, 3) := by decide +kernel
theorem DX2_become_42 : decode jX2_become.2.1 42 = .ok (.iconst 1, 1) := by decide +kernel
theorem DX2_become_43 : decode jX2_become.2.1 43 = .ok (.goto 4, 3) := by decide +kernel
theorem DX2_become_46 : decode jX2_become.2.1 46 = .ok (.iconst 0, 1) := by decide +kernel
theorem DX2_become_47 : decode jX2_become.2.1 47 = .ok (.istore_n 3, 1) := by decide +kernel
theorem DX2_become_48 : decode jX2_become.2.1 48 = .ok (.aload_n 0, 1) := by decide +kernel
theorem DX2_become_49 : decode jX2_become.2.1 49 = .ok (.iload_n 2, 1) := by decide +kernel
theorem DX2_become_50 : decode jX2_become.2.1 50 = .ok (.iconst 1, 1) := by decide +kernel
theorem DX2_become_51 : decode jX2_become.2.1 51 = .ok (.if_icmp .ne 7, 3) := by decide +kernel
theorem DX2_become_54 : decode jX2_become.2.1 54 = .ok (.iconst 1, 1) := by decide +kernel
theorem DX2_become_55 : decode jX2_become.2.1 55 = .ok (.goto 4, 3) := by decide +kernel
theorem DX2_become_58 : decode jX2_become.2.1 58 = .ok (.iconst 0, 1) := by decide +kernel
theorem DX2_become_59 : decode jX2_become.2.1 59 = .ok (.putfield 13, 3) := by decide +kernel
theorem DX2_become_62 : decode jX2_become.2.1 62 = .ok (.iload_n 3, 1) := by decide +kernel
theorem DX2_become_63 : decode jX2_become.2.1 63 = .ok (.ireturn, 1) := by decide +kernel
theorem DX2_fathomsAs_0 : decode jX2_fathomsAs.2.1 0 = .ok (.iload_n 1, 1) := by decide +kernel
theorem DX2_fathomsAs_1 : decode jX2_fathomsAs.2.1 1 = .ok (.ifCond .ne 19, 3) := by decide +kernel
theorem DX2_fathomsAs_4 : decode jX2_fathomsAs.2.1 4 = .ok (.iconst 0, 1) := by decide +kernel
theorem DX2_fathomsAs_5 : decode jX2_fathomsAs.2.1 5 = .ok (.aload_n 0, 1) := by decide +kernel
theorem DX2_fathomsAs_6 : decode jX2_fathomsAs.2.1 6 = .ok (.getfield 26, 3) := by decide +kernel
theorem DX2_fathomsAs_9 : decode jX2_fathomsAs.2.1 9 = .ok (.aload_n 0, 1) := by decide +kernel
theorem DX2_fathomsAs_10 : decode jX2_fathomsAs.2.1 10 = .ok (.getfield 32, 3) := by decide +kernel
theorem DX2_fathomsAs_13 : decode jX2_fathomsAs.2.1 13 = .ok (.isub, 1) := by decide +kernel
theorem DX2_fathomsAs_14 : decode jX2_fathomsAs.2.1 14 = .ok (.invokestatic 35, 3) := by decide +kernel
theorem DX2_fathomsAs_17 : decode jX2_fathomsAs.2.1 17 = .ok (.goto 24, 3) := by decide +kernel
theorem DX2_fathomsAs_20 : decode jX2_fathomsAs.2.1 20 = .ok (.iload_n 1, 1) := by decide +kernel
theorem DX2_fathomsAs_21 : decode jX2_fathomsAs.2.1 21 = .ok (.iconst 1, 1) := by decide +kernel
theorem DX2_fathomsAs_22 : decode jX2_fathomsAs.2.1 22 = .ok (.if_icmp .ne 10, 3) := by decide +kernel
theorem DX2_fathomsAs_25 : decode jX2_fathomsAs.2.1 25 = .ok (.aload_n 0, 1) := by decide +kernel
theorem DX2_fathomsAs_26 : decode jX2_fathomsAs.2.1 26 = .ok (.getfield 26, 3) := by decide +kernel
theorem DX2_fathomsAs_29 : decode jX2_fathomsAs.2.1 29 = .ok (.goto 12, 3) := by decide +kernel
theorem DX2_fathomsAs_32 : decode jX2_fathomsAs.2.1 32 = .ok (.aload_n 0, 1) := by decide +kernel
theorem DX2_fathomsAs_33 : decode jX2_fathomsAs.2.1 33 = .ok (.getfield 26, 3) := by decide +kernel
theorem DX2_fathomsAs_36 : decode jX2_fathomsAs.2.1 36 = .ok (.aload_n 0, 1) := by decide +kernel
theorem DX2_fathomsAs_37 : decode jX2_fathomsAs.2.1 37 = .ok (.getfield 32, 3) := by decide +kernel
theorem DX2_fathomsAs_40 : decode jX2_fathomsAs.2.1 40 = .ok (.iadd, 1) := by decide +kernel
theorem DX2_fathomsAs_41 : decode jX2_fathomsAs.2.1 41 = .ok (.ireturn, 1) := by decide +kernel
theorem DX2_beginYear_0 : decode jX2_beginYear.2.1 0 = .ok (.aload_n 0, 1) := by decide +kernel
theorem DX2_beginYear_1 : decode jX2_beginYear.2.1 1 = .ok (.iconst 0, 1) := by decide +kernel
theorem DX2_beginYear_2 : decode jX2_beginYear.2.1 2 = .ok (.putfield 26, 3) := by decide +kernel
theorem DX2_beginYear_5 : decode jX2_beginYear.2.1 5 = .ok (.aload_n 0, 1) := by decide +kernel
theorem DX2_beginYear_6 : decode jX2_beginYear.2.1 6 = .ok (.iconst 0, 1) := by decide +kernel
theorem DX2_beginYear_7 : decode jX2_beginYear.2.1 7 = .ok (.putfield 32, 3) := by decide +kernel
theorem DX2_beginYear_10 : decode jX2_beginYear.2.1 10 = .ok (.aload_n 0, 1) := by decide +kernel
theorem DX2_beginYear_11 : decode jX2_beginYear.2.1 11 = .ok (.iconst 0, 1) := by decide +kernel
theorem DX2_beginYear_12 : decode jX2_beginYear.2.1 12 = .ok (.putfield 29, 3) := by decide +kernel
theorem DX2_beginYear_15 : decode jX2_beginYear.2.1 15 = .ok (.return_, 1) := by decide +kernel
theorem DX3_init_0 : decode jX3_init.2.1 0 = .ok (.aload_n 0, 1) := by decide +kernel
theorem DX3_init_1 : decode jX3_init.2.1 1 = .ok (.invokespecial 3, 3) := by decide +kernel
theorem DX3_init_4 : decode jX3_init.2.1 4 = .ok (.aload_n 0, 1) := by decide +kernel
theorem DX3_init_5 : decode jX3_init.2.1 5 = .ok (.bipush 24, 2) := by decide +kernel
theorem DX3_init_7 : decode jX3_init.2.1 7 = .ok (.anewarray 9, 3) := by decide +kernel
theorem DX3_init_10 : decode jX3_init.2.1 10 = .ok (.putfield 11, 3) := by decide +kernel
theorem DX3_init_13 : decode jX3_init.2.1 13 = .ok (.aload_n 0, 1) := by decide +kernel
theorem DX3_init_14 : decode jX3_init.2.1 14 = .ok (.bipush 24, 2) := by decide +kernel
theorem DX3_init_16 : decode jX3_init.2.1 16 = .ok (.newarray .int, 2) := by decide +kernel
theorem DX3_init_18 : decode jX3_init.2.1 18 = .ok (.putfield 17, 3) := by decide +kernel
theorem DX3_init_21 : decode jX3_init.2.1 21 = .ok (.return_, 1) := by decide +kernel
theorem DX3_find_0 : decode jX3_find.2.1 0 = .ok (.iload_n 1, 1) := by decide +kernel
theorem DX3_find_1 : decode jX3_find.2.1 1 = .ok (.ifCond .lt 26, 3) := by decide +kernel
theorem DX3_find_4 : decode jX3_find.2.1 4 = .ok (.iload_n 1, 1) := by decide +kernel
theorem DX3_find_5 : decode jX3_find.2.1 5 = .ok (.aload_n 0, 1) := by decide +kernel
theorem DX3_find_6 : decode jX3_find.2.1 6 = .ok (.getfield 21, 3) := by decide +kernel
theorem DX3_find_9 : decode jX3_find.2.1 9 = .ok (.if_icmp .ge 18, 3) := by decide +kernel
theorem DX3_find_12 : decode jX3_find.2.1 12 = .ok (.iload_n 1, 1) := by decide +kernel
theorem DX3_find_13 : decode jX3_find.2.1 13 = .ok (.bipush 24, 2) := by decide +kernel
theorem DX3_find_15 : decode jX3_find.2.1 15 = .ok (.if_icmp .ge 12, 3) := by decide +kernel
theorem DX3_find_18 : decode jX3_find.2.1 18 = .ok (.aload_n 0, 1) := by decide +kernel
theorem DX3_find_19 : decode jX3_find.2.1 19 = .ok (.getfield 11, 3) := by decide +kernel
theorem DX3_find_22 : decode jX3_find.2.1 22 = .ok (.iload_n 1, 1) := by decide +kernel
theorem DX3_find_23 : decode jX3_find.2.1 23 = .ok (.aaload, 1) := by decide +kernel
theorem DX3_find_24 : decode jX3_find.2.1 24 = .ok (.goto 4, 3) := by decide +kernel
theorem DX3_find_27 : decode jX3_find.2.1 27 = .ok (.aconst_null, 1) := by decide +kernel
theorem DX3_find_28 : decode jX3_find.2.1 28 = .ok (.areturn, 1) := by decide +kernel
theorem DX3_found_0 : decode jX3_found.2.1 0 = .ok (.aload_n 0, 1) := by decide +kernel
theorem DX3_found_1 : decode jX3_found.2.1 1 = .ok (.getfield 21, 3) := by decide +kernel
theorem DX3_found_4 : decode jX3_found.2.1 4 = .ok (.bipush 24, 2) := by decide +kernel
theorem DX3_found_6 : decode jX3_found.2.1 6 = .ok (.if_icmp .lt 6, 3) := by decide +kernel
theorem DX3_found_9 : decode jX3_found.2.1 9 = .ok (.bipush (-6), 2) := by decide +kernel
theorem DX3_found_11 : decode jX3_found.2.1 11 = .ok (.ireturn, 1) := by decide +kernel
theorem DX3_found_12 : decode jX3_found.2.1 12 = .ok (.aload_n 0, 1) := by decide +kernel
theorem DX3_found_13 : decode jX3_found.2.1 13 = .ok (.getfield 11, 3) := by decide +kernel
theorem DX3_found_16 : decode jX3_found.2.1 16 = .ok (.aload_n 0, 1) := by decide +kernel
theorem DX3_found_17 : decode jX3_found.2.1 17 = .ok (.getfield 21, 3) := by decide +kernel
theorem DX3_found_20 : decode jX3_found.2.1 20 = .ok (.new 9, 3) := by decide +kernel
theorem DX3_found_23 : decode jX3_found.2.1 23 = .ok (.dup, 1) := by decide +kernel
theorem DX3_found_24 : decode jX3_found.2.1 24 = .ok (.aload_n 0, 1) := by decide +kernel
theorem DX3_found_25 : decode jX3_found.2.1 25 = .ok (.getfield 21, 3) := by decide +kernel
theorem DX3_found_28 : decode jX3_found.2.1 28 = .ok (.iload_n 1, 1) := by decide +kernel
theorem DX3_found_29 : decode jX3_found.2.1 29 = .ok (.iload_n 2, 1) := by decide +kernel
theorem DX3_found_30 : decode jX3_found.2.1 30 = .ok (.invokespecial 25, 3) := by decide +kernel
theorem DX3_found_33 : decode jX3_found.2.1 33 = .ok (.aastore, 1) := by decide +kernel
theorem DX3_found_34 : decode jX3_found.2.1 34 = .ok (.aload_n 0, 1) := by decide +kernel
theorem DX3_found_35 : decode jX3_found.2.1 35 = .ok (.dup, 1) := by decide +kernel
theorem DX3_found_36 : decode jX3_found.2.1 36 = .ok (.getfield 21, 3) := by decide +kernel
theorem DX3_found_39 : decode jX3_found.2.1 39 = .ok (.dup_x1, 1) := by decide +kernel
theorem DX3_found_40 : decode jX3_found.2.1 40 = .ok (.iconst 1, 1) := by decide +kernel
theorem DX3_found_41 : decode jX3_found.2.1 41 = .ok (.iadd, 1) := by decide +kernel
theorem DX3_found_42 : decode jX3_found.2.1 42 = .ok (.putfield 21, 3) := by decide +kernel
theorem DX3_found_45 : decode jX3_found.2.1 45 = .ok (.ireturn, 1) := by decide +kernel
theorem DX3_handsHere_0 : decode jX3_handsHere.2.1 0 = .ok (.iconst 0, 1) := by decide +kernel
theorem DX3_handsHere_1 : decode jX3_handsHere.2.1 1 = .ok (.istore_n 1, 1) := by decide +kernel
theorem DX3_handsHere_2 : decode jX3_handsHere.2.1 2 = .ok (.iconst 0, 1) := by decide +kernel
theorem DX3_handsHere_3 : decode jX3_handsHere.2.1 3 = .ok (.istore_n 2, 1) := by decide +kernel
theorem DX3_handsHere_4 : decode jX3_handsHere.2.1 4 = .ok (.iload_n 2, 1) := by decide +kernel
theorem DX3_handsHere_5 : decode jX3_handsHere.2.1 5 = .ok (.aload_n 0, 1) := by decide +kernel
theorem DX3_handsHere_6 : decode jX3_handsHere.2.1 6 = .ok (.getfield 21, 3) := by decide +kernel
theorem DX3_handsHere_9 : decode jX3_handsHere.2.1 9 = .ok (.if_icmp .ge 33, 3) := by decide +kernel
theorem DX3_handsHere_12 : decode jX3_handsHere.2.1 12 = .ok (.aload_n 0, 1) := by decide +kernel
theorem DX3_handsHere_13 : decode jX3_handsHere.2.1 13 = .ok (.getfield 11, 3) := by decide +kernel
theorem DX3_handsHere_16 : decode jX3_handsHere.2.1 16 = .ok (.iload_n 2, 1) := by decide +kernel
theorem DX3_handsHere_17 : decode jX3_handsHere.2.1 17 = .ok (.aaload, 1) := by decide +kernel
theorem DX3_handsHere_18 : decode jX3_handsHere.2.1 18 = .ok (.getfield 28, 3) := by decide +kernel
theorem DX3_handsHere_21 : decode jX3_handsHere.2.1 21 = .ok (.ifCond .eq 15, 3) := by decide +kernel
theorem DX3_handsHere_24 : decode jX3_handsHere.2.1 24 = .ok (.iload_n 1, 1) := by decide +kernel
theorem DX3_handsHere_25 : decode jX3_handsHere.2.1 25 = .ok (.aload_n 0, 1) := by decide +kernel
theorem DX3_handsHere_26 : decode jX3_handsHere.2.1 26 = .ok (.getfield 11, 3) := by decide +kernel
theorem DX3_handsHere_29 : decode jX3_handsHere.2.1 29 = .ok (.iload_n 2, 1) := by decide +kernel
theorem DX3_handsHere_30 : decode jX3_handsHere.2.1 30 = .ok (.aaload, 1) := by decide +kernel
theorem DX3_handsHere_31 : decode jX3_handsHere.2.1 31 = .ok (.getfield 32, 3) := by decide +kernel
theorem DX3_handsHere_34 : decode jX3_handsHere.2.1 34 = .ok (.iadd, 1) := by decide +kernel
theorem DX3_handsHere_35 : decode jX3_handsHere.2.1 35 = .ok (.istore_n 1, 1) := by decide +kernel
theorem DX3_handsHere_36 : decode jX3_handsHere.2.1 36 = .ok (.iinc 2 1, 3) := by decide +kernel
theorem DX3_handsHere_39 : decode jX3_handsHere.2.1 39 = .ok (.goto (-35), 3) := by decide +kernel
theorem DX3_handsHere_42 : decode jX3_handsHere.2.1 42 = .ok (.iload_n 1, 1) := by decide +kernel
theorem DX3_handsHere_43 : decode jX3_handsHere.2.1 43 = .ok (.ireturn, 1) := by decide +kernel
theorem DX3_fathomsOf_0 : decode jX3_fathomsOf.2.1 0 = .ok (.iconst 0, 1) := by decide +kernel
theorem DX3_fathomsOf_1 : decode jX3_fathomsOf.2.1 1 = .ok (.istore_n 3, 1) := by decide +kernel
theorem DX3_fathomsOf_2 : decode jX3_fathomsOf.2.1 2 = .ok (.iconst 0, 1) := by decide +kernel
theorem DX3_fathomsOf_3 : decode jX3_fathomsOf.2.1 3 = .ok (.istore 4, 2) := by decide +kernel
theorem DX3_fathomsOf_5 : decode jX3_fathomsOf.2.1 5 = .ok (.iload 4, 2) := by decide +kernel
theorem DX3_fathomsOf_7 : decode jX3_fathomsOf.2.1 7 = .ok (.aload_n 0, 1) := by decide +kernel
theorem DX3_fathomsOf_8 : decode jX3_fathomsOf.2.1 8 = .ok (.getfield 21, 3) := by decide +kernel
theorem DX3_fathomsOf_11 : decode jX3_fathomsOf.2.1 11 = .ok (.if_icmp .ge 42, 3) := by decide +kernel
theorem DX3_fathomsOf_14 : decode jX3_fathomsOf.2.1 14 = .ok (.iload_n 1, 1) := by decide +kernel
theorem DX3_fathomsOf_15 : decode jX3_fathomsOf.2.1 15 = .ok (.iconst (-1), 1) := by decide +kernel
theorem DX3_fathomsOf_16 : decode jX3_fathomsOf.2.1 16 = .ok (.if_icmp .eq 17, 3) := by decide +kernel
theorem DX3_fathomsOf_19 : decode jX3_fathomsOf.2.1 19 = .ok (.aload_n 0, 1) := by decide +kernel
theorem DX3_fathomsOf_20 : decode jX3_fathomsOf.2.1 20 = .ok (.getfield 11, 3) := by decide +kernel
theorem DX3_fathomsOf_23 : decode jX3_fathomsOf.2.1 23 = .ok (.iload 4, 2) := by decide +kernel
theorem DX3_fathomsOf_25 : decode jX3_fathomsOf.2.1 25 = .ok (.aaload, 1) := by decide +kernel
theorem DX3_fathomsOf_26 : decode jX3_fathomsOf.2.1 26 = .ok (.getfield 35, 3) := by decide +kernel
theorem DX3_fathomsOf_29 : decode jX3_fathomsOf.2.1 29 = .ok (.iload_n 1, 1) := by decide +kernel
theorem DX3_fathomsOf_30 : decode jX3_fathomsOf.2.1 30 = .ok (.if_icmp .ne 17, 3) := by decide +kernel
theorem DX3_fathomsOf_33 : decode jX3_fathomsOf.2.1 33 = .ok (.iload_n 3, 1) := by decide +kernel
theorem DX3_fathomsOf_34 : decode jX3_fathomsOf.2.1 34 = .ok (.aload_n 0, 1) := by decide +kernel
theorem DX3_fathomsOf_35 : decode jX3_fathomsOf.2.1 35 = .ok (.getfield 11, 3) := by decide +kernel
theorem DX3_fathomsOf_38 : decode jX3_fathomsOf.2.1 38 = .ok (.iload 4, 2) := by decide +kernel
theorem DX3_fathomsOf_40 : decode jX3_fathomsOf.2.1 40 = .ok (.aaload, 1) := by decide +kernel
theorem DX3_fathomsOf_41 : decode jX3_fathomsOf.2.1 41 = .ok (.iload_n 2, 1) := by decide +kernel
theorem DX3_fathomsOf_42 : decode jX3_fathomsOf.2.1 42 = .ok (.invokevirtual 38, 3) := by decide +kernel
theorem DX3_fathomsOf_45 : decode jX3_fathomsOf.2.1 45 = .ok (.iadd, 1) := by decide +kernel
theorem DX3_fathomsOf_46 : decode jX3_fathomsOf.2.1 46 = .ok (.istore_n 3, 1) := by decide +kernel
theorem DX3_fathomsOf_47 : decode jX3_fathomsOf.2.1 47 = .ok (.iinc 4 1, 3) := by decide +kernel
theorem DX3_fathomsOf_50 : decode jX3_fathomsOf.2.1 50 = .ok (.goto (-45), 3) := by decide +kernel
theorem DX3_fathomsOf_53 : decode jX3_fathomsOf.2.1 53 = .ok (.iload_n 3, 1) := by decide +kernel
theorem DX3_fathomsOf_54 : decode jX3_fathomsOf.2.1 54 = .ok (.ireturn, 1) := by decide +kernel
theorem DX3_shareOf_0 : decode jX3_shareOf.2.1 0 = .ok (.aload_n 0, 1) := by decide +kernel
theorem DX3_shareOf_1 : decode jX3_shareOf.2.1 1 = .ok (.invokevirtual 42, 3) := by decide +kernel
theorem DX3_shareOf_4 : decode jX3_shareOf.2.1 4 = .ok (.istore_n 2, 1) := by decide +kernel
theorem DX3_shareOf_5 : decode jX3_shareOf.2.1 5 = .ok (.aload_n 1, 1) := by decide +kernel
theorem DX3_shareOf_6 : decode jX3_shareOf.2.1 6 = .ok (.getfield 28, 3) := by decide +kernel
theorem DX3_shareOf_9 : decode jX3_shareOf.2.1 9 = .ok (.ifCond .eq 7, 3) := by decide +kernel
theorem DX3_shareOf_12 : decode jX3_shareOf.2.1 12 = .ok (.iload_n 2, 1) := by decide +kernel
theorem DX3_shareOf_13 : decode jX3_shareOf.2.1 13 = .ok (.ifCond .gt 5, 3) := by decide +kernel
theorem DX3_shareOf_16 : decode jX3_shareOf.2.1 16 = .ok (.iconst 0, 1) := by decide +kernel
theorem DX3_shareOf_17 : decode jX3_shareOf.2.1 17 = .ok (.ireturn, 1) := by decide +kernel
theorem DX3_shareOf_18 : decode jX3_shareOf.2.1 18 = .ok (.aload_n 0, 1) := by decide +kernel
theorem DX3_shareOf_19 : decode jX3_shareOf.2.1 19 = .ok (.getfield 46, 3) := by decide +kernel
theorem DX3_shareOf_22 : decode jX3_shareOf.2.1 22 = .ok (.istore_n 3, 1) := by decide +kernel
theorem DX3_shareOf_23 : decode jX3_shareOf.2.1 23 = .ok (.iconst 0, 1) := by decide +kernel
theorem DX3_shareOf_24 : decode jX3_shareOf.2.1 24 = .ok (.istore 4, 2) := by decide +kernel
theorem DX3_shareOf_26 : decode jX3_shareOf.2.1 26 = .ok (.iconst 0, 1) := by decide +kernel
theorem DX3_shareOf_27 : decode jX3_shareOf.2.1 27 = .ok (.istore 5, 2) := by decide +kernel
theorem DX3_shareOf_29 : decode jX3_shareOf.2.1 29 = .ok (.iload 5, 2) := by decide +kernel
theorem DX3_shareOf_31 : decode jX3_shareOf.2.1 31 = .ok (.aload_n 0, 1) := by decide +kernel
theorem DX3_shareOf_32 : decode jX3_shareOf.2.1 32 = .ok (.getfield 21, 3) := by decide +kernel
theorem DX3_shareOf_35 : decode jX3_shareOf.2.1 35 = .ok (.if_icmp .ge 60, 3) := by decide +kernel
theorem DX3_shareOf_38 : decode jX3_shareOf.2.1 38 = .ok (.aload_n 0, 1) := by decide +kernel
theorem DX3_shareOf_39 : decode jX3_shareOf.2.1 39 = .ok (.getfield 11, 3) := by decide +kernel
theorem DX3_shareOf_42 : decode jX3_shareOf.2.1 42 = .ok (.iload 5, 2) := by decide +kernel
theorem DX3_shareOf_44 : decode jX3_shareOf.2.1 44 = .ok (.aaload, 1) := by decide +kernel
theorem DX3_shareOf_45 : decode jX3_shareOf.2.1 45 = .ok (.astore 6, 2) := by decide +kernel
theorem DX3_shareOf_47 : decode jX3_shareOf.2.1 47 = .ok (.aload 6, 2) := by decide +kernel
theorem DX3_shareOf_49 : decode jX3_shareOf.2.1 49 = .ok (.getfield 28, 3) := by decide +kernel
theorem DX3_shareOf_52 : decode jX3_shareOf.2.1 52 = .ok (.ifCond .eq 37, 3) := by decide +kernel
theorem DX3_shareOf_55 : decode jX3_shareOf.2.1 55 = .ok (.iload_n 3, 1) := by decide +kernel
theorem DX3_shareOf_56 : decode jX3_shareOf.2.1 56 = .ok (.aload_n 0, 1) := by decide +kernel
theorem DX3_shareOf_57 : decode jX3_shareOf.2.1 57 = .ok (.getfield 46, 3) := by decide +kernel
theorem DX3_shareOf_60 : decode jX3_shareOf.2.1 60 = .ok (.aload 6, 2) := by decide +kernel
theorem DX3_shareOf_62 : decode jX3_shareOf.2.1 62 = .ok (.getfield 32, 3) := by decide +kernel
theorem DX3_shareOf_65 : decode jX3_shareOf.2.1 65 = .ok (.imul, 1) := by decide +kernel
theorem DX3_shareOf_66 : decode jX3_shareOf.2.1 66 = .ok (.iload_n 2, 1) := by decide +kernel
theorem DX3_shareOf_67 : decode jX3_shareOf.2.1 67 = .ok (.idiv, 1) := by decide +kernel
theorem DX3_shareOf_68 : decode jX3_shareOf.2.1 68 = .ok (.isub, 1) := by decide +kernel
theorem DX3_shareOf_69 : decode jX3_shareOf.2.1 69 = .ok (.istore_n 3, 1) := by decide +kernel
theorem DX3_shareOf_70 : decode jX3_shareOf.2.1 70 = .ok (.iload 4, 2) := by decide +kernel
theorem DX3_shareOf_72 : decode jX3_shareOf.2.1 72 = .ok (.aload 6, 2) := by decide +kernel
theorem DX3_shareOf_74 : decode jX3_shareOf.2.1 74 = .ok (.aload_n 1, 1) := by decide +kernel
theorem DX3_shareOf_75 : decode jX3_shareOf.2.1 75 = .ok (.invokestatic 49, 3) := by decide +kernel
theorem DX3_shareOf_78 : decode jX3_shareOf.2.1 78 = .ok (.ifCond .eq 7, 3) := by decide +kernel
theorem DX3_shareOf_81 : decode jX3_shareOf.2.1 81 = .ok (.iconst 1, 1) := by decide +kernel
theorem DX3_shareOf_82 : decode jX3_shareOf.2.1 82 = .ok (.goto 4, 3) := by decide +kernel
theorem DX3_shareOf_85 : decode jX3_shareOf.2.1 85 = .ok (.iconst 0, 1) := by decide +kernel
theorem DX3_shareOf_86 : decode jX3_shareOf.2.1 86 = .ok (.iadd, 1) := by decide +kernel
theorem DX3_shareOf_87 : decode jX3_shareOf.2.1 87 = .ok (.istore 4, 2) := by decide +kernel
theorem DX3_shareOf_89 : decode jX3_shareOf.2.1 89 = .ok (.iinc 5 1, 3) := by decide +kernel
theorem DX3_shareOf_92 : decode jX3_shareOf.2.1 92 = .ok (.goto (-63), 3) := by decide +kernel
theorem DX3_shareOf_95 : decode jX3_shareOf.2.1 95 = .ok (.aload_n 0, 1) := by decide +kernel
theorem DX3_shareOf_96 : decode jX3_shareOf.2.1 96 = .ok (.getfield 46, 3) := by decide +kernel
theorem DX3_shareOf_99 : decode jX3_shareOf.2.1 99 = .ok (.aload_n 1, 1) := by decide +kernel
theorem DX3_shareOf_100 : decode jX3_shareOf.2.1 100 = .ok (.getfield 32, 3) := by decide +kernel
theorem DX3_shareOf_103 : decode jX3_shareOf.2.1 103 = .ok (.imul, 1) := by decide +kernel
theorem DX3_shareOf_104 : decode jX3_shareOf.2.1 104 = .ok (.iload_n 2, 1) := by decide +kernel
theorem DX3_shareOf_105 : decode jX3_shareOf.2.1 105 = .ok (.idiv, 1) := by decide +kernel
theorem DX3_shareOf_106 : decode jX3_shareOf.2.1 106 = .ok (.iload 4, 2) := by decide +kernel
theorem DX3_shareOf_108 : decode jX3_shareOf.2.1 108 = .ok (.iload_n 3, 1) := by decide +kernel
theorem DX3_shareOf_109 : decode jX3_shareOf.2.1 109 = .ok (.if_icmp .ge 7, 3) := by decide +kernel
theorem DX3_shareOf_112 : decode jX3_shareOf.2.1 112 = .ok (.iconst 1, 1) := by decide +kernel
theorem DX3_shareOf_113 : decode jX3_shareOf.2.1 113 = .ok (.goto 4, 3) := by decide +kernel
theorem DX3_shareOf_116 : decode jX3_shareOf.2.1 116 = .ok (.iconst 0, 1) := by decide +kernel
theorem DX3_shareOf_117 : decode jX3_shareOf.2.1 117 = .ok (.iadd, 1) := by decide +kernel
theorem DX3_shareOf_118 : decode jX3_shareOf.2.1 118 = .ok (.ireturn, 1) := by decide +kernel
theorem DX3_goesAhead_0 : decode jX3_goesAhead.2.1 0 = .ok (.aload_n 0, 1) := by decide +kernel
theorem DX3_goesAhead_1 : decode jX3_goesAhead.2.1 1 = .ok (.getfield 53, 3) := by decide +kernel
theorem DX3_goesAhead_4 : decode jX3_goesAhead.2.1 4 = .ok (.aload_n 1, 1) := by decide +kernel
theorem DX3_goesAhead_5 : decode jX3_goesAhead.2.1 5 = .ok (.getfield 53, 3) := by decide +kernel
theorem DX3_goesAhead_8 : decode jX3_goesAhead.2.1 8 = .ok (.if_icmp .gt 25, 3) := by decide +kernel
theorem DX3_goesAhead_11 : decode jX3_goesAhead.2.1 11 = .ok (.aload_n 0, 1) := by decide +kernel
theorem DX3_goesAhead_12 : decode jX3_goesAhead.2.1 12 = .ok (.getfield 53, 3) := by decide +kernel
theorem DX3_goesAhead_15 : decode jX3_goesAhead.2.1 15 = .ok (.aload_n 1, 1) := by decide +kernel
theorem DX3_goesAhead_16 : decode jX3_goesAhead.2.1 16 = .ok (.getfield 53, 3) := by decide +kernel
theorem DX3_goesAhead_19 : decode jX3_goesAhead.2.1 19 = .ok (.if_icmp .ne 18, 3) := by decide +kernel
theorem DX3_goesAhead_22 : decode jX3_goesAhead.2.1 22 = .ok (.aload_n 0, 1) := by decide +kernel
theorem DX3_goesAhead_23 : decode jX3_goesAhead.2.1 23 = .ok (.getfield 56, 3) := by decide +kernel
theorem DX3_goesAhead_26 : decode jX3_goesAhead.2.1 26 = .ok (.aload_n 1, 1) := by decide +kernel
theorem DX3_goesAhead_27 : decode jX3_goesAhead.2.1 27 = .ok (.getfield 56, 3) := by decide +kernel
theorem DX3_goesAhead_30 : decode jX3_goesAhead.2.1 30 = .ok (.if_icmp .ge 7, 3) := by decide +kernel
theorem DX3_goesAhead_33 : decode jX3_goesAhead.2.1 33 = .ok (.iconst 1, 1) := by decide +kernel
theorem DX3_goesAhead_34 : decode jX3_goesAhead.2.1 34 = .ok (.goto 4, 3) := by decide +kernel
theorem DX3_goesAhead_37 : decode jX3_goesAhead.2.1 37 = .ok (.iconst 0, 1) := by decide +kernel
theorem DX3_goesAhead_38 : decode jX3_goesAhead.2.1 38 = .ok (.ireturn, 1) := by decide +kernel
theorem DX3_settle_0 : decode jX3_settle.2.1 0 = .ok (.iconst 0, 1) := by decide +kernel
theorem DX3_settle_1 : decode jX3_settle.2.1 1 = .ok (.istore_n 1, 1) := by decide +kernel
theorem DX3_settle_2 : decode jX3_settle.2.1 2 = .ok (.iload_n 1, 1) := by decide +kernel
theorem DX3_settle_3 : decode jX3_settle.2.1 3 = .ok (.aload_n 0, 1) := by decide +kernel
theorem DX3_settle_4 : decode jX3_settle.2.1 4 = .ok (.getfield 21, 3) := by decide +kernel
theorem DX3_settle_7 : decode jX3_settle.2.1 7 = .ok (.if_icmp .ge 25, 3) := by decide +kernel
theorem DX3_settle_10 : decode jX3_settle.2.1 10 = .ok (.aload_n 0, 1) := by decide +kernel
theorem DX3_settle_11 : decode jX3_settle.2.1 11 = .ok (.getfield 17, 3) := by decide +kernel
theorem DX3_settle_14 : decode jX3_settle.2.1 14 = .ok (.iload_n 1, 1) := by decide +kernel
theorem DX3_settle_15 : decode jX3_settle.2.1 15 = .ok (.aload_n 0, 1) := by decide +kernel
theorem DX3_settle_16 : decode jX3_settle.2.1 16 = .ok (.aload_n 0, 1) := by decide +kernel
theorem DX3_settle_17 : decode jX3_settle.2.1 17 = .ok (.getfield 11, 3) := by decide +kernel
theorem DX3_settle_20 : decode jX3_settle.2.1 20 = .ok (.iload_n 1, 1) := by decide +kernel
theorem DX3_settle_21 : decode jX3_settle.2.1 21 = .ok (.aaload, 1) := by decide +kernel
theorem DX3_settle_22 : decode jX3_settle.2.1 22 = .ok (.invokevirtual 59, 3) := by decide +kernel
theorem DX3_settle_25 : decode jX3_settle.2.1 25 = .ok (.iastore, 1) := by decide +kernel
theorem DX3_settle_26 : decode jX3_settle.2.1 26 = .ok (.iinc 1 1, 3) := by decide +kernel
theorem DX3_settle_29 : decode jX3_settle.2.1 29 = .ok (.goto (-27), 3) := by decide +kernel
theorem DX3_settle_32 : decode jX3_settle.2.1 32 = .ok (.iconst 0, 1) := by decide +kernel
theorem DX3_settle_33 : decode jX3_settle.2.1 33 = .ok (.istore_n 1, 1) := by decide +kernel
theorem DX3_settle_34 : decode jX3_settle.2.1 34 = .ok (.iload_n 1, 1) := by decide +kernel
theorem DX3_settle_35 : decode jX3_settle.2.1 35 = .ok (.aload_n 0, 1) := by decide +kernel
theorem DX3_settle_36 : decode jX3_settle.2.1 36 = .ok (.getfield 21, 3) := by decide +kernel
theorem DX3_settle_39 : decode jX3_settle.2.1 39 = .ok (.if_icmp .ge 48, 3) := by decide +kernel
theorem DX3_settle_42 : decode jX3_settle.2.1 42 = .ok (.aload_n 0, 1) := by decide +kernel
theorem DX3_settle_43 : decode jX3_settle.2.1 43 = .ok (.getfield 11, 3) := by decide +kernel
theorem DX3_settle_46 : decode jX3_settle.2.1 46 = .ok (.iload_n 1, 1) := by decide +kernel
theorem DX3_settle_47 : decode jX3_settle.2.1 47 = .ok (.aaload, 1) := by decide +kernel
theorem DX3_settle_48 : decode jX3_settle.2.1 48 = .ok (.dup, 1) := by decide +kernel
theorem DX3_settle_49 : decode jX3_settle.2.1 49 = .ok (.getfield 53, 3) := by decide +kernel
theorem DX3_settle_52 : decode jX3_settle.2.1 52 = .ok (.aload_n 0, 1) := by decide +kernel
theorem DX3_settle_53 : decode jX3_settle.2.1 53 = .ok (.getfield 17, 3) := by decide +kernel
theorem DX3_settle_56 : decode jX3_settle.2.1 56 = .ok (.iload_n 1, 1) := by decide +kernel
theorem DX3_settle_57 : decode jX3_settle.2.1 57 = .ok (.iaload, 1) := by decide +kernel
theorem DX3_settle_58 : decode jX3_settle.2.1 58 = .ok (.aload_n 0, 1) := by decide +kernel
theorem DX3_settle_59 : decode jX3_settle.2.1 59 = .ok (.getfield 11, 3) := by decide +kernel
theorem DX3_settle_62 : decode jX3_settle.2.1 62 = .ok (.iload_n 1, 1) := by decide +kernel
theorem DX3_settle_63 : decode jX3_settle.2.1 63 = .ok (.aaload, 1) := by decide +kernel
theorem DX3_settle_64 : decode jX3_settle.2.1 64 = .ok (.getfield 63, 3) := by decide +kernel
theorem DX3_settle_67 : decode jX3_settle.2.1 67 = .ok (.isub, 1) := by decide +kernel
theorem DX3_settle_68 : decode jX3_settle.2.1 68 = .ok (.iadd, 1) := by decide +kernel
theorem DX3_settle_69 : decode jX3_settle.2.1 69 = .ok (.putfield 53, 3) := by decide +kernel
theorem DX3_settle_72 : decode jX3_settle.2.1 72 = .ok (.aload_n 0, 1) := by decide +kernel
theorem DX3_settle_73 : decode jX3_settle.2.1 73 = .ok (.getfield 11, 3) := by decide +kernel
theorem DX3_settle_76 : decode jX3_settle.2.1 76 = .ok (.iload_n 1, 1) := by decide +kernel
theorem DX3_settle_77 : decode jX3_settle.2.1 77 = .ok (.aaload, 1) := by decide +kernel
theorem DX3_settle_78 : decode jX3_settle.2.1 78 = .ok (.invokevirtual 66, 3) := by decide +kernel
theorem DX3_settle_81 : decode jX3_settle.2.1 81 = .ok (.iinc 1 1, 3) := by decide +kernel
theorem DX3_settle_84 : decode jX3_settle.2.1 84 = .ok (.goto (-50), 3) := by decide +kernel
theorem DX3_settle_87 : decode jX3_settle.2.1 87 = .ok (.return_, 1) := by decide +kernel
theorem DX4_init_0 : decode jX4_init.2.1 0 = .ok (.aload_n 0, 1) := by decide +kernel
theorem DX4_init_1 : decode jX4_init.2.1 1 = .ok (.invokespecial 3, 3) := by decide +kernel
theorem DX4_init_4 : decode jX4_init.2.1 4 = .ok (.aload_n 0, 1) := by decide +kernel
theorem DX4_init_5 : decode jX4_init.2.1 5 = .ok (.bipush 30, 2) := by decide +kernel
theorem DX4_init_7 : decode jX4_init.2.1 7 = .ok (.newarray .int, 2) := by decide +kernel
theorem DX4_init_9 : decode jX4_init.2.1 9 = .ok (.putfield 9, 3) := by decide +kernel
theorem DX4_init_12 : decode jX4_init.2.1 12 = .ok (.aload_n 0, 1) := by decide +kernel
theorem DX4_init_13 : decode jX4_init.2.1 13 = .ok (.bipush 30, 2) := by decide +kernel
theorem DX4_init_15 : decode jX4_init.2.1 15 = .ok (.newarray .int, 2) := by decide +kernel
theorem DX4_init_17 : decode jX4_init.2.1 17 = .ok (.putfield 15, 3) := by decide +kernel
theorem DX4_init_20 : decode jX4_init.2.1 20 = .ok (.aload_n 0, 1) := by decide +kernel
theorem DX4_init_21 : decode jX4_init.2.1 21 = .ok (.bipush 30, 2) := by decide +kernel
theorem DX4_init_23 : decode jX4_init.2.1 23 = .ok (.newarray .boolean, 2) := by decide +kernel
theorem DX4_init_25 : decode jX4_init.2.1 25 = .ok (.putfield 18, 3) := by decide +kernel
theorem DX4_init_28 : decode jX4_init.2.1 28 = .ok (.aload_n 0, 1) := by decide +kernel
theorem DX4_init_29 : decode jX4_init.2.1 29 = .ok (.bipush 30, 2) := by decide +kernel
theorem DX4_init_31 : decode jX4_init.2.1 31 = .ok (.newarray .int, 2) := by decide +kernel
theorem DX4_init_33 : decode jX4_init.2.1 33 = .ok (.putfield 22, 3) := by decide +kernel
theorem DX4_init_36 : decode jX4_init.2.1 36 = .ok (.return_, 1) := by decide +kernel
theorem DX4_isKnown_0 : decode jX4_isKnown.2.1 0 = .ok (.iload_n 1, 1) := by decide +kernel
theorem DX4_isKnown_1 : decode jX4_isKnown.2.1 1 = .ok (.ifCond .lt 21, 3) := by decide +kernel
theorem DX4_isKnown_4 : decode jX4_isKnown.2.1 4 = .ok (.iload_n 1, 1) := by decide +kernel
theorem DX4_isKnown_5 : decode jX4_isKnown.2.1 5 = .ok (.aload_n 0, 1) := by decide +kernel
theorem DX4_isKnown_6 : decode jX4_isKnown.2.1 6 = .ok (.getfield 25, 3) := by decide +kernel
theorem DX4_isKnown_9 : decode jX4_isKnown.2.1 9 = .ok (.if_icmp .ge 13, 3) := by decide +kernel
theorem DX4_isKnown_12 : decode jX4_isKnown.2.1 12 = .ok (.iload_n 1, 1) := by decide +kernel
theorem DX4_isKnown_13 : decode jX4_isKnown.2.1 13 = .ok (.bipush 30, 2) := by decide +kernel
theorem DX4_isKnown_15 : decode jX4_isKnown.2.1 15 = .ok (.if_icmp .ge 7, 3) := by decide +kernel
theorem DX4_isKnown_18 : decode jX4_isKnown.2.1 18 = .ok (.iconst 1, 1) := by decide +kernel
theorem DX4_isKnown_19 : decode jX4_isKnown.2.1 19 = .ok (.goto 4, 3) := by decide +kernel
theorem DX4_isKnown_22 : decode jX4_isKnown.2.1 22 = .ok (.iconst 0, 1) := by decide +kernel
theorem DX4_isKnown_23 : decode jX4_isKnown.2.1 23 = .ok (.ireturn, 1) := by decide +kernel
theorem DX4_birthOf_0 : decode jX4_birthOf.2.1 0 = .ok (.aload_n 0, 1) := by decide +kernel
theorem DX4_birthOf_1 : decode jX4_birthOf.2.1 1 = .ok (.iload_n 1, 1) := by decide +kernel
theorem DX4_birthOf_2 : decode jX4_birthOf.2.1 2 = .ok (.invokevirtual 29, 3) := by decide +kernel
theorem DX4_birthOf_5 : decode jX4_birthOf.2.1 5 = .ok (.ifCond .eq 12, 3) := by decide +kernel
theorem DX4_birthOf_8 : decode jX4_birthOf.2.1 8 = .ok (.aload_n 0, 1) := by decide +kernel
theorem DX4_birthOf_9 : decode jX4_birthOf.2.1 9 = .ok (.getfield 15, 3) := by decide +kernel
theorem DX4_birthOf_12 : decode jX4_birthOf.2.1 12 = .ok (.iload_n 1, 1) := by decide +kernel
theorem DX4_birthOf_13 : decode jX4_birthOf.2.1 13 = .ok (.iaload, 1) := by decide +kernel
theorem DX4_birthOf_14 : decode jX4_birthOf.2.1 14 = .ok (.goto 4, 3) := by decide +kernel
theorem DX4_birthOf_17 : decode jX4_birthOf.2.1 17 = .ok (.iconst 0, 1) := by decide +kernel
theorem DX4_birthOf_18 : decode jX4_birthOf.2.1 18 = .ok (.ireturn, 1) := by decide +kernel
theorem DX4_add_0 : decode jX4_add.2.1 0 = .ok (.aload_n 0, 1) := by decide +kernel
theorem DX4_add_1 : decode jX4_add.2.1 1 = .ok (.getfield 25, 3) := by decide +kernel
theorem DX4_add_4 : decode jX4_add.2.1 4 = .ok (.bipush 30, 2) := by decide +kernel
theorem DX4_add_6 : decode jX4_add.2.1 6 = .ok (.if_icmp .lt 6, 3) := by decide +kernel
theorem DX4_add_9 : decode jX4_add.2.1 9 = .ok (.bipush (-6), 2) := by decide +kernel
theorem DX4_add_11 : decode jX4_add.2.1 11 = .ok (.ireturn, 1) := by decide +kernel
theorem DX4_add_12 : decode jX4_add.2.1 12 = .ok (.aload_n 0, 1) := by decide +kernel
theorem DX4_add_13 : decode jX4_add.2.1 13 = .ok (.getfield 9, 3) := by decide +kernel
theorem DX4_add_16 : decode jX4_add.2.1 16 = .ok (.aload_n 0, 1) := by decide +kernel
theorem DX4_add_17 : decode jX4_add.2.1 17 = .ok (.getfield 25, 3) := by decide +kernel
theorem DX4_add_20 : decode jX4_add.2.1 20 = .ok (.iload_n 1, 1) := by decide +kernel
theorem DX4_add_21 : decode jX4_add.2.1 21 = .ok (.iastore, 1) := by decide +kernel
theorem DX4_add_22 : decode jX4_add.2.1 22 = .ok (.aload_n 0, 1) := by decide +kernel
theorem DX4_add_23 : decode jX4_add.2.1 23 = .ok (.getfield 15, 3) := by decide +kernel
theorem DX4_add_26 : decode jX4_add.2.1 26 = .ok (.aload_n 0, 1) := by decide +kernel
theorem DX4_add_27 : decode jX4_add.2.1 27 = .ok (.getfield 25, 3) := by decide +kernel
theorem DX4_add_30 : decode jX4_add.2.1 30 = .ok (.iload_n 2, 1) := by decide +kernel
theorem DX4_add_31 : decode jX4_add.2.1 31 = .ok (.iastore, 1) := by decide +kernel
theorem DX4_add_32 : decode jX4_add.2.1 32 = .ok (.aload_n 0, 1) := by decide +kernel
theorem DX4_add_33 : decode jX4_add.2.1 33 = .ok (.getfield 18, 3) := by decide +kernel
theorem DX4_add_36 : decode jX4_add.2.1 36 = .ok (.aload_n 0, 1) := by decide +kernel
theorem DX4_add_37 : decode jX4_add.2.1 37 = .ok (.getfield 25, 3) := by decide +kernel
theorem DX4_add_40 : decode jX4_add.2.1 40 = .ok (.iconst 1, 1) := by decide +kernel
theorem DX4_add_41 : decode jX4_add.2.1 41 = .ok (.bastore, 1) := by decide +kernel
theorem DX4_add_42 : decode jX4_add.2.1 42 = .ok (.aload_n 0, 1) := by decide +kernel
theorem DX4_add_43 : decode jX4_add.2.1 43 = .ok (.getfield 22, 3) := by decide +kernel
theorem DX4_add_46 : decode jX4_add.2.1 46 = .ok (.aload_n 0, 1) := by decide +kernel
theorem DX4_add_47 : decode jX4_add.2.1 47 = .ok (.getfield 25, 3) := by decide +kernel
theorem DX4_add_50 : decode jX4_add.2.1 50 = .ok (.iload_n 1, 1) := by decide +kernel
theorem DX4_add_51 : decode jX4_add.2.1 51 = .ok (.iconst (-1), 1) := by decide +kernel
theorem DX4_add_52 : decode jX4_add.2.1 52 = .ok (.if_icmp .ne 7, 3) := by decide +kernel
theorem DX4_add_55 : decode jX4_add.2.1 55 = .ok (.iconst 0, 1) := by decide +kernel
theorem DX4_add_56 : decode jX4_add.2.1 56 = .ok (.goto 7, 3) := by decide +kernel
theorem DX4_add_59 : decode jX4_add.2.1 59 = .ok (.iload_n 2, 1) := by decide +kernel
theorem DX4_add_60 : decode jX4_add.2.1 60 = .ok (.bipush 60, 2) := by decide +kernel
theorem DX4_add_62 : decode jX4_add.2.1 62 = .ok (.iadd, 1) := by decide +kernel
theorem DX4_add_63 : decode jX4_add.2.1 63 = .ok (.bipush 30, 2) := by decide +kernel
theorem DX4_add_65 : decode jX4_add.2.1 65 = .ok (.imul, 1) := by decide +kernel
theorem DX4_add_66 : decode jX4_add.2.1 66 = .ok (.aload_n 0, 1) := by decide +kernel
theorem DX4_add_67 : decode jX4_add.2.1 67 = .ok (.getfield 25, 3) := by decide +kernel
theorem DX4_add_70 : decode jX4_add.2.1 70 = .ok (.iadd, 1) := by decide +kernel
theorem DX4_add_71 : decode jX4_add.2.1 71 = .ok (.iastore, 1) := by decide +kernel
theorem DX4_add_72 : decode jX4_add.2.1 72 = .ok (.aload_n 0, 1) := by decide +kernel
theorem DX4_add_73 : decode jX4_add.2.1 73 = .ok (.dup, 1) := by decide +kernel
theorem DX4_add_74 : decode jX4_add.2.1 74 = .ok (.getfield 25, 3) := by decide +kernel
theorem DX4_add_77 : decode jX4_add.2.1 77 = .ok (.dup_x1, 1) := by decide +kernel
theorem DX4_add_78 : decode jX4_add.2.1 78 = .ok (.iconst 1, 1) := by decide +kernel
theorem DX4_add_79 : decode jX4_add.2.1 79 = .ok (.iadd, 1) := by decide +kernel
theorem DX4_add_80 : decode jX4_add.2.1 80 = .ok (.putfield 25, 3) := by decide +kernel
theorem DX4_add_83 : decode jX4_add.2.1 83 = .ok (.ireturn, 1) := by decide +kernel
theorem DX4_turn_0 : decode jX4_turn.2.1 0 = .ok (.aload_n 0, 1) := by decide +kernel
theorem DX4_turn_1 : decode jX4_turn.2.1 1 = .ok (.iload_n 1, 1) := by decide +kernel
theorem DX4_turn_2 : decode jX4_turn.2.1 2 = .ok (.invokevirtual 29, 3) := by decide +kernel
theorem DX4_turn_5 : decode jX4_turn.2.1 5 = .ok (.ifCond .eq 13, 3) := by decide +kernel
theorem DX4_turn_8 : decode jX4_turn.2.1 8 = .ok (.aload_n 0, 1) := by decide +kernel
theorem DX4_turn_9 : decode jX4_turn.2.1 9 = .ok (.getfield 18, 3) := by decide +kernel
theorem DX4_turn_12 : decode jX4_turn.2.1 12 = .ok (.iload_n 1, 1) := by decide +kernel
theorem DX4_turn_13 : decode jX4_turn.2.1 13 = .ok (.baload, 1) := by decide +kernel
theorem DX4_turn_14 : decode jX4_turn.2.1 14 = .ok (.iload_n 2, 1) := by decide +kernel
theorem DX4_turn_15 : decode jX4_turn.2.1 15 = .ok (.if_icmp .ne 5, 3) := by decide +kernel
theorem DX4_turn_18 : decode jX4_turn.2.1 18 = .ok (.iconst 0, 1) := by decide +kernel
theorem DX4_turn_19 : decode jX4_turn.2.1 19 = .ok (.ireturn, 1) := by decide +kernel
theorem DX4_turn_20 : decode jX4_turn.2.1 20 = .ok (.aload_n 0, 1) := by decide +kernel
theorem DX4_turn_21 : decode jX4_turn.2.1 21 = .ok (.getfield 18, 3) := by decide +kernel
theorem DX4_turn_24 : decode jX4_turn.2.1 24 = .ok (.iload_n 1, 1) := by decide +kernel
theorem DX4_turn_25 : decode jX4_turn.2.1 25 = .ok (.iload_n 2, 1) := by decide +kernel
theorem DX4_turn_26 : decode jX4_turn.2.1 26 = .ok (.bastore, 1) := by decide +kernel
theorem DX4_turn_27 : decode jX4_turn.2.1 27 = .ok (.iconst 1, 1) := by decide +kernel
theorem DX4_turn_28 : decode jX4_turn.2.1 28 = .ok (.ireturn, 1) := by decide +kernel
theorem DX4_firstOfAge_0 : decode jX4_firstOfAge.2.1 0 = .ok (.aload_n 0, 1) := by decide +kernel
theorem DX4_firstOfAge_1 : decode jX4_firstOfAge.2.1 1 = .ok (.iconst (-1), 1) := by decide +kernel
theorem DX4_firstOfAge_2 : decode jX4_firstOfAge.2.1 2 = .ok (.iconst (-1), 1) := by decide +kernel
theorem DX4_firstOfAge_3 : decode jX4_firstOfAge.2.1 3 = .ok (.invokevirtual 33, 3) := by decide +kernel
theorem DX4_firstOfAge_6 : decode jX4_firstOfAge.2.1 6 = .ok (.istore_n 2, 1) := by decide +kernel
theorem DX4_firstOfAge_7 : decode jX4_firstOfAge.2.1 7 = .ok (.iconst 0, 1) := by decide +kernel
theorem DX4_firstOfAge_8 : decode jX4_firstOfAge.2.1 8 = .ok (.istore_n 3, 1) := by decide +kernel
theorem DX4_firstOfAge_9 : decode jX4_firstOfAge.2.1 9 = .ok (.iload_n 3, 1) := by decide +kernel
theorem DX4_firstOfAge_10 : decode jX4_firstOfAge.2.1 10 = .ok (.aload_n 0, 1) := by decide +kernel
theorem DX4_firstOfAge_11 : decode jX4_firstOfAge.2.1 11 = .ok (.getfield 25, 3) := by decide +kernel
theorem DX4_firstOfAge_14 : decode jX4_firstOfAge.2.1 14 = .ok (.if_icmp .ge 47, 3) := by decide +kernel
theorem DX4_firstOfAge_17 : decode jX4_firstOfAge.2.1 17 = .ok (.aload_n 0, 1) := by decide +kernel
theorem DX4_firstOfAge_18 : decode jX4_firstOfAge.2.1 18 = .ok (.iload_n 2, 1) := by decide +kernel
theorem DX4_firstOfAge_19 : decode jX4_firstOfAge.2.1 19 = .ok (.invokevirtual 29, 3) := by decide +kernel
theorem DX4_firstOfAge_22 : decode jX4_firstOfAge.2.1 22 = .ok (.ifCond .eq 39, 3) := by decide +kernel
theorem DX4_firstOfAge_25 : decode jX4_firstOfAge.2.1 25 = .ok (.aload_n 0, 1) := by decide +kernel
theorem DX4_firstOfAge_26 : decode jX4_firstOfAge.2.1 26 = .ok (.getfield 18, 3) := by decide +kernel
theorem DX4_firstOfAge_29 : decode jX4_firstOfAge.2.1 29 = .ok (.iload_n 2, 1) := by decide +kernel
theorem DX4_firstOfAge_30 : decode jX4_firstOfAge.2.1 30 = .ok (.baload, 1) := by decide +kernel
theorem DX4_firstOfAge_31 : decode jX4_firstOfAge.2.1 31 = .ok (.ifCond .eq 18, 3) := by decide +kernel
theorem DX4_firstOfAge_34 : decode jX4_firstOfAge.2.1 34 = .ok (.iload_n 1, 1) := by decide +kernel
theorem DX4_firstOfAge_35 : decode jX4_firstOfAge.2.1 35 = .ok (.aload_n 0, 1) := by decide +kernel
theorem DX4_firstOfAge_36 : decode jX4_firstOfAge.2.1 36 = .ok (.getfield 15, 3) := by decide +kernel
theorem DX4_firstOfAge_39 : decode jX4_firstOfAge.2.1 39 = .ok (.iload_n 2, 1) := by decide +kernel
theorem DX4_firstOfAge_40 : decode jX4_firstOfAge.2.1 40 = .ok (.iaload, 1) := by decide +kernel
theorem DX4_firstOfAge_41 : decode jX4_firstOfAge.2.1 41 = .ok (.isub, 1) := by decide +kernel
theorem DX4_firstOfAge_42 : decode jX4_firstOfAge.2.1 42 = .ok (.bipush 20, 2) := by decide +kernel
theorem DX4_firstOfAge_44 : decode jX4_firstOfAge.2.1 44 = .ok (.if_icmp .lt 5, 3) := by decide +kernel
theorem DX4_firstOfAge_47 : decode jX4_firstOfAge.2.1 47 = .ok (.iload_n 2, 1) := by decide +kernel
theorem DX4_firstOfAge_48 : decode jX4_firstOfAge.2.1 48 = .ok (.ireturn, 1) := by decide +kernel
theorem DX4_firstOfAge_49 : decode jX4_firstOfAge.2.1 49 = .ok (.aload_n 0, 1) := by decide +kernel
theorem DX4_firstOfAge_50 : decode jX4_firstOfAge.2.1 50 = .ok (.iload_n 2, 1) := by decide +kernel
theorem DX4_firstOfAge_51 : decode jX4_firstOfAge.2.1 51 = .ok (.invokevirtual 37, 3) := by decide +kernel
theorem DX4_firstOfAge_54 : decode jX4_firstOfAge.2.1 54 = .ok (.istore_n 2, 1) := by decide +kernel
theorem DX4_firstOfAge_55 : decode jX4_firstOfAge.2.1 55 = .ok (.iinc 3 1, 3) := by decide +kernel
theorem DX4_firstOfAge_58 : decode jX4_firstOfAge.2.1 58 = .ok (.goto (-49), 3) := by decide +kernel
theorem DX4_firstOfAge_61 : decode jX4_firstOfAge.2.1 61 = .ok (.bipush (-9), 2) := by decide +kernel
theorem DX4_firstOfAge_63 : decode jX4_firstOfAge.2.1 63 = .ok (.ireturn, 1) := by decide +kernel
theorem DX4_behind_0 : decode jX4_behind.2.1 0 = .ok (.aload_n 0, 1) := by decide +kernel
theorem DX4_behind_1 : decode jX4_behind.2.1 1 = .ok (.iload_n 1, 1) := by decide +kernel
theorem DX4_behind_2 : decode jX4_behind.2.1 2 = .ok (.iconst (-1), 1) := by decide +kernel
theorem DX4_behind_3 : decode jX4_behind.2.1 3 = .ok (.invokevirtual 33, 3) := by decide +kernel
theorem DX4_behind_6 : decode jX4_behind.2.1 6 = .ok (.istore_n 2, 1) := by decide +kernel
theorem DX4_behind_7 : decode jX4_behind.2.1 7 = .ok (.iload_n 1, 1) := by decide +kernel
theorem DX4_behind_8 : decode jX4_behind.2.1 8 = .ok (.istore_n 3, 1) := by decide +kernel
theorem DX4_behind_9 : decode jX4_behind.2.1 9 = .ok (.iconst 0, 1) := by decide +kernel
theorem DX4_behind_10 : decode jX4_behind.2.1 10 = .ok (.istore 4, 2) := by decide +kernel
theorem DX4_behind_12 : decode jX4_behind.2.1 12 = .ok (.iload 4, 2) := by decide +kernel
theorem DX4_behind_14 : decode jX4_behind.2.1 14 = .ok (.bipush 30, 2) := by decide +kernel
theorem DX4_behind_16 : decode jX4_behind.2.1 16 = .ok (.if_icmp .ge 47, 3) := by decide +kernel
theorem DX4_behind_19 : decode jX4_behind.2.1 19 = .ok (.iload_n 2, 1) := by decide +kernel
theorem DX4_behind_20 : decode jX4_behind.2.1 20 = .ok (.bipush (-9), 2) := by decide +kernel
theorem DX4_behind_22 : decode jX4_behind.2.1 22 = .ok (.if_icmp .ne 41, 3) := by decide +kernel
theorem DX4_behind_25 : decode jX4_behind.2.1 25 = .ok (.aload_n 0, 1) := by decide +kernel
theorem DX4_behind_26 : decode jX4_behind.2.1 26 = .ok (.iload_n 3, 1) := by decide +kernel
theorem DX4_behind_27 : decode jX4_behind.2.1 27 = .ok (.invokevirtual 29, 3) := by decide +kernel
theorem DX4_behind_30 : decode jX4_behind.2.1 30 = .ok (.ifCond .eq 33, 3) := by decide +kernel
theorem DX4_behind_33 : decode jX4_behind.2.1 33 = .ok (.aload_n 0, 1) := by decide +kernel
theorem DX4_behind_34 : decode jX4_behind.2.1 34 = .ok (.aload_n 0, 1) := by decide +kernel
theorem DX4_behind_35 : decode jX4_behind.2.1 35 = .ok (.getfield 9, 3) := by decide +kernel
theorem DX4_behind_38 : decode jX4_behind.2.1 38 = .ok (.iload_n 3, 1) := by decide +kernel
theorem DX4_behind_39 : decode jX4_behind.2.1 39 = .ok (.iaload, 1) := by decide +kernel
theorem DX4_behind_40 : decode jX4_behind.2.1 40 = .ok (.aload_n 0, 1) := by decide +kernel
theorem DX4_behind_41 : decode jX4_behind.2.1 41 = .ok (.getfield 22, 3) := by decide +kernel
theorem DX4_behind_44 : decode jX4_behind.2.1 44 = .ok (.iload_n 3, 1) := by decide +kernel
theorem DX4_behind_45 : decode jX4_behind.2.1 45 = .ok (.iaload, 1) := by decide +kernel
theorem DX4_behind_46 : decode jX4_behind.2.1 46 = .ok (.invokevirtual 33, 3) := by decide +kernel
theorem DX4_behind_49 : decode jX4_behind.2.1 49 = .ok (.istore_n 2, 1) := by decide +kernel
theorem DX4_behind_50 : decode jX4_behind.2.1 50 = .ok (.aload_n 0, 1) := by decide +kernel
theorem DX4_behind_51 : decode jX4_behind.2.1 51 = .ok (.getfield 9, 3) := by decide +kernel
theorem DX4_behind_54 : decode jX4_behind.2.1 54 = .ok (.iload_n 3, 1) := by decide +kernel
theorem DX4_behind_55 : decode jX4_behind.2.1 55 = .ok (.iaload, 1) := by decide +kernel
theorem DX4_behind_56 : decode jX4_behind.2.1 56 = .ok (.istore_n 3, 1) := by decide +kernel
theorem DX4_behind_57 : decode jX4_behind.2.1 57 = .ok (.iinc 4 1, 3) := by decide +kernel
theorem DX4_behind_60 : decode jX4_behind.2.1 60 = .ok (.goto (-48), 3) := by decide +kernel
theorem DX4_behind_63 : decode jX4_behind.2.1 63 = .ok (.iload_n 2, 1) := by decide +kernel
theorem DX4_behind_64 : decode jX4_behind.2.1 64 = .ok (.ireturn, 1) := by decide +kernel
theorem DX4_nextOf_0 : decode jX4_nextOf.2.1 0 = .ok (.bipush (-9), 2) := by decide +kernel
theorem DX4_nextOf_2 : decode jX4_nextOf.2.1 2 = .ok (.istore_n 3, 1) := by decide +kernel
theorem DX4_nextOf_3 : decode jX4_nextOf.2.1 3 = .ok (.iconst 0, 1) := by decide +kernel
theorem DX4_nextOf_4 : decode jX4_nextOf.2.1 4 = .ok (.istore 4, 2) := by decide +kernel
theorem DX4_nextOf_6 : decode jX4_nextOf.2.1 6 = .ok (.iload 4, 2) := by decide +kernel
theorem DX4_nextOf_8 : decode jX4_nextOf.2.1 8 = .ok (.aload_n 0, 1) := by decide +kernel
theorem DX4_nextOf_9 : decode jX4_nextOf.2.1 9 = .ok (.getfield 25, 3) := by decide +kernel
theorem DX4_nextOf_12 : decode jX4_nextOf.2.1 12 = .ok (.if_icmp .ge 68, 3) := by decide +kernel
theorem DX4_nextOf_15 : decode jX4_nextOf.2.1 15 = .ok (.aload_n 0, 1) := by decide +kernel
theorem DX4_nextOf_16 : decode jX4_nextOf.2.1 16 = .ok (.getfield 9, 3) := by decide +kernel
theorem DX4_nextOf_19 : decode jX4_nextOf.2.1 19 = .ok (.iload 4, 2) := by decide +kernel
theorem DX4_nextOf_21 : decode jX4_nextOf.2.1 21 = .ok (.iaload, 1) := by decide +kernel
theorem DX4_nextOf_22 : decode jX4_nextOf.2.1 22 = .ok (.iload_n 1, 1) := by decide +kernel
theorem DX4_nextOf_23 : decode jX4_nextOf.2.1 23 = .ok (.if_icmp .ne 18, 3) := by decide +kernel
theorem DX4_nextOf_26 : decode jX4_nextOf.2.1 26 = .ok (.aload_n 0, 1) := by decide +kernel
theorem DX4_nextOf_27 : decode jX4_nextOf.2.1 27 = .ok (.getfield 22, 3) := by decide +kernel
theorem DX4_nextOf_30 : decode jX4_nextOf.2.1 30 = .ok (.iload 4, 2) := by decide +kernel
theorem DX4_nextOf_32 : decode jX4_nextOf.2.1 32 = .ok (.iaload, 1) := by decide +kernel
theorem DX4_nextOf_33 : decode jX4_nextOf.2.1 33 = .ok (.iload_n 2, 1) := by decide +kernel
theorem DX4_nextOf_34 : decode jX4_nextOf.2.1 34 = .ok (.if_icmp .le 7, 3) := by decide +kernel
theorem DX4_nextOf_37 : decode jX4_nextOf.2.1 37 = .ok (.iconst 1, 1) := by decide +kernel
theorem DX4_nextOf_38 : decode jX4_nextOf.2.1 38 = .ok (.goto 4, 3) := by decide +kernel
theorem DX4_nextOf_41 : decode jX4_nextOf.2.1 41 = .ok (.iconst 0, 1) := by decide +kernel
theorem DX4_nextOf_42 : decode jX4_nextOf.2.1 42 = .ok (.istore 5, 2) := by decide +kernel
theorem DX4_nextOf_44 : decode jX4_nextOf.2.1 44 = .ok (.iload 5, 2) := by decide +kernel
theorem DX4_nextOf_46 : decode jX4_nextOf.2.1 46 = .ok (.ifCond .eq 28, 3) := by decide +kernel
theorem DX4_nextOf_49 : decode jX4_nextOf.2.1 49 = .ok (.iload_n 3, 1) := by decide +kernel
theorem DX4_nextOf_50 : decode jX4_nextOf.2.1 50 = .ok (.bipush (-9), 2) := by decide +kernel
theorem DX4_nextOf_52 : decode jX4_nextOf.2.1 52 = .ok (.if_icmp .eq 19, 3) := by decide +kernel
theorem DX4_nextOf_55 : decode jX4_nextOf.2.1 55 = .ok (.aload_n 0, 1) := by decide +kernel
theorem DX4_nextOf_56 : decode jX4_nextOf.2.1 56 = .ok (.getfield 22, 3) := by decide +kernel
theorem DX4_nextOf_59 : decode jX4_nextOf.2.1 59 = .ok (.iload 4, 2) := by decide +kernel
theorem DX4_nextOf_61 : decode jX4_nextOf.2.1 61 = .ok (.iaload, 1) := by decide +kernel
theorem DX4_nextOf_62 : decode jX4_nextOf.2.1 62 = .ok (.aload_n 0, 1) := by decide +kernel
theorem DX4_nextOf_63 : decode jX4_nextOf.2.1 63 = .ok (.getfield 22, 3) := by decide +kernel
theorem DX4_nextOf_66 : decode jX4_nextOf.2.1 66 = .ok (.iload_n 3, 1) := by decide +kernel
theorem DX4_nextOf_67 : decode jX4_nextOf.2.1 67 = .ok (.iaload, 1) := by decide +kernel
theorem DX4_nextOf_68 : decode jX4_nextOf.2.1 68 = .ok (.if_icmp .ge 6, 3) := by decide +kernel
theorem DX4_nextOf_71 : decode jX4_nextOf.2.1 71 = .ok (.iload 4, 2) := by decide +kernel
theorem DX4_nextOf_73 : decode jX4_nextOf.2.1 73 = .ok (.istore_n 3, 1) := by decide +kernel
theorem DX4_nextOf_74 : decode jX4_nextOf.2.1 74 = .ok (.iinc 4 1, 3) := by decide +kernel
theorem DX4_nextOf_77 : decode jX4_nextOf.2.1 77 = .ok (.goto (-71), 3) := by decide +kernel
theorem DX4_nextOf_80 : decode jX4_nextOf.2.1 80 = .ok (.iload_n 3, 1) := by decide +kernel
theorem DX4_nextOf_81 : decode jX4_nextOf.2.1 81 = .ok (.ireturn, 1) := by decide +kernel
theorem DX5_init_0 : decode jX5_init.2.1 0 = .ok (.aload_n 0, 1) := by decide +kernel
theorem DX5_init_1 : decode jX5_init.2.1 1 = .ok (.invokespecial 3, 3) := by decide +kernel
theorem DX5_init_4 : decode jX5_init.2.1 4 = .ok (.aload_n 0, 1) := by decide +kernel
theorem DX5_init_5 : decode jX5_init.2.1 5 = .ok (.sipush 256, 3) := by decide +kernel
theorem DX5_init_8 : decode jX5_init.2.1 8 = .ok (.newarray .int, 2) := by decide +kernel
theorem DX5_init_10 : decode jX5_init.2.1 10 = .ok (.putfield 11, 3) := by decide +kernel
theorem DX5_init_13 : decode jX5_init.2.1 13 = .ok (.aload_n 0, 1) := by decide +kernel
theorem DX5_init_14 : decode jX5_init.2.1 14 = .ok (.sipush 256, 3) := by decide +kernel
theorem DX5_init_17 : decode jX5_init.2.1 17 = .ok (.newarray .int, 2) := by decide +kernel
theorem DX5_init_19 : decode jX5_init.2.1 19 = .ok (.putfield 15, 3) := by decide +kernel
theorem DX5_init_22 : decode jX5_init.2.1 22 = .ok (.aload_n 0, 1) := by decide +kernel
theorem DX5_init_23 : decode jX5_init.2.1 23 = .ok (.sipush 256, 3) := by decide +kernel
theorem DX5_init_26 : decode jX5_init.2.1 26 = .ok (.newarray .int, 2) := by decide +kernel
theorem DX5_init_28 : decode jX5_init.2.1 28 = .ok (.putfield 18, 3) := by decide +kernel
theorem DX5_init_31 : decode jX5_init.2.1 31 = .ok (.aload_n 0, 1) := by decide +kernel
theorem DX5_init_32 : decode jX5_init.2.1 32 = .ok (.sipush 256, 3) := by decide +kernel
theorem DX5_init_35 : decode jX5_init.2.1 35 = .ok (.newarray .int, 2) := by decide +kernel
theorem DX5_init_37 : decode jX5_init.2.1 37 = .ok (.putfield 21, 3) := by decide +kernel
theorem DX5_init_40 : decode jX5_init.2.1 40 = .ok (.aload_n 0, 1) := by decide +kernel
theorem DX5_init_41 : decode jX5_init.2.1 41 = .ok (.sipush 256, 3) := by decide +kernel
theorem DX5_init_44 : decode jX5_init.2.1 44 = .ok (.newarray .int, 2) := by decide +kernel
theorem DX5_init_46 : decode jX5_init.2.1 46 = .ok (.putfield 24, 3) := by decide +kernel
theorem DX5_init_49 : decode jX5_init.2.1 49 = .ok (.aload_n 0, 1) := by decide +kernel
theorem DX5_init_50 : decode jX5_init.2.1 50 = .ok (.bipush 8, 2) := by decide +kernel
theorem DX5_init_52 : decode jX5_init.2.1 52 = .ok (.newarray .int, 2) := by decide +kernel
theorem DX5_init_54 : decode jX5_init.2.1 54 = .ok (.putfield 27, 3) := by decide +kernel
theorem DX5_init_57 : decode jX5_init.2.1 57 = .ok (.aload_n 0, 1) := by decide +kernel
theorem DX5_init_58 : decode jX5_init.2.1 58 = .ok (.bipush 9, 2) := by decide +kernel
theorem DX5_init_60 : decode jX5_init.2.1 60 = .ok (.newarray .int, 2) := by decide +kernel
theorem DX5_init_62 : decode jX5_init.2.1 62 = .ok (.putfield 30, 3) := by decide +kernel
theorem DX5_init_65 : decode jX5_init.2.1 65 = .ok (.aload_n 0, 1) := by decide +kernel
theorem DX5_init_66 : decode jX5_init.2.1 66 = .ok (.bipush 9, 2) := by decide +kernel
theorem DX5_init_68 : decode jX5_init.2.1 68 = .ok (.newarray .int, 2) := by decide +kernel
theorem DX5_init_70 : decode jX5_init.2.1 70 = .ok (.putfield 33, 3) := by decide +kernel
theorem DX5_init_73 : decode jX5_init.2.1 73 = .ok (.aload_n 0, 1) := by decide +kernel
theorem DX5_init_74 : decode jX5_init.2.1 74 = .ok (.iconst (-1), 1) := by decide +kernel
theorem DX5_init_75 : decode jX5_init.2.1 75 = .ok (.putfield 36, 3) := by decide +kernel
theorem DX5_init_78 : decode jX5_init.2.1 78 = .ok (.aload_n 0, 1) := by decide +kernel
theorem DX5_init_79 : decode jX5_init.2.1 79 = .ok (.iconst (-1), 1) := by decide +kernel
theorem DX5_init_80 : decode jX5_init.2.1 80 = .ok (.putfield 40, 3) := by decide +kernel
theorem DX5_init_83 : decode jX5_init.2.1 83 = .ok (.aload_n 0, 1) := by decide +kernel
theorem DX5_init_84 : decode jX5_init.2.1 84 = .ok (.iconst (-1), 1) := by decide +kernel
theorem DX5_init_85 : decode jX5_init.2.1 85 = .ok (.putfield 43, 3) := by decide +kernel
theorem DX5_init_88 : decode jX5_init.2.1 88 = .ok (.aload_n 0, 1) := by decide +kernel
theorem DX5_init_89 : decode jX5_init.2.1 89 = .ok (.aload_n 1, 1) := by decide +kernel
theorem DX5_init_90 : decode jX5_init.2.1 90 = .ok (.putfield 46, 3) := by decide +kernel
theorem DX5_init_93 : decode jX5_init.2.1 93 = .ok (.return_, 1) := by decide +kernel
theorem DX5_fewestDays_0 : decode jX5_fewestDays.2.1 0 = .ok (.aload_n 0, 1) := by decide +kernel
theorem DX5_fewestDays_1 : decode jX5_fewestDays.2.1 1 = .ok (.getfield 21, 3) := by decide +kernel
theorem DX5_fewestDays_4 : decode jX5_fewestDays.2.1 4 = .ok (.iconst 0, 1) := by decide +kernel
theorem DX5_fewestDays_5 : decode jX5_fewestDays.2.1 5 = .ok (.iaload, 1) := by decide +kernel
theorem DX5_fewestDays_6 : decode jX5_fewestDays.2.1 6 = .ok (.ldc 50, 2) := by decide +kernel
theorem DX5_fewestDays_8 : decode jX5_fewestDays.2.1 8 = .ok (.if_icmp .lt 8, 3) := by decide +kernel
theorem DX5_fewestDays_11 : decode jX5_fewestDays.2.1 11 = .ok (.bipush (-9), 2) := by decide +kernel
theorem DX5_fewestDays_13 : decode jX5_fewestDays.2.1 13 = .ok (.goto 9, 3) := by decide +kernel
theorem DX5_fewestDays_16 : decode jX5_fewestDays.2.1 16 = .ok (.aload_n 0, 1) := by decide +kernel
theorem DX5_fewestDays_17 : decode jX5_fewestDays.2.1 17 = .ok (.getfield 21, 3) := by decide +kernel
theorem DX5_fewestDays_20 : decode jX5_fewestDays.2.1 20 = .ok (.iconst 0, 1) := by decide +kernel
theorem DX5_fewestDays_21 : decode jX5_fewestDays.2.1 21 = .ok (.iaload, 1) := by decide +kernel
theorem DX5_fewestDays_22 : decode jX5_fewestDays.2.1 22 = .ok (.ireturn, 1) := by decide +kernel
theorem DX5_stepAt_0 : decode jX5_stepAt.2.1 0 = .ok (.aload_n 0, 1) := by decide +kernel
theorem DX5_stepAt_1 : decode jX5_stepAt.2.1 1 = .ok (.getfield 21, 3) := by decide +kernel
theorem DX5_stepAt_4 : decode jX5_stepAt.2.1 4 = .ok (.iconst 0, 1) := by decide +kernel
theorem DX5_stepAt_5 : decode jX5_stepAt.2.1 5 = .ok (.iaload, 1) := by decide +kernel
theorem DX5_stepAt_6 : decode jX5_stepAt.2.1 6 = .ok (.ldc 50, 2) := by decide +kernel
theorem DX5_stepAt_8 : decode jX5_stepAt.2.1 8 = .ok (.if_icmp .ge 21, 3) := by decide +kernel
theorem DX5_stepAt_11 : decode jX5_stepAt.2.1 11 = .ok (.iload_n 1, 1) := by decide +kernel
theorem DX5_stepAt_12 : decode jX5_stepAt.2.1 12 = .ok (.ifCond .lt 17, 3) := by decide +kernel
theorem DX5_stepAt_15 : decode jX5_stepAt.2.1 15 = .ok (.iload_n 1, 1) := by decide +kernel
theorem DX5_stepAt_16 : decode jX5_stepAt.2.1 16 = .ok (.aload_n 0, 1) := by decide +kernel
theorem DX5_stepAt_17 : decode jX5_stepAt.2.1 17 = .ok (.getfield 51, 3) := by decide +kernel
theorem DX5_stepAt_20 : decode jX5_stepAt.2.1 20 = .ok (.if_icmp .ge 9, 3) := by decide +kernel
theorem DX5_stepAt_23 : decode jX5_stepAt.2.1 23 = .ok (.iload_n 1, 1) := by decide +kernel
theorem DX5_stepAt_24 : decode jX5_stepAt.2.1 24 = .ok (.bipush 8, 2) := by decide +kernel
theorem DX5_stepAt_26 : decode jX5_stepAt.2.1 26 = .ok (.if_icmp .lt 8, 3) := by decide +kernel
theorem DX5_stepAt_29 : decode jX5_stepAt.2.1 29 = .ok (.bipush (-9), 2) := by decide +kernel
theorem DX5_stepAt_31 : decode jX5_stepAt.2.1 31 = .ok (.goto 9, 3) := by decide +kernel
theorem DX5_stepAt_34 : decode jX5_stepAt.2.1 34 = .ok (.aload_n 0, 1) := by decide +kernel
theorem DX5_stepAt_35 : decode jX5_stepAt.2.1 35 = .ok (.getfield 27, 3) := by decide +kernel
theorem DX5_stepAt_38 : decode jX5_stepAt.2.1 38 = .ok (.iload_n 1, 1) := by decide +kernel
theorem DX5_stepAt_39 : decode jX5_stepAt.2.1 39 = .ok (.iaload, 1) := by decide +kernel
theorem DX5_stepAt_40 : decode jX5_stepAt.2.1 40 = .ok (.ireturn, 1) := by decide +kernel
theorem DX5_see_0 : decode jX5_see.2.1 0 = .ok (.aload_n 0, 1) := by decide +kernel
theorem DX5_see_1 : decode jX5_see.2.1 1 = .ok (.getfield 46, 3) := by decide +kernel
theorem DX5_see_4 : decode jX5_see.2.1 4 = .ok (.getfield 54, 3) := by decide +kernel
theorem DX5_see_7 : decode jX5_see.2.1 7 = .ok (.bipush 8, 2) := by decide +kernel
theorem DX5_see_9 : decode jX5_see.2.1 9 = .ok (.if_icmp .gt 33, 3) := by decide +kernel
theorem DX5_see_12 : decode jX5_see.2.1 12 = .ok (.iload_n 1, 1) := by decide +kernel
theorem DX5_see_13 : decode jX5_see.2.1 13 = .ok (.aload_n 0, 1) := by decide +kernel
theorem DX5_see_14 : decode jX5_see.2.1 14 = .ok (.getfield 36, 3) := by decide +kernel
theorem DX5_see_17 : decode jX5_see.2.1 17 = .ok (.if_icmp .ne 26, 3) := by decide +kernel
theorem DX5_see_20 : decode jX5_see.2.1 20 = .ok (.iload_n 2, 1) := by decide +kernel
theorem DX5_see_21 : decode jX5_see.2.1 21 = .ok (.aload_n 0, 1) := by decide +kernel
theorem DX5_see_22 : decode jX5_see.2.1 22 = .ok (.getfield 40, 3) := by decide +kernel
theorem DX5_see_25 : decode jX5_see.2.1 25 = .ok (.if_icmp .ne 18, 3) := by decide +kernel
theorem DX5_see_28 : decode jX5_see.2.1 28 = .ok (.aload_n 0, 1) := by decide +kernel
theorem DX5_see_29 : decode jX5_see.2.1 29 = .ok (.getfield 46, 3) := by decide +kernel
theorem DX5_see_32 : decode jX5_see.2.1 32 = .ok (.getfield 59, 3) := by decide +kernel
theorem DX5_see_35 : decode jX5_see.2.1 35 = .ok (.aload_n 0, 1) := by decide +kernel
theorem DX5_see_36 : decode jX5_see.2.1 36 = .ok (.getfield 43, 3) := by decide +kernel
theorem DX5_see_39 : decode jX5_see.2.1 39 = .ok (.if_icmp .ne 4, 3) := by decide +kernel
theorem DX5_see_42 : decode jX5_see.2.1 42 = .ok (.return_, 1) := by decide +kernel
theorem DX5_see_43 : decode jX5_see.2.1 43 = .ok (.aload_n 0, 1) := by decide +kernel
theorem DX5_see_44 : decode jX5_see.2.1 44 = .ok (.iload_n 1, 1) := by decide +kernel
theorem DX5_see_45 : decode jX5_see.2.1 45 = .ok (.putfield 36, 3) := by decide +kernel
theorem DX5_see_48 : decode jX5_see.2.1 48 = .ok (.aload_n 0, 1) := by decide +kernel
theorem DX5_see_49 : decode jX5_see.2.1 49 = .ok (.iload_n 2, 1) := by decide +kernel
theorem DX5_see_50 : decode jX5_see.2.1 50 = .ok (.putfield 40, 3) := by decide +kernel
theorem DX5_see_53 : decode jX5_see.2.1 53 = .ok (.aload_n 0, 1) := by decide +kernel
theorem DX5_see_54 : decode jX5_see.2.1 54 = .ok (.aload_n 0, 1) := by decide +kernel
theorem DX5_see_55 : decode jX5_see.2.1 55 = .ok (.getfield 46, 3) := by decide +kernel
theorem DX5_see_58 : decode jX5_see.2.1 58 = .ok (.getfield 59, 3) := by decide +kernel
theorem DX5_see_61 : decode jX5_see.2.1 61 = .ok (.putfield 43, 3) := by decide +kernel
theorem DX5_see_64 : decode jX5_see.2.1 64 = .ok (.aload_n 0, 1) := by decide +kernel
theorem DX5_see_65 : decode jX5_see.2.1 65 = .ok (.aload_n 0, 1) := by decide +kernel
theorem DX5_see_66 : decode jX5_see.2.1 66 = .ok (.getfield 46, 3) := by decide +kernel
theorem DX5_see_69 : decode jX5_see.2.1 69 = .ok (.getfield 54, 3) := by decide +kernel
theorem DX5_see_72 : decode jX5_see.2.1 72 = .ok (.putfield 51, 3) := by decide +kernel
theorem DX5_see_75 : decode jX5_see.2.1 75 = .ok (.aload_n 0, 1) := by decide +kernel
theorem DX5_see_76 : decode jX5_see.2.1 76 = .ok (.invokevirtual 62, 3) := by decide +kernel
theorem DX5_see_79 : decode jX5_see.2.1 79 = .ok (.aload_n 0, 1) := by decide +kernel
theorem DX5_see_80 : decode jX5_see.2.1 80 = .ok (.invokevirtual 65, 3) := by decide +kernel
theorem DX5_see_83 : decode jX5_see.2.1 83 = .ok (.aload_n 0, 1) := by decide +kernel
theorem DX5_see_84 : decode jX5_see.2.1 84 = .ok (.getfield 21, 3) := by decide +kernel
theorem DX5_see_87 : decode jX5_see.2.1 87 = .ok (.iconst 0, 1) := by decide +kernel
theorem DX5_see_88 : decode jX5_see.2.1 88 = .ok (.iaload, 1) := by decide +kernel
theorem DX5_see_89 : decode jX5_see.2.1 89 = .ok (.ldc 50, 2) := by decide +kernel
theorem DX5_see_91 : decode jX5_see.2.1 91 = .ok (.if_icmp .ge 7, 3) := by decide +kernel
theorem DX5_see_94 : decode jX5_see.2.1 94 = .ok (.aload_n 0, 1) := by decide +kernel
theorem DX5_see_95 : decode jX5_see.2.1 95 = .ok (.invokevirtual 68, 3) := by decide +kernel
theorem DX5_see_98 : decode jX5_see.2.1 98 = .ok (.return_, 1) := by decide +kernel
theorem DX5_sumSets_0 : decode jX5_sumSets.2.1 0 = .ok (.aload_n 0, 1) := by decide +kernel
theorem DX5_sumSets_1 : decode jX5_sumSets.2.1 1 = .ok (.iconst 0, 1) := by decide +kernel
theorem DX5_sumSets_2 : decode jX5_sumSets.2.1 2 = .ok (.putfield 71, 3) := by decide +kernel
theorem DX5_sumSets_5 : decode jX5_sumSets.2.1 5 = .ok (.aload_n 0, 1) := by decide +kernel
theorem DX5_sumSets_6 : decode jX5_sumSets.2.1 6 = .ok (.iconst 0, 1) := by decide +kernel
theorem DX5_sumSets_7 : decode jX5_sumSets.2.1 7 = .ok (.putfield 74, 3) := by decide +kernel
theorem DX5_sumSets_10 : decode jX5_sumSets.2.1 10 = .ok (.aload_n 0, 1) := by decide +kernel
theorem DX5_sumSets_11 : decode jX5_sumSets.2.1 11 = .ok (.getfield 11, 3) := by decide +kernel
theorem DX5_sumSets_14 : decode jX5_sumSets.2.1 14 = .ok (.iconst 0, 1) := by decide +kernel
theorem DX5_sumSets_15 : decode jX5_sumSets.2.1 15 = .ok (.aload_n 0, 1) := by decide +kernel
theorem DX5_sumSets_16 : decode jX5_sumSets.2.1 16 = .ok (.getfield 36, 3) := by decide +kernel
theorem DX5_sumSets_19 : decode jX5_sumSets.2.1 19 = .ok (.iastore, 1) := by decide +kernel
theorem DX5_sumSets_20 : decode jX5_sumSets.2.1 20 = .ok (.iconst 0, 1) := by decide +kernel
theorem DX5_sumSets_21 : decode jX5_sumSets.2.1 21 = .ok (.istore_n 1, 1) := by decide +kernel
theorem DX5_sumSets_22 : decode jX5_sumSets.2.1 22 = .ok (.iload_n 1, 1) := by decide +kernel
theorem DX5_sumSets_23 : decode jX5_sumSets.2.1 23 = .ok (.aload_n 0, 1) := by decide +kernel
theorem DX5_sumSets_24 : decode jX5_sumSets.2.1 24 = .ok (.getfield 51, 3) := by decide +kernel
theorem DX5_sumSets_27 : decode jX5_sumSets.2.1 27 = .ok (.if_icmp .ge 196, 3) := by decide +kernel
theorem DX5_sumSets_30 : decode jX5_sumSets.2.1 30 = .ok (.aload_n 0, 1) := by decide +kernel
theorem DX5_sumSets_31 : decode jX5_sumSets.2.1 31 = .ok (.dup, 1) := by decide +kernel
theorem DX5_sumSets_32 : decode jX5_sumSets.2.1 32 = .ok (.getfield 71, 3) := by decide +kernel
theorem DX5_sumSets_35 : decode jX5_sumSets.2.1 35 = .ok (.aload_n 0, 1) := by decide +kernel
theorem DX5_sumSets_36 : decode jX5_sumSets.2.1 36 = .ok (.getfield 46, 3) := by decide +kernel
theorem DX5_sumSets_39 : decode jX5_sumSets.2.1 39 = .ok (.getfield 77, 3) := by decide +kernel
theorem DX5_sumSets_42 : decode jX5_sumSets.2.1 42 = .ok (.iload_n 1, 1) := by decide +kernel
theorem DX5_sumSets_43 : decode jX5_sumSets.2.1 43 = .ok (.iaload, 1) := by decide +kernel
theorem DX5_sumSets_44 : decode jX5_sumSets.2.1 44 = .ok (.ifCond .ne 9, 3) := by decide +kernel
theorem DX5_sumSets_47 : decode jX5_sumSets.2.1 47 = .ok (.iconst 1, 1) := by decide +kernel
theorem DX5_sumSets_48 : decode jX5_sumSets.2.1 48 = .ok (.iload_n 1, 1) := by decide +kernel
theorem DX5_sumSets_49 : decode jX5_sumSets.2.1 49 = .ok (.ishl, 1) := by decide +kernel
theorem DX5_sumSets_50 : decode jX5_sumSets.2.1 50 = .ok (.goto 4, 3) := by decide +kernel
theorem DX5_sumSets_53 : decode jX5_sumSets.2.1 53 = .ok (.iconst 0, 1) := by decide +kernel
theorem DX5_sumSets_54 : decode jX5_sumSets.2.1 54 = .ok (.ior, 1) := by decide +kernel
theorem DX5_sumSets_55 : decode jX5_sumSets.2.1 55 = .ok (.putfield 71, 3) := by decide +kernel
theorem DX5_sumSets_58 : decode jX5_sumSets.2.1 58 = .ok (.aload_n 0, 1) := by decide +kernel
theorem DX5_sumSets_59 : decode jX5_sumSets.2.1 59 = .ok (.dup, 1) := by decide +kernel
theorem DX5_sumSets_60 : decode jX5_sumSets.2.1 60 = .ok (.getfield 74, 3) := by decide +kernel
theorem DX5_sumSets_63 : decode jX5_sumSets.2.1 63 = .ok (.aload_n 0, 1) := by decide +kernel
theorem DX5_sumSets_64 : decode jX5_sumSets.2.1 64 = .ok (.getfield 46, 3) := by decide +kernel
theorem DX5_sumSets_67 : decode jX5_sumSets.2.1 67 = .ok (.getfield 77, 3) := by decide +kernel
theorem DX5_sumSets_70 : decode jX5_sumSets.2.1 70 = .ok (.iload_n 1, 1) := by decide +kernel
theorem DX5_sumSets_71 : decode jX5_sumSets.2.1 71 = .ok (.iaload, 1) := by decide +kernel
theorem DX5_sumSets_72 : decode jX5_sumSets.2.1 72 = .ok (.iconst 2, 1) := by decide +kernel
theorem DX5_sumSets_73 : decode jX5_sumSets.2.1 73 = .ok (.if_icmp .ne 9, 3) := by decide +kernel
theorem DX5_sumSets_76 : decode jX5_sumSets.2.1 76 = .ok (.iconst 1, 1) := by decide +kernel
theorem DX5_sumSets_77 : decode jX5_sumSets.2.1 77 = .ok (.iload_n 1, 1) := by decide +kernel
theorem DX5_sumSets_78 : decode jX5_sumSets.2.1 78 = .ok (.ishl, 1) := by decide +kernel
theorem DX5_sumSets_79 : decode jX5_sumSets.2.1 79 = .ok (.goto 4, 3) := by decide +kernel
theorem DX5_sumSets_82 : decode jX5_sumSets.2.1 82 = .ok (.iconst 0, 1) := by decide +kernel
theorem DX5_sumSets_83 : decode jX5_sumSets.2.1 83 = .ok (.ior, 1) := by decide +kernel
theorem DX5_sumSets_84 : decode jX5_sumSets.2.1 84 = .ok (.putfield 74, 3) := by decide +kernel
theorem DX5_sumSets_87 : decode jX5_sumSets.2.1 87 = .ok (.aload_n 0, 1) := by decide +kernel
theorem DX5_sumSets_88 : decode jX5_sumSets.2.1 88 = .ok (.getfield 46, 3) := by decide +kernel
theorem DX5_sumSets_91 : decode jX5_sumSets.2.1 91 = .ok (.getfield 77, 3) := by decide +kernel
theorem DX5_sumSets_94 : decode jX5_sumSets.2.1 94 = .ok (.iload_n 1, 1) := by decide +kernel
theorem DX5_sumSets_95 : decode jX5_sumSets.2.1 95 = .ok (.iaload, 1) := by decide +kernel
theorem DX5_sumSets_96 : decode jX5_sumSets.2.1 96 = .ok (.iconst 2, 1) := by decide +kernel
theorem DX5_sumSets_97 : decode jX5_sumSets.2.1 97 = .ok (.if_icmp .ne 7, 3) := by decide +kernel
theorem DX5_sumSets_100 : decode jX5_sumSets.2.1 100 = .ok (.iconst 0, 1) := by decide +kernel
theorem DX5_sumSets_101 : decode jX5_sumSets.2.1 101 = .ok (.goto 14, 3) := by decide +kernel
theorem DX5_sumSets_104 : decode jX5_sumSets.2.1 104 = .ok (.iconst 1, 1) := by decide +kernel
theorem DX5_sumSets_105 : decode jX5_sumSets.2.1 105 = .ok (.aload_n 0, 1) := by decide +kernel
theorem DX5_sumSets_106 : decode jX5_sumSets.2.1 106 = .ok (.getfield 46, 3) := by decide +kernel
theorem DX5_sumSets_109 : decode jX5_sumSets.2.1 109 = .ok (.getfield 80, 3) := by decide +kernel
theorem DX5_sumSets_112 : decode jX5_sumSets.2.1 112 = .ok (.iload_n 1, 1) := by decide +kernel
theorem DX5_sumSets_113 : decode jX5_sumSets.2.1 113 = .ok (.iaload, 1) := by decide +kernel
theorem DX5_sumSets_114 : decode jX5_sumSets.2.1 114 = .ok (.ishl, 1) := by decide +kernel
theorem DX5_sumSets_115 : decode jX5_sumSets.2.1 115 = .ok (.istore_n 2, 1) := by decide +kernel
theorem DX5_sumSets_116 : decode jX5_sumSets.2.1 116 = .ok (.iconst 1, 1) := by decide +kernel
theorem DX5_sumSets_117 : decode jX5_sumSets.2.1 117 = .ok (.iload_n 1, 1) := by decide +kernel
theorem DX5_sumSets_118 : decode jX5_sumSets.2.1 118 = .ok (.ishl, 1) := by decide +kernel
theorem DX5_sumSets_119 : decode jX5_sumSets.2.1 119 = .ok (.istore_n 3, 1) := by decide +kernel
theorem DX5_sumSets_120 : decode jX5_sumSets.2.1 120 = .ok (.iload_n 3, 1) := by decide +kernel
theorem DX5_sumSets_121 : decode jX5_sumSets.2.1 121 = .ok (.istore 4, 2) := by decide +kernel
theorem DX5_sumSets_123 : decode jX5_sumSets.2.1 123 = .ok (.iload 4, 2) := by decide +kernel
theorem DX5_sumSets_125 : decode jX5_sumSets.2.1 125 = .ok (.iconst 2, 1) := by decide +kernel
theorem DX5_sumSets_126 : decode jX5_sumSets.2.1 126 = .ok (.iload_n 3, 1) := by decide +kernel
theorem DX5_sumSets_127 : decode jX5_sumSets.2.1 127 = .ok (.imul, 1) := by decide +kernel
theorem DX5_sumSets_128 : decode jX5_sumSets.2.1 128 = .ok (.if_icmp .ge 89, 3) := by decide +kernel
theorem DX5_sumSets_131 : decode jX5_sumSets.2.1 131 = .ok (.iload 4, 2) := by decide +kernel
theorem DX5_sumSets_133 : decode jX5_sumSets.2.1 133 = .ok (.sipush 256, 3) := by decide +kernel
theorem DX5_sumSets_136 : decode jX5_sumSets.2.1 136 = .ok (.if_icmp .ge 81, 3) := by decide +kernel
theorem DX5_sumSets_139 : decode jX5_sumSets.2.1 139 = .ok (.iload 4, 2) := by decide +kernel
theorem DX5_sumSets_141 : decode jX5_sumSets.2.1 141 = .ok (.iload_n 3, 1) := by decide +kernel
theorem DX5_sumSets_142 : decode jX5_sumSets.2.1 142 = .ok (.isub, 1) := by decide +kernel
theorem DX5_sumSets_143 : decode jX5_sumSets.2.1 143 = .ok (.istore 5, 2) := by decide +kernel
theorem DX5_sumSets_145 : decode jX5_sumSets.2.1 145 = .ok (.aload_n 0, 1) := by decide +kernel
theorem DX5_sumSets_146 : decode jX5_sumSets.2.1 146 = .ok (.getfield 11, 3) := by decide +kernel
theorem DX5_sumSets_149 : decode jX5_sumSets.2.1 149 = .ok (.iload 4, 2) := by decide +kernel
theorem DX5_sumSets_151 : decode jX5_sumSets.2.1 151 = .ok (.aload_n 0, 1) := by decide +kernel
theorem DX5_sumSets_152 : decode jX5_sumSets.2.1 152 = .ok (.getfield 11, 3) := by decide +kernel
theorem DX5_sumSets_155 : decode jX5_sumSets.2.1 155 = .ok (.iload 5, 2) := by decide +kernel
theorem DX5_sumSets_157 : decode jX5_sumSets.2.1 157 = .ok (.iaload, 1) := by decide +kernel
theorem DX5_sumSets_158 : decode jX5_sumSets.2.1 158 = .ok (.iload_n 2, 1) := by decide +kernel
theorem DX5_sumSets_159 : decode jX5_sumSets.2.1 159 = .ok (.ixor, 1) := by decide +kernel
theorem DX5_sumSets_160 : decode jX5_sumSets.2.1 160 = .ok (.iastore, 1) := by decide +kernel
theorem DX5_sumSets_161 : decode jX5_sumSets.2.1 161 = .ok (.aload_n 0, 1) := by decide +kernel
theorem DX5_sumSets_162 : decode jX5_sumSets.2.1 162 = .ok (.getfield 15, 3) := by decide +kernel
theorem DX5_sumSets_165 : decode jX5_sumSets.2.1 165 = .ok (.iload 4, 2) := by decide +kernel
theorem DX5_sumSets_167 : decode jX5_sumSets.2.1 167 = .ok (.aload_n 0, 1) := by decide +kernel
theorem DX5_sumSets_168 : decode jX5_sumSets.2.1 168 = .ok (.getfield 15, 3) := by decide +kernel
theorem DX5_sumSets_171 : decode jX5_sumSets.2.1 171 = .ok (.iload 5, 2) := by decide +kernel
theorem DX5_sumSets_173 : decode jX5_sumSets.2.1 173 = .ok (.iaload, 1) := by decide +kernel
theorem DX5_sumSets_174 : decode jX5_sumSets.2.1 174 = .ok (.aload_n 0, 1) := by decide +kernel
theorem DX5_sumSets_175 : decode jX5_sumSets.2.1 175 = .ok (.getfield 46, 3) := by decide +kernel
theorem DX5_sumSets_178 : decode jX5_sumSets.2.1 178 = .ok (.getfield 83, 3) := by decide +kernel
theorem DX5_sumSets_181 : decode jX5_sumSets.2.1 181 = .ok (.iload_n 1, 1) := by decide +kernel
theorem DX5_sumSets_182 : decode jX5_sumSets.2.1 182 = .ok (.iaload, 1) := by decide +kernel
theorem DX5_sumSets_183 : decode jX5_sumSets.2.1 183 = .ok (.iadd, 1) := by decide +kernel
theorem DX5_sumSets_184 : decode jX5_sumSets.2.1 184 = .ok (.iastore, 1) := by decide +kernel
theorem DX5_sumSets_185 : decode jX5_sumSets.2.1 185 = .ok (.aload_n 0, 1) := by decide +kernel
theorem DX5_sumSets_186 : decode jX5_sumSets.2.1 186 = .ok (.getfield 18, 3) := by decide +kernel
theorem DX5_sumSets_189 : decode jX5_sumSets.2.1 189 = .ok (.iload 4, 2) := by decide +kernel
theorem DX5_sumSets_191 : decode jX5_sumSets.2.1 191 = .ok (.aload_n 0, 1) := by decide +kernel
theorem DX5_sumSets_192 : decode jX5_sumSets.2.1 192 = .ok (.getfield 18, 3) := by decide +kernel
theorem DX5_sumSets_195 : decode jX5_sumSets.2.1 195 = .ok (.iload 5, 2) := by decide +kernel
theorem DX5_sumSets_197 : decode jX5_sumSets.2.1 197 = .ok (.iaload, 1) := by decide +kernel
theorem DX5_sumSets_198 : decode jX5_sumSets.2.1 198 = .ok (.aload_n 0, 1) := by decide +kernel
theorem DX5_sumSets_199 : decode jX5_sumSets.2.1 199 = .ok (.getfield 46, 3) := by decide +kernel
theorem DX5_sumSets_202 : decode jX5_sumSets.2.1 202 = .ok (.getfield 86, 3) := by decide +kernel
theorem DX5_sumSets_205 : decode jX5_sumSets.2.1 205 = .ok (.iload_n 1, 1) := by decide +kernel
theorem DX5_sumSets_206 : decode jX5_sumSets.2.1 206 = .ok (.iaload, 1) := by decide +kernel
theorem DX5_sumSets_207 : decode jX5_sumSets.2.1 207 = .ok (.invokestatic 89, 3) := by decide +kernel
theorem DX5_sumSets_210 : decode jX5_sumSets.2.1 210 = .ok (.iastore, 1) := by decide +kernel
theorem DX5_sumSets_211 : decode jX5_sumSets.2.1 211 = .ok (.iinc 4 1, 3) := by decide +kernel
theorem DX5_sumSets_214 : decode jX5_sumSets.2.1 214 = .ok (.goto (-91), 3) := by decide +kernel
theorem DX5_sumSets_217 : decode jX5_sumSets.2.1 217 = .ok (.iinc 1 1, 3) := by decide +kernel
theorem DX5_sumSets_220 : decode jX5_sumSets.2.1 220 = .ok (.goto (-198), 3) := by decide +kernel
theorem DX5_sumSets_223 : decode jX5_sumSets.2.1 223 = .ok (.return_, 1) := by decide +kernel
theorem DX5_measureRests_0 : decode jX5_measureRests.2.1 0 = .ok (.iconst 1, 1) := by decide +kernel
theorem DX5_measureRests_1 : decode jX5_measureRests.2.1 1 = .ok (.aload_n 0, 1) := by decide +kernel
theorem DX5_measureRests_2 : decode jX5_measureRests.2.1 2 = .ok (.getfield 51, 3) := by decide +kernel
theorem DX5_measureRests_5 : decode jX5_measureRests.2.1 5 = .ok (.ishl, 1) := by decide +kernel
theorem DX5_measureRests_6 : decode jX5_measureRests.2.1 6 = .ok (.iconst 1, 1) := by decide +kernel
theorem DX5_measureRests_7 : decode jX5_measureRests.2.1 7 = .ok (.isub, 1) := by decide +kernel
theorem DX5_measureRests_8 : decode jX5_measureRests.2.1 8 = .ok (.istore_n 1, 1) := by decide +kernel
theorem DX5_measureRests_9 : decode jX5_measureRests.2.1 9 = .ok (.aload_n 0, 1) := by decide +kernel
theorem DX5_measureRests_10 : decode jX5_measureRests.2.1 10 = .ok (.getfield 21, 3) := by decide +kernel
theorem DX5_measureRests_13 : decode jX5_measureRests.2.1 13 = .ok (.iload_n 1, 1) := by decide +kernel
theorem DX5_measureRests_14 : decode jX5_measureRests.2.1 14 = .ok (.iconst 0, 1) := by decide +kernel
theorem DX5_measureRests_15 : decode jX5_measureRests.2.1 15 = .ok (.iastore, 1) := by decide +kernel
theorem DX5_measureRests_16 : decode jX5_measureRests.2.1 16 = .ok (.iload_n 1, 1) := by decide +kernel
theorem DX5_measureRests_17 : decode jX5_measureRests.2.1 17 = .ok (.iconst 1, 1) := by decide +kernel
theorem DX5_measureRests_18 : decode jX5_measureRests.2.1 18 = .ok (.isub, 1) := by decide +kernel
theorem DX5_measureRests_19 : decode jX5_measureRests.2.1 19 = .ok (.istore_n 2, 1) := by decide +kernel
theorem DX5_measureRests_20 : decode jX5_measureRests.2.1 20 = .ok (.iload_n 2, 1) := by decide +kernel
theorem DX5_measureRests_21 : decode jX5_measureRests.2.1 21 = .ok (.ifCond .lt 31, 3) := by decide +kernel
theorem DX5_measureRests_24 : decode jX5_measureRests.2.1 24 = .ok (.aload_n 0, 1) := by decide +kernel
theorem DX5_measureRests_25 : decode jX5_measureRests.2.1 25 = .ok (.getfield 24, 3) := by decide +kernel
theorem DX5_measureRests_28 : decode jX5_measureRests.2.1 28 = .ok (.iload_n 2, 1) := by decide +kernel
theorem DX5_measureRests_29 : decode jX5_measureRests.2.1 29 = .ok (.aload_n 0, 1) := by decide +kernel
theorem DX5_measureRests_30 : decode jX5_measureRests.2.1 30 = .ok (.iload_n 2, 1) := by decide +kernel
theorem DX5_measureRests_31 : decode jX5_measureRests.2.1 31 = .ok (.invokevirtual 95, 3) := by decide +kernel
theorem DX5_measureRests_34 : decode jX5_measureRests.2.1 34 = .ok (.iastore, 1) := by decide +kernel
theorem DX5_measureRests_35 : decode jX5_measureRests.2.1 35 = .ok (.aload_n 0, 1) := by decide +kernel
theorem DX5_measureRests_36 : decode jX5_measureRests.2.1 36 = .ok (.getfield 21, 3) := by decide +kernel
theorem DX5_measureRests_39 : decode jX5_measureRests.2.1 39 = .ok (.iload_n 2, 1) := by decide +kernel
theorem DX5_measureRests_40 : decode jX5_measureRests.2.1 40 = .ok (.aload_n 0, 1) := by decide +kernel
theorem DX5_measureRests_41 : decode jX5_measureRests.2.1 41 = .ok (.iload_n 2, 1) := by decide +kernel
theorem DX5_measureRests_42 : decode jX5_measureRests.2.1 42 = .ok (.invokevirtual 99, 3) := by decide +kernel
theorem DX5_measureRests_45 : decode jX5_measureRests.2.1 45 = .ok (.iastore, 1) := by decide +kernel
theorem DX5_measureRests_46 : decode jX5_measureRests.2.1 46 = .ok (.iinc 2 (-1), 3) := by decide +kernel
theorem DX5_measureRests_49 : decode jX5_measureRests.2.1 49 = .ok (.goto (-29), 3) := by decide +kernel
theorem DX5_measureRests_52 : decode jX5_measureRests.2.1 52 = .ok (.return_, 1) := by decide +kernel
theorem DX5_restFrom_0 : decode jX5_restFrom.2.1 0 = .ok (.ldc 50, 2) := by decide +kernel
theorem DX5_restFrom_2 : decode jX5_restFrom.2.1 2 = .ok (.istore_n 2, 1) := by decide +kernel
theorem DX5_restFrom_3 : decode jX5_restFrom.2.1 3 = .ok (.iconst 0, 1) := by decide +kernel
theorem DX5_restFrom_4 : decode jX5_restFrom.2.1 4 = .ok (.istore_n 3, 1) := by decide +kernel
theorem DX5_restFrom_5 : decode jX5_restFrom.2.1 5 = .ok (.iload_n 3, 1) := by decide +kernel
theorem DX5_restFrom_6 : decode jX5_restFrom.2.1 6 = .ok (.aload_n 0, 1) := by decide +kernel
theorem DX5_restFrom_7 : decode jX5_restFrom.2.1 7 = .ok (.getfield 51, 3) := by decide +kernel
theorem DX5_restFrom_10 : decode jX5_restFrom.2.1 10 = .ok (.if_icmp .ge 63, 3) := by decide +kernel
theorem DX5_restFrom_13 : decode jX5_restFrom.2.1 13 = .ok (.aload_n 0, 1) := by decide +kernel
theorem DX5_restFrom_14 : decode jX5_restFrom.2.1 14 = .ok (.iload_n 1, 1) := by decide +kernel
theorem DX5_restFrom_15 : decode jX5_restFrom.2.1 15 = .ok (.iload_n 3, 1) := by decide +kernel
theorem DX5_restFrom_16 : decode jX5_restFrom.2.1 16 = .ok (.invokevirtual 102, 3) := by decide +kernel
theorem DX5_restFrom_19 : decode jX5_restFrom.2.1 19 = .ok (.ifCond .eq 48, 3) := by decide +kernel
theorem DX5_restFrom_22 : decode jX5_restFrom.2.1 22 = .ok (.aload_n 0, 1) := by decide +kernel
theorem DX5_restFrom_23 : decode jX5_restFrom.2.1 23 = .ok (.getfield 46, 3) := by decide +kernel
theorem DX5_restFrom_26 : decode jX5_restFrom.2.1 26 = .ok (.getfield 77, 3) := by decide +kernel
theorem DX5_restFrom_29 : decode jX5_restFrom.2.1 29 = .ok (.iload_n 3, 1) := by decide +kernel
theorem DX5_restFrom_30 : decode jX5_restFrom.2.1 30 = .ok (.iaload, 1) := by decide +kernel
theorem DX5_restFrom_31 : decode jX5_restFrom.2.1 31 = .ok (.iconst 2, 1) := by decide +kernel
theorem DX5_restFrom_32 : decode jX5_restFrom.2.1 32 = .ok (.if_icmp .ne 17, 3) := by decide +kernel
theorem DX5_restFrom_35 : decode jX5_restFrom.2.1 35 = .ok (.aload_n 0, 1) := by decide +kernel
theorem DX5_restFrom_36 : decode jX5_restFrom.2.1 36 = .ok (.getfield 24, 3) := by decide +kernel
theorem DX5_restFrom_39 : decode jX5_restFrom.2.1 39 = .ok (.iload_n 1, 1) := by decide +kernel
theorem DX5_restFrom_40 : decode jX5_restFrom.2.1 40 = .ok (.iaload, 1) := by decide +kernel
theorem DX5_restFrom_41 : decode jX5_restFrom.2.1 41 = .ok (.iconst 2, 1) := by decide +kernel
theorem DX5_restFrom_42 : decode jX5_restFrom.2.1 42 = .ok (.iload_n 3, 1) := by decide +kernel
theorem DX5_restFrom_43 : decode jX5_restFrom.2.1 43 = .ok (.ishl, 1) := by decide +kernel
theorem DX5_restFrom_44 : decode jX5_restFrom.2.1 44 = .ok (.ineg, 1) := by decide +kernel
theorem DX5_restFrom_45 : decode jX5_restFrom.2.1 45 = .ok (.iand, 1) := by decide +kernel
theorem DX5_restFrom_46 : decode jX5_restFrom.2.1 46 = .ok (.goto 4, 3) := by decide +kernel
theorem DX5_restFrom_49 : decode jX5_restFrom.2.1 49 = .ok (.iconst 0, 1) := by decide +kernel
theorem DX5_restFrom_50 : decode jX5_restFrom.2.1 50 = .ok (.istore 4, 2) := by decide +kernel
theorem DX5_restFrom_52 : decode jX5_restFrom.2.1 52 = .ok (.iload_n 2, 1) := by decide +kernel
theorem DX5_restFrom_53 : decode jX5_restFrom.2.1 53 = .ok (.aload_n 0, 1) := by decide +kernel
theorem DX5_restFrom_54 : decode jX5_restFrom.2.1 54 = .ok (.iload_n 1, 1) := by decide +kernel
theorem DX5_restFrom_55 : decode jX5_restFrom.2.1 55 = .ok (.iconst 1, 1) := by decide +kernel
theorem DX5_restFrom_56 : decode jX5_restFrom.2.1 56 = .ok (.iload_n 3, 1) := by decide +kernel
theorem DX5_restFrom_57 : decode jX5_restFrom.2.1 57 = .ok (.ishl, 1) := by decide +kernel
theorem DX5_restFrom_58 : decode jX5_restFrom.2.1 58 = .ok (.iload 4, 2) := by decide +kernel
theorem DX5_restFrom_60 : decode jX5_restFrom.2.1 60 = .ok (.invokevirtual 106, 3) := by decide +kernel
theorem DX5_restFrom_63 : decode jX5_restFrom.2.1 63 = .ok (.invokestatic 110, 3) := by decide +kernel
theorem DX5_restFrom_66 : decode jX5_restFrom.2.1 66 = .ok (.istore_n 2, 1) := by decide +kernel
theorem DX5_restFrom_67 : decode jX5_restFrom.2.1 67 = .ok (.iinc 3 1, 3) := by decide +kernel
theorem DX5_restFrom_70 : decode jX5_restFrom.2.1 70 = .ok (.goto (-65), 3) := by decide +kernel
theorem DX5_restFrom_73 : decode jX5_restFrom.2.1 73 = .ok (.iload_n 2, 1) := by decide +kernel
theorem DX5_restFrom_74 : decode jX5_restFrom.2.1 74 = .ok (.ireturn, 1) := by decide +kernel
theorem DX5_restGrouped_0 : decode jX5_restGrouped.2.1 0 = .ok (.ldc 50, 2) := by decide +kernel
theorem DX5_restGrouped_2 : decode jX5_restGrouped.2.1 2 = .ok (.istore 4, 2) := by decide +kernel
theorem DX5_restGrouped_4 : decode jX5_restGrouped.2.1 4 = .ok (.iload_n 3, 1) := by decide +kernel
theorem DX5_restGrouped_5 : decode jX5_restGrouped.2.1 5 = .ok (.istore 5, 2) := by decide +kernel
theorem DX5_restGrouped_7 : decode jX5_restGrouped.2.1 7 = .ok (.iconst 0, 1) := by decide +kernel
theorem DX5_restGrouped_8 : decode jX5_restGrouped.2.1 8 = .ok (.istore 6, 2) := by decide +kernel
theorem DX5_restGrouped_10 : decode jX5_restGrouped.2.1 10 = .ok (.iload 6, 2) := by decide +kernel
theorem DX5_restGrouped_12 : decode jX5_restGrouped.2.1 12 = .ok (.sipush 256, 3) := by decide +kernel
theorem DX5_restGrouped_15 : decode jX5_restGrouped.2.1 15 = .ok (.if_icmp .ge 69, 3) := by decide +kernel
theorem DX5_restGrouped_18 : decode jX5_restGrouped.2.1 18 = .ok (.iload_n 2, 1) := by decide +kernel
theorem DX5_restGrouped_19 : decode jX5_restGrouped.2.1 19 = .ok (.iload 5, 2) := by decide +kernel
theorem DX5_restGrouped_21 : decode jX5_restGrouped.2.1 21 = .ok (.ior, 1) := by decide +kernel
theorem DX5_restGrouped_22 : decode jX5_restGrouped.2.1 22 = .ok (.istore 7, 2) := by decide +kernel
theorem DX5_restGrouped_24 : decode jX5_restGrouped.2.1 24 = .ok (.aload_n 0, 1) := by decide +kernel
theorem DX5_restGrouped_25 : decode jX5_restGrouped.2.1 25 = .ok (.getfield 15, 3) := by decide +kernel
theorem DX5_restGrouped_28 : decode jX5_restGrouped.2.1 28 = .ok (.iload 7, 2) := by decide +kernel
theorem DX5_restGrouped_30 : decode jX5_restGrouped.2.1 30 = .ok (.iaload, 1) := by decide +kernel
theorem DX5_restGrouped_31 : decode jX5_restGrouped.2.1 31 = .ok (.aload_n 0, 1) := by decide +kernel
theorem DX5_restGrouped_32 : decode jX5_restGrouped.2.1 32 = .ok (.getfield 40, 3) := by decide +kernel
theorem DX5_restGrouped_35 : decode jX5_restGrouped.2.1 35 = .ok (.if_icmp .gt 27, 3) := by decide +kernel
theorem DX5_restGrouped_38 : decode jX5_restGrouped.2.1 38 = .ok (.iload 4, 2) := by decide +kernel
theorem DX5_restGrouped_40 : decode jX5_restGrouped.2.1 40 = .ok (.aload_n 0, 1) := by decide +kernel
theorem DX5_restGrouped_41 : decode jX5_restGrouped.2.1 41 = .ok (.getfield 18, 3) := by decide +kernel
theorem DX5_restGrouped_44 : decode jX5_restGrouped.2.1 44 = .ok (.iload 7, 2) := by decide +kernel
theorem DX5_restGrouped_46 : decode jX5_restGrouped.2.1 46 = .ok (.iaload, 1) := by decide +kernel
theorem DX5_restGrouped_47 : decode jX5_restGrouped.2.1 47 = .ok (.aload_n 0, 1) := by decide +kernel
theorem DX5_restGrouped_48 : decode jX5_restGrouped.2.1 48 = .ok (.getfield 21, 3) := by decide +kernel
theorem DX5_restGrouped_51 : decode jX5_restGrouped.2.1 51 = .ok (.iload_n 1, 1) := by decide +kernel
theorem DX5_restGrouped_52 : decode jX5_restGrouped.2.1 52 = .ok (.iload 7, 2) := by decide +kernel
theorem DX5_restGrouped_54 : decode jX5_restGrouped.2.1 54 = .ok (.ior, 1) := by decide +kernel
theorem DX5_restGrouped_55 : decode jX5_restGrouped.2.1 55 = .ok (.iaload, 1) := by decide +kernel
theorem DX5_restGrouped_56 : decode jX5_restGrouped.2.1 56 = .ok (.iadd, 1) := by decide +kernel
theorem DX5_restGrouped_57 : decode jX5_restGrouped.2.1 57 = .ok (.invokestatic 110, 3) := by decide +kernel
theorem DX5_restGrouped_60 : decode jX5_restGrouped.2.1 60 = .ok (.istore 4, 2) := by decide +kernel
theorem DX5_restGrouped_62 : decode jX5_restGrouped.2.1 62 = .ok (.iload 5, 2) := by decide +kernel
theorem DX5_restGrouped_64 : decode jX5_restGrouped.2.1 64 = .ok (.ifCond .ne 6, 3) := by decide +kernel
theorem DX5_restGrouped_67 : decode jX5_restGrouped.2.1 67 = .ok (.goto 17, 3) := by decide +kernel
theorem DX5_restGrouped_70 : decode jX5_restGrouped.2.1 70 = .ok (.iload 5, 2) := by decide +kernel
theorem DX5_restGrouped_72 : decode jX5_restGrouped.2.1 72 = .ok (.iconst 1, 1) := by decide +kernel
theorem DX5_restGrouped_73 : decode jX5_restGrouped.2.1 73 = .ok (.isub, 1) := by decide +kernel
theorem DX5_restGrouped_74 : decode jX5_restGrouped.2.1 74 = .ok (.iload_n 3, 1) := by decide +kernel
theorem DX5_restGrouped_75 : decode jX5_restGrouped.2.1 75 = .ok (.iand, 1) := by decide +kernel
theorem DX5_restGrouped_76 : decode jX5_restGrouped.2.1 76 = .ok (.istore 5, 2) := by decide +kernel
theorem DX5_restGrouped_78 : decode jX5_restGrouped.2.1 78 = .ok (.iinc 6 1, 3) := by decide +kernel
theorem DX5_restGrouped_81 : decode jX5_restGrouped.2.1 81 = .ok (.goto (-71), 3) := by decide +kernel
theorem DX5_restGrouped_84 : decode jX5_restGrouped.2.1 84 = .ok (.iload 4, 2) := by decide +kernel
theorem DX5_restGrouped_86 : decode jX5_restGrouped.2.1 86 = .ok (.ireturn, 1) := by decide +kernel
theorem DX5_openFrom_0 : decode jX5_openFrom.2.1 0 = .ok (.iconst 0, 1) := by decide +kernel
theorem DX5_openFrom_1 : decode jX5_openFrom.2.1 1 = .ok (.istore_n 2, 1) := by decide +kernel
theorem DX5_openFrom_2 : decode jX5_openFrom.2.1 2 = .ok (.iconst 0, 1) := by decide +kernel
theorem DX5_openFrom_3 : decode jX5_openFrom.2.1 3 = .ok (.istore_n 3, 1) := by decide +kernel
theorem DX5_openFrom_4 : decode jX5_openFrom.2.1 4 = .ok (.iload_n 3, 1) := by decide +kernel
theorem DX5_openFrom_5 : decode jX5_openFrom.2.1 5 = .ok (.aload_n 0, 1) := by decide +kernel
theorem DX5_openFrom_6 : decode jX5_openFrom.2.1 6 = .ok (.getfield 51, 3) := by decide +kernel
theorem DX5_openFrom_9 : decode jX5_openFrom.2.1 9 = .ok (.if_icmp .ge 41, 3) := by decide +kernel
theorem DX5_openFrom_12 : decode jX5_openFrom.2.1 12 = .ok (.iload_n 2, 1) := by decide +kernel
theorem DX5_openFrom_13 : decode jX5_openFrom.2.1 13 = .ok (.aload_n 0, 1) := by decide +kernel
theorem DX5_openFrom_14 : decode jX5_openFrom.2.1 14 = .ok (.getfield 46, 3) := by decide +kernel
theorem DX5_openFrom_17 : decode jX5_openFrom.2.1 17 = .ok (.getfield 77, 3) := by decide +kernel
theorem DX5_openFrom_20 : decode jX5_openFrom.2.1 20 = .ok (.iload_n 3, 1) := by decide +kernel
theorem DX5_openFrom_21 : decode jX5_openFrom.2.1 21 = .ok (.iaload, 1) := by decide +kernel
theorem DX5_openFrom_22 : decode jX5_openFrom.2.1 22 = .ok (.iconst 2, 1) := by decide +kernel
theorem DX5_openFrom_23 : decode jX5_openFrom.2.1 23 = .ok (.if_icmp .ne 18, 3) := by decide +kernel
theorem DX5_openFrom_26 : decode jX5_openFrom.2.1 26 = .ok (.aload_n 0, 1) := by decide +kernel
theorem DX5_openFrom_27 : decode jX5_openFrom.2.1 27 = .ok (.iload_n 1, 1) := by decide +kernel
theorem DX5_openFrom_28 : decode jX5_openFrom.2.1 28 = .ok (.iload_n 3, 1) := by decide +kernel
theorem DX5_openFrom_29 : decode jX5_openFrom.2.1 29 = .ok (.invokevirtual 102, 3) := by decide +kernel
theorem DX5_openFrom_32 : decode jX5_openFrom.2.1 32 = .ok (.ifCond .eq 9, 3) := by decide +kernel
theorem DX5_openFrom_35 : decode jX5_openFrom.2.1 35 = .ok (.iconst 1, 1) := by decide +kernel
theorem DX5_openFrom_36 : decode jX5_openFrom.2.1 36 = .ok (.iload_n 3, 1) := by decide +kernel
theorem DX5_openFrom_37 : decode jX5_openFrom.2.1 37 = .ok (.ishl, 1) := by decide +kernel
theorem DX5_openFrom_38 : decode jX5_openFrom.2.1 38 = .ok (.goto 4, 3) := by decide +kernel
theorem DX5_openFrom_41 : decode jX5_openFrom.2.1 41 = .ok (.iconst 0, 1) := by decide +kernel
theorem DX5_openFrom_42 : decode jX5_openFrom.2.1 42 = .ok (.ior, 1) := by decide +kernel
theorem DX5_openFrom_43 : decode jX5_openFrom.2.1 43 = .ok (.istore_n 2, 1) := by decide +kernel
theorem DX5_openFrom_44 : decode jX5_openFrom.2.1 44 = .ok (.iinc 3 1, 3) := by decide +kernel
theorem DX5_openFrom_47 : decode jX5_openFrom.2.1 47 = .ok (.goto (-43), 3) := by decide +kernel
theorem DX5_openFrom_50 : decode jX5_openFrom.2.1 50 = .ok (.iload_n 2, 1) := by decide +kernel
theorem DX5_openFrom_51 : decode jX5_openFrom.2.1 51 = .ok (.ireturn, 1) := by decide +kernel
theorem DX5_may_0 : decode jX5_may.2.1 0 = .ok (.iconst 1, 1) := by decide +kernel
theorem DX5_may_1 : decode jX5_may.2.1 1 = .ok (.iload_n 2, 1) := by decide +kernel
theorem DX5_may_2 : decode jX5_may.2.1 2 = .ok (.ishl, 1) := by decide +kernel
theorem DX5_may_3 : decode jX5_may.2.1 3 = .ok (.istore_n 3, 1) := by decide +kernel
theorem DX5_may_4 : decode jX5_may.2.1 4 = .ok (.iload_n 1, 1) := by decide +kernel
theorem DX5_may_5 : decode jX5_may.2.1 5 = .ok (.iload_n 3, 1) := by decide +kernel
theorem DX5_may_6 : decode jX5_may.2.1 6 = .ok (.iand, 1) := by decide +kernel
theorem DX5_may_7 : decode jX5_may.2.1 7 = .ok (.ifCond .ne 35, 3) := by decide +kernel
theorem DX5_may_10 : decode jX5_may.2.1 10 = .ok (.aload_n 0, 1) := by decide +kernel
theorem DX5_may_11 : decode jX5_may.2.1 11 = .ok (.getfield 46, 3) := by decide +kernel
theorem DX5_may_14 : decode jX5_may.2.1 14 = .ok (.getfield 113, 3) := by decide +kernel
theorem DX5_may_17 : decode jX5_may.2.1 17 = .ok (.iload_n 2, 1) := by decide +kernel
theorem DX5_may_18 : decode jX5_may.2.1 18 = .ok (.iaload, 1) := by decide +kernel
theorem DX5_may_19 : decode jX5_may.2.1 19 = .ok (.iload_n 1, 1) := by decide +kernel
theorem DX5_may_20 : decode jX5_may.2.1 20 = .ok (.iconst (-1), 1) := by decide +kernel
theorem DX5_may_21 : decode jX5_may.2.1 21 = .ok (.ixor, 1) := by decide +kernel
theorem DX5_may_22 : decode jX5_may.2.1 22 = .ok (.iand, 1) := by decide +kernel
theorem DX5_may_23 : decode jX5_may.2.1 23 = .ok (.ifCond .ne 19, 3) := by decide +kernel
theorem DX5_may_26 : decode jX5_may.2.1 26 = .ok (.aload_n 0, 1) := by decide +kernel
theorem DX5_may_27 : decode jX5_may.2.1 27 = .ok (.getfield 46, 3) := by decide +kernel
theorem DX5_may_30 : decode jX5_may.2.1 30 = .ok (.getfield 83, 3) := by decide +kernel
theorem DX5_may_33 : decode jX5_may.2.1 33 = .ok (.iload_n 2, 1) := by decide +kernel
theorem DX5_may_34 : decode jX5_may.2.1 34 = .ok (.iaload, 1) := by decide +kernel
theorem DX5_may_35 : decode jX5_may.2.1 35 = .ok (.aload_n 0, 1) := by decide +kernel
theorem DX5_may_36 : decode jX5_may.2.1 36 = .ok (.getfield 40, 3) := by decide +kernel
theorem DX5_may_39 : decode jX5_may.2.1 39 = .ok (.if_icmp .le 5, 3) := by decide +kernel
theorem DX5_may_42 : decode jX5_may.2.1 42 = .ok (.iconst 0, 1) := by decide +kernel
theorem DX5_may_43 : decode jX5_may.2.1 43 = .ok (.ireturn, 1) := by decide +kernel
theorem DX5_may_44 : decode jX5_may.2.1 44 = .ok (.iconst 1, 1) := by decide +kernel
theorem DX5_may_45 : decode jX5_may.2.1 45 = .ok (.aload_n 0, 1) := by decide +kernel
theorem DX5_may_46 : decode jX5_may.2.1 46 = .ok (.getfield 46, 3) := by decide +kernel
theorem DX5_may_49 : decode jX5_may.2.1 49 = .ok (.getfield 80, 3) := by decide +kernel
theorem DX5_may_52 : decode jX5_may.2.1 52 = .ok (.iload_n 2, 1) := by decide +kernel
theorem DX5_may_53 : decode jX5_may.2.1 53 = .ok (.iaload, 1) := by decide +kernel
theorem DX5_may_54 : decode jX5_may.2.1 54 = .ok (.ishl, 1) := by decide +kernel
theorem DX5_may_55 : decode jX5_may.2.1 55 = .ok (.istore 4, 2) := by decide +kernel
theorem DX5_may_57 : decode jX5_may.2.1 57 = .ok (.aload_n 0, 1) := by decide +kernel
theorem DX5_may_58 : decode jX5_may.2.1 58 = .ok (.getfield 11, 3) := by decide +kernel
theorem DX5_may_61 : decode jX5_may.2.1 61 = .ok (.iload_n 1, 1) := by decide +kernel
theorem DX5_may_62 : decode jX5_may.2.1 62 = .ok (.iaload, 1) := by decide +kernel
theorem DX5_may_63 : decode jX5_may.2.1 63 = .ok (.iload 4, 2) := by decide +kernel
theorem DX5_may_65 : decode jX5_may.2.1 65 = .ok (.iand, 1) := by decide +kernel
theorem DX5_may_66 : decode jX5_may.2.1 66 = .ok (.ifCond .ne 7, 3) := by decide +kernel
theorem DX5_may_69 : decode jX5_may.2.1 69 = .ok (.iconst 1, 1) := by decide +kernel
theorem DX5_may_70 : decode jX5_may.2.1 70 = .ok (.goto 4, 3) := by decide +kernel
theorem DX5_may_73 : decode jX5_may.2.1 73 = .ok (.iconst 0, 1) := by decide +kernel
theorem DX5_may_74 : decode jX5_may.2.1 74 = .ok (.istore 5, 2) := by decide +kernel
theorem DX5_may_76 : decode jX5_may.2.1 76 = .ok (.aload_n 0, 1) := by decide +kernel
theorem DX5_may_77 : decode jX5_may.2.1 77 = .ok (.getfield 11, 3) := by decide +kernel
theorem DX5_may_80 : decode jX5_may.2.1 80 = .ok (.iload_n 1, 1) := by decide +kernel
theorem DX5_may_81 : decode jX5_may.2.1 81 = .ok (.iaload, 1) := by decide +kernel
theorem DX5_may_82 : decode jX5_may.2.1 82 = .ok (.bipush 15, 2) := by decide +kernel
theorem DX5_may_84 : decode jX5_may.2.1 84 = .ok (.iand, 1) := by decide +kernel
theorem DX5_may_85 : decode jX5_may.2.1 85 = .ok (.iload 4, 2) := by decide +kernel
theorem DX5_may_87 : decode jX5_may.2.1 87 = .ok (.iconst (-1), 1) := by decide +kernel
theorem DX5_may_88 : decode jX5_may.2.1 88 = .ok (.ixor, 1) := by decide +kernel
theorem DX5_may_89 : decode jX5_may.2.1 89 = .ok (.iand, 1) := by decide +kernel
theorem DX5_may_90 : decode jX5_may.2.1 90 = .ok (.invokestatic 116, 3) := by decide +kernel
theorem DX5_may_93 : decode jX5_may.2.1 93 = .ok (.iconst 2, 1) := by decide +kernel
theorem DX5_may_94 : decode jX5_may.2.1 94 = .ok (.if_icmp .lt 7, 3) := by decide +kernel
theorem DX5_may_97 : decode jX5_may.2.1 97 = .ok (.iconst 1, 1) := by decide +kernel
theorem DX5_may_98 : decode jX5_may.2.1 98 = .ok (.goto 4, 3) := by decide +kernel
theorem DX5_may_101 : decode jX5_may.2.1 101 = .ok (.iconst 0, 1) := by decide +kernel
theorem DX5_may_102 : decode jX5_may.2.1 102 = .ok (.istore 6, 2) := by decide +kernel
theorem DX5_may_104 : decode jX5_may.2.1 104 = .ok (.aload_n 0, 1) := by decide +kernel
theorem DX5_may_105 : decode jX5_may.2.1 105 = .ok (.getfield 46, 3) := by decide +kernel
theorem DX5_may_108 : decode jX5_may.2.1 108 = .ok (.getfield 77, 3) := by decide +kernel
theorem DX5_may_111 : decode jX5_may.2.1 111 = .ok (.iload_n 2, 1) := by decide +kernel
theorem DX5_may_112 : decode jX5_may.2.1 112 = .ok (.iaload, 1) := by decide +kernel
theorem DX5_may_113 : decode jX5_may.2.1 113 = .ok (.ifCond .ne 32, 3) := by decide +kernel
theorem DX5_may_116 : decode jX5_may.2.1 116 = .ok (.iload 5, 2) := by decide +kernel
theorem DX5_may_118 : decode jX5_may.2.1 118 = .ok (.ifCond .eq 25, 3) := by decide +kernel
theorem DX5_may_121 : decode jX5_may.2.1 121 = .ok (.iload 6, 2) := by decide +kernel
theorem DX5_may_123 : decode jX5_may.2.1 123 = .ok (.ifCond .ne 16, 3) := by decide +kernel
theorem DX5_may_126 : decode jX5_may.2.1 126 = .ok (.iload_n 1, 1) := by decide +kernel
theorem DX5_may_127 : decode jX5_may.2.1 127 = .ok (.aload_n 0, 1) := by decide +kernel
theorem DX5_may_128 : decode jX5_may.2.1 128 = .ok (.getfield 71, 3) := by decide +kernel
theorem DX5_may_131 : decode jX5_may.2.1 131 = .ok (.iand, 1) := by decide +kernel
theorem DX5_may_132 : decode jX5_may.2.1 132 = .ok (.invokestatic 116, 3) := by decide +kernel
theorem DX5_may_135 : decode jX5_may.2.1 135 = .ok (.iconst 2, 1) := by decide +kernel
theorem DX5_may_136 : decode jX5_may.2.1 136 = .ok (.if_icmp .ge 7, 3) := by decide +kernel
theorem DX5_may_139 : decode jX5_may.2.1 139 = .ok (.iconst 1, 1) := by decide +kernel
theorem DX5_may_140 : decode jX5_may.2.1 140 = .ok (.goto 4, 3) := by decide +kernel
theorem DX5_may_143 : decode jX5_may.2.1 143 = .ok (.iconst 0, 1) := by decide +kernel
theorem DX5_may_144 : decode jX5_may.2.1 144 = .ok (.ireturn, 1) := by decide +kernel
theorem DX5_may_145 : decode jX5_may.2.1 145 = .ok (.aload_n 0, 1) := by decide +kernel
theorem DX5_may_146 : decode jX5_may.2.1 146 = .ok (.getfield 46, 3) := by decide +kernel
theorem DX5_may_149 : decode jX5_may.2.1 149 = .ok (.getfield 77, 3) := by decide +kernel
theorem DX5_may_152 : decode jX5_may.2.1 152 = .ok (.iload_n 2, 1) := by decide +kernel
theorem DX5_may_153 : decode jX5_may.2.1 153 = .ok (.iaload, 1) := by decide +kernel
theorem DX5_may_154 : decode jX5_may.2.1 154 = .ok (.iconst 1, 1) := by decide +kernel
theorem DX5_may_155 : decode jX5_may.2.1 155 = .ok (.if_icmp .ne 35, 3) := by decide +kernel
theorem DX5_may_158 : decode jX5_may.2.1 158 = .ok (.iload 5, 2) := by decide +kernel
theorem DX5_may_160 : decode jX5_may.2.1 160 = .ok (.ifCond .ne 28, 3) := by decide +kernel
theorem DX5_may_163 : decode jX5_may.2.1 163 = .ok (.iload 6, 2) := by decide +kernel
theorem DX5_may_165 : decode jX5_may.2.1 165 = .ok (.ifCond .ne 19, 3) := by decide +kernel
theorem DX5_may_168 : decode jX5_may.2.1 168 = .ok (.aload_n 0, 1) := by decide +kernel
theorem DX5_may_169 : decode jX5_may.2.1 169 = .ok (.getfield 71, 3) := by decide +kernel
theorem DX5_may_172 : decode jX5_may.2.1 172 = .ok (.aload_n 0, 1) := by decide +kernel
theorem DX5_may_173 : decode jX5_may.2.1 173 = .ok (.getfield 74, 3) := by decide +kernel
theorem DX5_may_176 : decode jX5_may.2.1 176 = .ok (.ior, 1) := by decide +kernel
theorem DX5_may_177 : decode jX5_may.2.1 177 = .ok (.iload_n 1, 1) := by decide +kernel
theorem DX5_may_178 : decode jX5_may.2.1 178 = .ok (.iconst (-1), 1) := by decide +kernel
theorem DX5_may_179 : decode jX5_may.2.1 179 = .ok (.ixor, 1) := by decide +kernel
theorem DX5_may_180 : decode jX5_may.2.1 180 = .ok (.iand, 1) := by decide +kernel
theorem DX5_may_181 : decode jX5_may.2.1 181 = .ok (.ifCond .ne 7, 3) := by decide +kernel
theorem DX5_may_184 : decode jX5_may.2.1 184 = .ok (.iconst 1, 1) := by decide +kernel
theorem DX5_may_185 : decode jX5_may.2.1 185 = .ok (.goto 4, 3) := by decide +kernel
theorem DX5_may_188 : decode jX5_may.2.1 188 = .ok (.iconst 0, 1) := by decide +kernel
theorem DX5_may_189 : decode jX5_may.2.1 189 = .ok (.ireturn, 1) := by decide +kernel
theorem DX5_may_190 : decode jX5_may.2.1 190 = .ok (.iload 5, 2) := by decide +kernel
theorem DX5_may_192 : decode jX5_may.2.1 192 = .ok (.ifCond .ne 12, 3) := by decide +kernel
theorem DX5_may_195 : decode jX5_may.2.1 195 = .ok (.iload 6, 2) := by decide +kernel
theorem DX5_may_197 : decode jX5_may.2.1 197 = .ok (.ifCond .eq 7, 3) := by decide +kernel
theorem DX5_may_200 : decode jX5_may.2.1 200 = .ok (.iconst 1, 1) := by decide +kernel
theorem DX5_may_201 : decode jX5_may.2.1 201 = .ok (.goto 4, 3) := by decide +kernel
theorem DX5_may_204 : decode jX5_may.2.1 204 = .ok (.iconst 0, 1) := by decide +kernel
theorem DX5_may_205 : decode jX5_may.2.1 205 = .ok (.ireturn, 1) := by decide +kernel
theorem DX5_chooseRow_0 : decode jX5_chooseRow.2.1 0 = .ok (.iconst 0, 1) := by decide +kernel
theorem DX5_chooseRow_1 : decode jX5_chooseRow.2.1 1 = .ok (.istore_n 1, 1) := by decide +kernel
theorem DX5_chooseRow_2 : decode jX5_chooseRow.2.1 2 = .ok (.iload_n 1, 1) := by decide +kernel
theorem DX5_chooseRow_3 : decode jX5_chooseRow.2.1 3 = .ok (.aload_n 0, 1) := by decide +kernel
theorem DX5_chooseRow_4 : decode jX5_chooseRow.2.1 4 = .ok (.getfield 51, 3) := by decide +kernel
theorem DX5_chooseRow_7 : decode jX5_chooseRow.2.1 7 = .ok (.if_icmp .ge 53, 3) := by decide +kernel
theorem DX5_chooseRow_10 : decode jX5_chooseRow.2.1 10 = .ok (.aload_n 0, 1) := by decide +kernel
theorem DX5_chooseRow_11 : decode jX5_chooseRow.2.1 11 = .ok (.iload_n 1, 1) := by decide +kernel
theorem DX5_chooseRow_12 : decode jX5_chooseRow.2.1 12 = .ok (.invokevirtual 121, 3) := by decide +kernel
theorem DX5_chooseRow_15 : decode jX5_chooseRow.2.1 15 = .ok (.istore_n 2, 1) := by decide +kernel
theorem DX5_chooseRow_16 : decode jX5_chooseRow.2.1 16 = .ok (.aload_n 0, 1) := by decide +kernel
theorem DX5_chooseRow_17 : decode jX5_chooseRow.2.1 17 = .ok (.getfield 27, 3) := by decide +kernel
theorem DX5_chooseRow_20 : decode jX5_chooseRow.2.1 20 = .ok (.iload_n 1, 1) := by decide +kernel
theorem DX5_chooseRow_21 : decode jX5_chooseRow.2.1 21 = .ok (.iload_n 2, 1) := by decide +kernel
theorem DX5_chooseRow_22 : decode jX5_chooseRow.2.1 22 = .ok (.iastore, 1) := by decide +kernel
theorem DX5_chooseRow_23 : decode jX5_chooseRow.2.1 23 = .ok (.aload_n 0, 1) := by decide +kernel
theorem DX5_chooseRow_24 : decode jX5_chooseRow.2.1 24 = .ok (.getfield 30, 3) := by decide +kernel
theorem DX5_chooseRow_27 : decode jX5_chooseRow.2.1 27 = .ok (.iload_n 1, 1) := by decide +kernel
theorem DX5_chooseRow_28 : decode jX5_chooseRow.2.1 28 = .ok (.iconst 1, 1) := by decide +kernel
theorem DX5_chooseRow_29 : decode jX5_chooseRow.2.1 29 = .ok (.iadd, 1) := by decide +kernel
theorem DX5_chooseRow_30 : decode jX5_chooseRow.2.1 30 = .ok (.aload_n 0, 1) := by decide +kernel
theorem DX5_chooseRow_31 : decode jX5_chooseRow.2.1 31 = .ok (.getfield 30, 3) := by decide +kernel
theorem DX5_chooseRow_34 : decode jX5_chooseRow.2.1 34 = .ok (.iload_n 1, 1) := by decide +kernel
theorem DX5_chooseRow_35 : decode jX5_chooseRow.2.1 35 = .ok (.iaload, 1) := by decide +kernel
theorem DX5_chooseRow_36 : decode jX5_chooseRow.2.1 36 = .ok (.iconst 1, 1) := by decide +kernel
theorem DX5_chooseRow_37 : decode jX5_chooseRow.2.1 37 = .ok (.iload_n 2, 1) := by decide +kernel
theorem DX5_chooseRow_38 : decode jX5_chooseRow.2.1 38 = .ok (.ishl, 1) := by decide +kernel
theorem DX5_chooseRow_39 : decode jX5_chooseRow.2.1 39 = .ok (.ior, 1) := by decide +kernel
theorem DX5_chooseRow_40 : decode jX5_chooseRow.2.1 40 = .ok (.iastore, 1) := by decide +kernel
theorem DX5_chooseRow_41 : decode jX5_chooseRow.2.1 41 = .ok (.aload_n 0, 1) := by decide +kernel
theorem DX5_chooseRow_42 : decode jX5_chooseRow.2.1 42 = .ok (.getfield 33, 3) := by decide +kernel
theorem DX5_chooseRow_45 : decode jX5_chooseRow.2.1 45 = .ok (.iload_n 1, 1) := by decide +kernel
theorem DX5_chooseRow_46 : decode jX5_chooseRow.2.1 46 = .ok (.iconst 1, 1) := by decide +kernel
theorem DX5_chooseRow_47 : decode jX5_chooseRow.2.1 47 = .ok (.iadd, 1) := by decide +kernel
theorem DX5_chooseRow_48 : decode jX5_chooseRow.2.1 48 = .ok (.aload_n 0, 1) := by decide +kernel
theorem DX5_chooseRow_49 : decode jX5_chooseRow.2.1 49 = .ok (.iload_n 1, 1) := by decide +kernel
theorem DX5_chooseRow_50 : decode jX5_chooseRow.2.1 50 = .ok (.invokevirtual 124, 3) := by decide +kernel
theorem DX5_chooseRow_53 : decode jX5_chooseRow.2.1 53 = .ok (.iastore, 1) := by decide +kernel
theorem DX5_chooseRow_54 : decode jX5_chooseRow.2.1 54 = .ok (.iinc 1 1, 3) := by decide +kernel
theorem DX5_chooseRow_57 : decode jX5_chooseRow.2.1 57 = .ok (.goto (-55), 3) := by decide +kernel
theorem DX5_chooseRow_60 : decode jX5_chooseRow.2.1 60 = .ok (.return_, 1) := by decide +kernel
theorem DX5_firstOfBest_0 : decode jX5_firstOfBest.2.1 0 = .ok (.iconst 0, 1) := by decide +kernel
theorem DX5_firstOfBest_1 : decode jX5_firstOfBest.2.1 1 = .ok (.istore_n 2, 1) := by decide +kernel
theorem DX5_firstOfBest_2 : decode jX5_firstOfBest.2.1 2 = .ok (.aload_n 0, 1) := by decide +kernel
theorem DX5_firstOfBest_3 : decode jX5_firstOfBest.2.1 3 = .ok (.getfield 51, 3) := by decide +kernel
theorem DX5_firstOfBest_6 : decode jX5_firstOfBest.2.1 6 = .ok (.iconst 1, 1) := by decide +kernel
theorem DX5_firstOfBest_7 : decode jX5_firstOfBest.2.1 7 = .ok (.isub, 1) := by decide +kernel
theorem DX5_firstOfBest_8 : decode jX5_firstOfBest.2.1 8 = .ok (.istore_n 3, 1) := by decide +kernel
theorem DX5_firstOfBest_9 : decode jX5_firstOfBest.2.1 9 = .ok (.iload_n 3, 1) := by decide +kernel
theorem DX5_firstOfBest_10 : decode jX5_firstOfBest.2.1 10 = .ok (.ifCond .lt 40, 3) := by decide +kernel
theorem DX5_firstOfBest_13 : decode jX5_firstOfBest.2.1 13 = .ok (.aload_n 0, 1) := by decide +kernel
theorem DX5_firstOfBest_14 : decode jX5_firstOfBest.2.1 14 = .ok (.aload_n 0, 1) := by decide +kernel
theorem DX5_firstOfBest_15 : decode jX5_firstOfBest.2.1 15 = .ok (.getfield 30, 3) := by decide +kernel
theorem DX5_firstOfBest_18 : decode jX5_firstOfBest.2.1 18 = .ok (.iload_n 1, 1) := by decide +kernel
theorem DX5_firstOfBest_19 : decode jX5_firstOfBest.2.1 19 = .ok (.iaload, 1) := by decide +kernel
theorem DX5_firstOfBest_20 : decode jX5_firstOfBest.2.1 20 = .ok (.iload_n 3, 1) := by decide +kernel
theorem DX5_firstOfBest_21 : decode jX5_firstOfBest.2.1 21 = .ok (.invokevirtual 102, 3) := by decide +kernel
theorem DX5_firstOfBest_24 : decode jX5_firstOfBest.2.1 24 = .ok (.ifCond .eq 20, 3) := by decide +kernel
theorem DX5_firstOfBest_27 : decode jX5_firstOfBest.2.1 27 = .ok (.aload_n 0, 1) := by decide +kernel
theorem DX5_firstOfBest_28 : decode jX5_firstOfBest.2.1 28 = .ok (.iload_n 1, 1) := by decide +kernel
theorem DX5_firstOfBest_29 : decode jX5_firstOfBest.2.1 29 = .ok (.iload_n 3, 1) := by decide +kernel
theorem DX5_firstOfBest_30 : decode jX5_firstOfBest.2.1 30 = .ok (.invokevirtual 127, 3) := by decide +kernel
theorem DX5_firstOfBest_33 : decode jX5_firstOfBest.2.1 33 = .ok (.aload_n 0, 1) := by decide +kernel
theorem DX5_firstOfBest_34 : decode jX5_firstOfBest.2.1 34 = .ok (.getfield 21, 3) := by decide +kernel
theorem DX5_firstOfBest_37 : decode jX5_firstOfBest.2.1 37 = .ok (.iconst 0, 1) := by decide +kernel
theorem DX5_firstOfBest_38 : decode jX5_firstOfBest.2.1 38 = .ok (.iaload, 1) := by decide +kernel
theorem DX5_firstOfBest_39 : decode jX5_firstOfBest.2.1 39 = .ok (.if_icmp .ne 5, 3) := by decide +kernel
theorem DX5_firstOfBest_42 : decode jX5_firstOfBest.2.1 42 = .ok (.iload_n 3, 1) := by decide +kernel
theorem DX5_firstOfBest_43 : decode jX5_firstOfBest.2.1 43 = .ok (.istore_n 2, 1) := by decide +kernel
theorem DX5_firstOfBest_44 : decode jX5_firstOfBest.2.1 44 = .ok (.iinc 3 (-1), 3) := by decide +kernel
theorem DX5_firstOfBest_47 : decode jX5_firstOfBest.2.1 47 = .ok (.goto (-38), 3) := by decide +kernel
theorem DX5_firstOfBest_50 : decode jX5_firstOfBest.2.1 50 = .ok (.iload_n 2, 1) := by decide +kernel
theorem DX5_firstOfBest_51 : decode jX5_firstOfBest.2.1 51 = .ok (.ireturn, 1) := by decide +kernel
theorem DX5_daysWith_0 : decode jX5_daysWith.2.1 0 = .ok (.iconst 1, 1) := by decide +kernel
theorem DX5_daysWith_1 : decode jX5_daysWith.2.1 1 = .ok (.iload_n 2, 1) := by decide +kernel
theorem DX5_daysWith_2 : decode jX5_daysWith.2.1 2 = .ok (.ishl, 1) := by decide +kernel
theorem DX5_daysWith_3 : decode jX5_daysWith.2.1 3 = .ok (.istore_n 3, 1) := by decide +kernel
theorem DX5_daysWith_4 : decode jX5_daysWith.2.1 4 = .ok (.aload_n 0, 1) := by decide +kernel
theorem DX5_daysWith_5 : decode jX5_daysWith.2.1 5 = .ok (.getfield 46, 3) := by decide +kernel
theorem DX5_daysWith_8 : decode jX5_daysWith.2.1 8 = .ok (.getfield 77, 3) := by decide +kernel
theorem DX5_daysWith_11 : decode jX5_daysWith.2.1 11 = .ok (.iload_n 2, 1) := by decide +kernel
theorem DX5_daysWith_12 : decode jX5_daysWith.2.1 12 = .ok (.iaload, 1) := by decide +kernel
theorem DX5_daysWith_13 : decode jX5_daysWith.2.1 13 = .ok (.iconst 2, 1) := by decide +kernel
theorem DX5_daysWith_14 : decode jX5_daysWith.2.1 14 = .ok (.if_icmp .ne 21, 3) := by decide +kernel
theorem DX5_daysWith_17 : decode jX5_daysWith.2.1 17 = .ok (.aload_n 0, 1) := by decide +kernel
theorem DX5_daysWith_18 : decode jX5_daysWith.2.1 18 = .ok (.getfield 24, 3) := by decide +kernel
theorem DX5_daysWith_21 : decode jX5_daysWith.2.1 21 = .ok (.aload_n 0, 1) := by decide +kernel
theorem DX5_daysWith_22 : decode jX5_daysWith.2.1 22 = .ok (.getfield 30, 3) := by decide +kernel
theorem DX5_daysWith_25 : decode jX5_daysWith.2.1 25 = .ok (.iload_n 1, 1) := by decide +kernel
theorem DX5_daysWith_26 : decode jX5_daysWith.2.1 26 = .ok (.iaload, 1) := by decide +kernel
theorem DX5_daysWith_27 : decode jX5_daysWith.2.1 27 = .ok (.iaload, 1) := by decide +kernel
theorem DX5_daysWith_28 : decode jX5_daysWith.2.1 28 = .ok (.iload_n 3, 1) := by decide +kernel
theorem DX5_daysWith_29 : decode jX5_daysWith.2.1 29 = .ok (.iconst (-1), 1) := by decide +kernel
theorem DX5_daysWith_30 : decode jX5_daysWith.2.1 30 = .ok (.ixor, 1) := by decide +kernel
theorem DX5_daysWith_31 : decode jX5_daysWith.2.1 31 = .ok (.iand, 1) := by decide +kernel
theorem DX5_daysWith_32 : decode jX5_daysWith.2.1 32 = .ok (.goto 4, 3) := by decide +kernel
theorem DX5_daysWith_35 : decode jX5_daysWith.2.1 35 = .ok (.iconst 0, 1) := by decide +kernel
theorem DX5_daysWith_36 : decode jX5_daysWith.2.1 36 = .ok (.istore 4, 2) := by decide +kernel
theorem DX5_daysWith_38 : decode jX5_daysWith.2.1 38 = .ok (.aload_n 0, 1) := by decide +kernel
theorem DX5_daysWith_39 : decode jX5_daysWith.2.1 39 = .ok (.getfield 33, 3) := by decide +kernel
theorem DX5_daysWith_42 : decode jX5_daysWith.2.1 42 = .ok (.iload_n 1, 1) := by decide +kernel
theorem DX5_daysWith_43 : decode jX5_daysWith.2.1 43 = .ok (.iaload, 1) := by decide +kernel
theorem DX5_daysWith_44 : decode jX5_daysWith.2.1 44 = .ok (.aload_n 0, 1) := by decide +kernel
theorem DX5_daysWith_45 : decode jX5_daysWith.2.1 45 = .ok (.aload_n 0, 1) := by decide +kernel
theorem DX5_daysWith_46 : decode jX5_daysWith.2.1 46 = .ok (.getfield 30, 3) := by decide +kernel
theorem DX5_daysWith_49 : decode jX5_daysWith.2.1 49 = .ok (.iload_n 1, 1) := by decide +kernel
theorem DX5_daysWith_50 : decode jX5_daysWith.2.1 50 = .ok (.iaload, 1) := by decide +kernel
theorem DX5_daysWith_51 : decode jX5_daysWith.2.1 51 = .ok (.iload_n 3, 1) := by decide +kernel
theorem DX5_daysWith_52 : decode jX5_daysWith.2.1 52 = .ok (.iload 4, 2) := by decide +kernel
theorem DX5_daysWith_54 : decode jX5_daysWith.2.1 54 = .ok (.invokevirtual 106, 3) := by decide +kernel
theorem DX5_daysWith_57 : decode jX5_daysWith.2.1 57 = .ok (.iadd, 1) := by decide +kernel
theorem DX5_daysWith_58 : decode jX5_daysWith.2.1 58 = .ok (.istore 5, 2) := by decide +kernel
theorem DX5_daysWith_60 : decode jX5_daysWith.2.1 60 = .ok (.iload_n 1, 1) := by decide +kernel
theorem DX5_daysWith_61 : decode jX5_daysWith.2.1 61 = .ok (.iconst 1, 1) := by decide +kernel
theorem DX5_daysWith_62 : decode jX5_daysWith.2.1 62 = .ok (.isub, 1) := by decide +kernel
theorem DX5_daysWith_63 : decode jX5_daysWith.2.1 63 = .ok (.istore 6, 2) := by decide +kernel
theorem DX5_daysWith_65 : decode jX5_daysWith.2.1 65 = .ok (.iload 6, 2) := by decide +kernel
theorem DX5_daysWith_67 : decode jX5_daysWith.2.1 67 = .ok (.ifCond .lt 80, 3) := by decide +kernel
theorem DX5_daysWith_70 : decode jX5_daysWith.2.1 70 = .ok (.iload_n 3, 1) := by decide +kernel
theorem DX5_daysWith_71 : decode jX5_daysWith.2.1 71 = .ok (.iconst 1, 1) := by decide +kernel
theorem DX5_daysWith_72 : decode jX5_daysWith.2.1 72 = .ok (.aload_n 0, 1) := by decide +kernel
theorem DX5_daysWith_73 : decode jX5_daysWith.2.1 73 = .ok (.getfield 27, 3) := by decide +kernel
theorem DX5_daysWith_76 : decode jX5_daysWith.2.1 76 = .ok (.iload 6, 2) := by decide +kernel
theorem DX5_daysWith_78 : decode jX5_daysWith.2.1 78 = .ok (.iaload, 1) := by decide +kernel
theorem DX5_daysWith_79 : decode jX5_daysWith.2.1 79 = .ok (.ishl, 1) := by decide +kernel
theorem DX5_daysWith_80 : decode jX5_daysWith.2.1 80 = .ok (.ior, 1) := by decide +kernel
theorem DX5_daysWith_81 : decode jX5_daysWith.2.1 81 = .ok (.istore_n 3, 1) := by decide +kernel
theorem DX5_daysWith_82 : decode jX5_daysWith.2.1 82 = .ok (.aload_n 0, 1) := by decide +kernel
theorem DX5_daysWith_83 : decode jX5_daysWith.2.1 83 = .ok (.getfield 24, 3) := by decide +kernel
theorem DX5_daysWith_86 : decode jX5_daysWith.2.1 86 = .ok (.aload_n 0, 1) := by decide +kernel
theorem DX5_daysWith_87 : decode jX5_daysWith.2.1 87 = .ok (.getfield 30, 3) := by decide +kernel
theorem DX5_daysWith_90 : decode jX5_daysWith.2.1 90 = .ok (.iload 6, 2) := by decide +kernel
theorem DX5_daysWith_92 : decode jX5_daysWith.2.1 92 = .ok (.iaload, 1) := by decide +kernel
theorem DX5_daysWith_93 : decode jX5_daysWith.2.1 93 = .ok (.iaload, 1) := by decide +kernel
theorem DX5_daysWith_94 : decode jX5_daysWith.2.1 94 = .ok (.istore 7, 2) := by decide +kernel
theorem DX5_daysWith_96 : decode jX5_daysWith.2.1 96 = .ok (.iload_n 3, 1) := by decide +kernel
theorem DX5_daysWith_97 : decode jX5_daysWith.2.1 97 = .ok (.iload 7, 2) := by decide +kernel
theorem DX5_daysWith_99 : decode jX5_daysWith.2.1 99 = .ok (.iconst (-1), 1) := by decide +kernel
theorem DX5_daysWith_100 : decode jX5_daysWith.2.1 100 = .ok (.ixor, 1) := by decide +kernel
theorem DX5_daysWith_101 : decode jX5_daysWith.2.1 101 = .ok (.iand, 1) := by decide +kernel
theorem DX5_daysWith_102 : decode jX5_daysWith.2.1 102 = .ok (.ifCond .eq 6, 3) := by decide +kernel
theorem DX5_daysWith_105 : decode jX5_daysWith.2.1 105 = .ok (.goto 42, 3) := by decide +kernel
theorem DX5_daysWith_108 : decode jX5_daysWith.2.1 108 = .ok (.iload 5, 2) := by decide +kernel
theorem DX5_daysWith_110 : decode jX5_daysWith.2.1 110 = .ok (.aload_n 0, 1) := by decide +kernel
theorem DX5_daysWith_111 : decode jX5_daysWith.2.1 111 = .ok (.getfield 33, 3) := by decide +kernel
theorem DX5_daysWith_114 : decode jX5_daysWith.2.1 114 = .ok (.iload 6, 2) := by decide +kernel
theorem DX5_daysWith_116 : decode jX5_daysWith.2.1 116 = .ok (.iaload, 1) := by decide +kernel
theorem DX5_daysWith_117 : decode jX5_daysWith.2.1 117 = .ok (.aload_n 0, 1) := by decide +kernel
theorem DX5_daysWith_118 : decode jX5_daysWith.2.1 118 = .ok (.aload_n 0, 1) := by decide +kernel
theorem DX5_daysWith_119 : decode jX5_daysWith.2.1 119 = .ok (.getfield 30, 3) := by decide +kernel
theorem DX5_daysWith_122 : decode jX5_daysWith.2.1 122 = .ok (.iload 6, 2) := by decide +kernel
theorem DX5_daysWith_124 : decode jX5_daysWith.2.1 124 = .ok (.iaload, 1) := by decide +kernel
theorem DX5_daysWith_125 : decode jX5_daysWith.2.1 125 = .ok (.iload_n 3, 1) := by decide +kernel
theorem DX5_daysWith_126 : decode jX5_daysWith.2.1 126 = .ok (.iload 7, 2) := by decide +kernel
theorem DX5_daysWith_128 : decode jX5_daysWith.2.1 128 = .ok (.iload_n 3, 1) := by decide +kernel
theorem DX5_daysWith_129 : decode jX5_daysWith.2.1 129 = .ok (.iconst (-1), 1) := by decide +kernel
theorem DX5_daysWith_130 : decode jX5_daysWith.2.1 130 = .ok (.ixor, 1) := by decide +kernel
theorem DX5_daysWith_131 : decode jX5_daysWith.2.1 131 = .ok (.iand, 1) := by decide +kernel
theorem DX5_daysWith_132 : decode jX5_daysWith.2.1 132 = .ok (.invokevirtual 106, 3) := by decide +kernel
theorem DX5_daysWith_135 : decode jX5_daysWith.2.1 135 = .ok (.iadd, 1) := by decide +kernel
theorem DX5_daysWith_136 : decode jX5_daysWith.2.1 136 = .ok (.invokestatic 110, 3) := by decide +kernel
theorem DX5_daysWith_139 : decode jX5_daysWith.2.1 139 = .ok (.istore 5, 2) := by decide +kernel
theorem DX5_daysWith_141 : decode jX5_daysWith.2.1 141 = .ok (.iinc 6 (-1), 3) := by decide +kernel
theorem DX5_daysWith_144 : decode jX5_daysWith.2.1 144 = .ok (.goto (-79), 3) := by decide +kernel
theorem DX5_daysWith_147 : decode jX5_daysWith.2.1 147 = .ok (.iload 5, 2) := by decide +kernel
theorem DX5_daysWith_149 : decode jX5_daysWith.2.1 149 = .ok (.ireturn, 1) := by decide +kernel
theorem DX5_spentWith_0 : decode jX5_spentWith.2.1 0 = .ok (.iconst 1, 1) := by decide +kernel
theorem DX5_spentWith_1 : decode jX5_spentWith.2.1 1 = .ok (.aload_n 0, 1) := by decide +kernel
theorem DX5_spentWith_2 : decode jX5_spentWith.2.1 2 = .ok (.getfield 27, 3) := by decide +kernel
theorem DX5_spentWith_5 : decode jX5_spentWith.2.1 5 = .ok (.iload_n 1, 1) := by decide +kernel
theorem DX5_spentWith_6 : decode jX5_spentWith.2.1 6 = .ok (.iaload, 1) := by decide +kernel
theorem DX5_spentWith_7 : decode jX5_spentWith.2.1 7 = .ok (.ishl, 1) := by decide +kernel
theorem DX5_spentWith_8 : decode jX5_spentWith.2.1 8 = .ok (.istore_n 2, 1) := by decide +kernel
theorem DX5_spentWith_9 : decode jX5_spentWith.2.1 9 = .ok (.aload_n 0, 1) := by decide +kernel
theorem DX5_spentWith_10 : decode jX5_spentWith.2.1 10 = .ok (.getfield 33, 3) := by decide +kernel
theorem DX5_spentWith_13 : decode jX5_spentWith.2.1 13 = .ok (.iload_n 1, 1) := by decide +kernel
theorem DX5_spentWith_14 : decode jX5_spentWith.2.1 14 = .ok (.iaload, 1) := by decide +kernel
theorem DX5_spentWith_15 : decode jX5_spentWith.2.1 15 = .ok (.aload_n 0, 1) := by decide +kernel
theorem DX5_spentWith_16 : decode jX5_spentWith.2.1 16 = .ok (.getfield 18, 3) := by decide +kernel
theorem DX5_spentWith_19 : decode jX5_spentWith.2.1 19 = .ok (.iload_n 2, 1) := by decide +kernel
theorem DX5_spentWith_20 : decode jX5_spentWith.2.1 20 = .ok (.iaload, 1) := by decide +kernel
theorem DX5_spentWith_21 : decode jX5_spentWith.2.1 21 = .ok (.iadd, 1) := by decide +kernel
theorem DX5_spentWith_22 : decode jX5_spentWith.2.1 22 = .ok (.istore_n 3, 1) := by decide +kernel
theorem DX5_spentWith_23 : decode jX5_spentWith.2.1 23 = .ok (.iload_n 1, 1) := by decide +kernel
theorem DX5_spentWith_24 : decode jX5_spentWith.2.1 24 = .ok (.iconst 1, 1) := by decide +kernel
theorem DX5_spentWith_25 : decode jX5_spentWith.2.1 25 = .ok (.isub, 1) := by decide +kernel
theorem DX5_spentWith_26 : decode jX5_spentWith.2.1 26 = .ok (.istore 4, 2) := by decide +kernel
theorem DX5_spentWith_28 : decode jX5_spentWith.2.1 28 = .ok (.iload 4, 2) := by decide +kernel
theorem DX5_spentWith_30 : decode jX5_spentWith.2.1 30 = .ok (.ifCond .lt 75, 3) := by decide +kernel
theorem DX5_spentWith_33 : decode jX5_spentWith.2.1 33 = .ok (.iload_n 2, 1) := by decide +kernel
theorem DX5_spentWith_34 : decode jX5_spentWith.2.1 34 = .ok (.iconst 1, 1) := by decide +kernel
theorem DX5_spentWith_35 : decode jX5_spentWith.2.1 35 = .ok (.aload_n 0, 1) := by decide +kernel
theorem DX5_spentWith_36 : decode jX5_spentWith.2.1 36 = .ok (.getfield 27, 3) := by decide +kernel
theorem DX5_spentWith_39 : decode jX5_spentWith.2.1 39 = .ok (.iload 4, 2) := by decide +kernel
theorem DX5_spentWith_41 : decode jX5_spentWith.2.1 41 = .ok (.iaload, 1) := by decide +kernel
theorem DX5_spentWith_42 : decode jX5_spentWith.2.1 42 = .ok (.ishl, 1) := by decide +kernel
theorem DX5_spentWith_43 : decode jX5_spentWith.2.1 43 = .ok (.ior, 1) := by decide +kernel
theorem DX5_spentWith_44 : decode jX5_spentWith.2.1 44 = .ok (.istore_n 2, 1) := by decide +kernel
theorem DX5_spentWith_45 : decode jX5_spentWith.2.1 45 = .ok (.iload_n 2, 1) := by decide +kernel
theorem DX5_spentWith_46 : decode jX5_spentWith.2.1 46 = .ok (.aload_n 0, 1) := by decide +kernel
theorem DX5_spentWith_47 : decode jX5_spentWith.2.1 47 = .ok (.getfield 24, 3) := by decide +kernel
theorem DX5_spentWith_50 : decode jX5_spentWith.2.1 50 = .ok (.aload_n 0, 1) := by decide +kernel
theorem DX5_spentWith_51 : decode jX5_spentWith.2.1 51 = .ok (.getfield 30, 3) := by decide +kernel
theorem DX5_spentWith_54 : decode jX5_spentWith.2.1 54 = .ok (.iload 4, 2) := by decide +kernel
theorem DX5_spentWith_56 : decode jX5_spentWith.2.1 56 = .ok (.iaload, 1) := by decide +kernel
theorem DX5_spentWith_57 : decode jX5_spentWith.2.1 57 = .ok (.iaload, 1) := by decide +kernel
theorem DX5_spentWith_58 : decode jX5_spentWith.2.1 58 = .ok (.iconst (-1), 1) := by decide +kernel
theorem DX5_spentWith_59 : decode jX5_spentWith.2.1 59 = .ok (.ixor, 1) := by decide +kernel
theorem DX5_spentWith_60 : decode jX5_spentWith.2.1 60 = .ok (.iand, 1) := by decide +kernel
theorem DX5_spentWith_61 : decode jX5_spentWith.2.1 61 = .ok (.ifCond .ne 44, 3) := by decide +kernel
theorem DX5_spentWith_64 : decode jX5_spentWith.2.1 64 = .ok (.aload_n 0, 1) := by decide +kernel
theorem DX5_spentWith_65 : decode jX5_spentWith.2.1 65 = .ok (.getfield 15, 3) := by decide +kernel
theorem DX5_spentWith_68 : decode jX5_spentWith.2.1 68 = .ok (.iload_n 2, 1) := by decide +kernel
theorem DX5_spentWith_69 : decode jX5_spentWith.2.1 69 = .ok (.iaload, 1) := by decide +kernel
theorem DX5_spentWith_70 : decode jX5_spentWith.2.1 70 = .ok (.aload_n 0, 1) := by decide +kernel
theorem DX5_spentWith_71 : decode jX5_spentWith.2.1 71 = .ok (.getfield 40, 3) := by decide +kernel
theorem DX5_spentWith_74 : decode jX5_spentWith.2.1 74 = .ok (.if_icmp .le 6, 3) := by decide +kernel
theorem DX5_spentWith_77 : decode jX5_spentWith.2.1 77 = .ok (.goto 28, 3) := by decide +kernel
theorem DX5_spentWith_80 : decode jX5_spentWith.2.1 80 = .ok (.iload_n 3, 1) := by decide +kernel
theorem DX5_spentWith_81 : decode jX5_spentWith.2.1 81 = .ok (.aload_n 0, 1) := by decide +kernel
theorem DX5_spentWith_82 : decode jX5_spentWith.2.1 82 = .ok (.getfield 33, 3) := by decide +kernel
theorem DX5_spentWith_85 : decode jX5_spentWith.2.1 85 = .ok (.iload 4, 2) := by decide +kernel
theorem DX5_spentWith_87 : decode jX5_spentWith.2.1 87 = .ok (.iaload, 1) := by decide +kernel
theorem DX5_spentWith_88 : decode jX5_spentWith.2.1 88 = .ok (.aload_n 0, 1) := by decide +kernel
theorem DX5_spentWith_89 : decode jX5_spentWith.2.1 89 = .ok (.getfield 18, 3) := by decide +kernel
theorem DX5_spentWith_92 : decode jX5_spentWith.2.1 92 = .ok (.iload_n 2, 1) := by decide +kernel
theorem DX5_spentWith_93 : decode jX5_spentWith.2.1 93 = .ok (.iaload, 1) := by decide +kernel
theorem DX5_spentWith_94 : decode jX5_spentWith.2.1 94 = .ok (.iadd, 1) := by decide +kernel
theorem DX5_spentWith_95 : decode jX5_spentWith.2.1 95 = .ok (.invokestatic 110, 3) := by decide +kernel
theorem DX5_spentWith_98 : decode jX5_spentWith.2.1 98 = .ok (.istore_n 3, 1) := by decide +kernel
theorem DX5_spentWith_99 : decode jX5_spentWith.2.1 99 = .ok (.iinc 4 (-1), 3) := by decide +kernel
theorem DX5_spentWith_102 : decode jX5_spentWith.2.1 102 = .ok (.goto (-74), 3) := by decide +kernel
theorem DX5_spentWith_105 : decode jX5_spentWith.2.1 105 = .ok (.iload_n 3, 1) := by decide +kernel
theorem DX5_spentWith_106 : decode jX5_spentWith.2.1 106 = .ok (.ireturn, 1) := by decide +kernel
theorem DX6_init_0 : decode jX6_init.2.1 0 = .ok (.aload_n 0, 1) := by decide +kernel
theorem DX6_init_1 : decode jX6_init.2.1 1 = .ok (.invokespecial 3, 3) := by decide +kernel
theorem DX6_init_4 : decode jX6_init.2.1 4 = .ok (.aload_n 0, 1) := by decide +kernel
theorem DX6_init_5 : decode jX6_init.2.1 5 = .ok (.bipush (-9), 2) := by decide +kernel
theorem DX6_init_7 : decode jX6_init.2.1 7 = .ok (.putfield 9, 3) := by decide +kernel
theorem DX6_init_10 : decode jX6_init.2.1 10 = .ok (.aload_n 0, 1) := by decide +kernel
theorem DX6_init_11 : decode jX6_init.2.1 11 = .ok (.iload_n 1, 1) := by decide +kernel
theorem DX6_init_12 : decode jX6_init.2.1 12 = .ok (.putfield 15, 3) := by decide +kernel
theorem DX6_init_15 : decode jX6_init.2.1 15 = .ok (.aload_n 0, 1) := by decide +kernel
theorem DX6_init_16 : decode jX6_init.2.1 16 = .ok (.iload_n 2, 1) := by decide +kernel
theorem DX6_init_17 : decode jX6_init.2.1 17 = .ok (.putfield 18, 3) := by decide +kernel
theorem DX6_init_20 : decode jX6_init.2.1 20 = .ok (.aload_n 0, 1) := by decide +kernel
theorem DX6_init_21 : decode jX6_init.2.1 21 = .ok (.iload_n 3, 1) := by decide +kernel
theorem DX6_init_22 : decode jX6_init.2.1 22 = .ok (.putfield 21, 3) := by decide +kernel
theorem DX6_init_25 : decode jX6_init.2.1 25 = .ok (.aload_n 0, 1) := by decide +kernel
theorem DX6_init_26 : decode jX6_init.2.1 26 = .ok (.iload 4, 2) := by decide +kernel
theorem DX6_init_28 : decode jX6_init.2.1 28 = .ok (.putfield 24, 3) := by decide +kernel
theorem DX6_init_31 : decode jX6_init.2.1 31 = .ok (.aload_n 0, 1) := by decide +kernel
theorem DX6_init_32 : decode jX6_init.2.1 32 = .ok (.aload 5, 2) := by decide +kernel
theorem DX6_init_34 : decode jX6_init.2.1 34 = .ok (.putfield 27, 3) := by decide +kernel
theorem DX6_init_37 : decode jX6_init.2.1 37 = .ok (.aload_n 0, 1) := by decide +kernel
theorem DX6_init_38 : decode jX6_init.2.1 38 = .ok (.aload 6, 2) := by decide +kernel
theorem DX6_init_40 : decode jX6_init.2.1 40 = .ok (.putfield 31, 3) := by decide +kernel
theorem DX6_init_43 : decode jX6_init.2.1 43 = .ok (.return_, 1) := by decide +kernel
theorem DX6_isFree_0 : decode jX6_isFree.2.1 0 = .ok (.aload_n 0, 1) := by decide +kernel
theorem DX6_isFree_1 : decode jX6_isFree.2.1 1 = .ok (.getfield 34, 3) := by decide +kernel
theorem DX6_isFree_4 : decode jX6_isFree.2.1 4 = .ok (.ifCond .ne 22, 3) := by decide +kernel
theorem DX6_isFree_7 : decode jX6_isFree.2.1 7 = .ok (.aload_n 0, 1) := by decide +kernel
theorem DX6_isFree_8 : decode jX6_isFree.2.1 8 = .ok (.getfield 38, 3) := by decide +kernel
theorem DX6_isFree_11 : decode jX6_isFree.2.1 11 = .ok (.ifCond .ne 15, 3) := by decide +kernel
theorem DX6_isFree_14 : decode jX6_isFree.2.1 14 = .ok (.aload_n 0, 1) := by decide +kernel
theorem DX6_isFree_15 : decode jX6_isFree.2.1 15 = .ok (.getfield 24, 3) := by decide +kernel
theorem DX6_isFree_18 : decode jX6_isFree.2.1 18 = .ok (.iload_n 1, 1) := by decide +kernel
theorem DX6_isFree_19 : decode jX6_isFree.2.1 19 = .ok (.if_icmp .ne 7, 3) := by decide +kernel
theorem DX6_isFree_22 : decode jX6_isFree.2.1 22 = .ok (.iconst 1, 1) := by decide +kernel
theorem DX6_isFree_23 : decode jX6_isFree.2.1 23 = .ok (.goto 4, 3) := by decide +kernel
theorem DX6_isFree_26 : decode jX6_isFree.2.1 26 = .ok (.iconst 0, 1) := by decide +kernel
theorem DX6_isFree_27 : decode jX6_isFree.2.1 27 = .ok (.ireturn, 1) := by decide +kernel
theorem DX6_cordsOf_0 : decode jX6_cordsOf.2.1 0 = .ok (.iconst 0, 1) := by decide +kernel
theorem DX6_cordsOf_1 : decode jX6_cordsOf.2.1 1 = .ok (.istore_n 2, 1) := by decide +kernel
theorem DX6_cordsOf_2 : decode jX6_cordsOf.2.1 2 = .ok (.iconst 0, 1) := by decide +kernel
theorem DX6_cordsOf_3 : decode jX6_cordsOf.2.1 3 = .ok (.istore_n 3, 1) := by decide +kernel
theorem DX6_cordsOf_4 : decode jX6_cordsOf.2.1 4 = .ok (.iload_n 3, 1) := by decide +kernel
theorem DX6_cordsOf_5 : decode jX6_cordsOf.2.1 5 = .ok (.aload_n 0, 1) := by decide +kernel
theorem DX6_cordsOf_6 : decode jX6_cordsOf.2.1 6 = .ok (.getfield 27, 3) := by decide +kernel
theorem DX6_cordsOf_9 : decode jX6_cordsOf.2.1 9 = .ok (.arraylength, 1) := by decide +kernel
theorem DX6_cordsOf_10 : decode jX6_cordsOf.2.1 10 = .ok (.if_icmp .ge 27, 3) := by decide +kernel
theorem DX6_cordsOf_13 : decode jX6_cordsOf.2.1 13 = .ok (.iload_n 2, 1) := by decide +kernel
theorem DX6_cordsOf_14 : decode jX6_cordsOf.2.1 14 = .ok (.aload_n 0, 1) := by decide +kernel
theorem DX6_cordsOf_15 : decode jX6_cordsOf.2.1 15 = .ok (.getfield 27, 3) := by decide +kernel
theorem DX6_cordsOf_18 : decode jX6_cordsOf.2.1 18 = .ok (.iload_n 3, 1) := by decide +kernel
theorem DX6_cordsOf_19 : decode jX6_cordsOf.2.1 19 = .ok (.iaload, 1) := by decide +kernel
theorem DX6_cordsOf_20 : decode jX6_cordsOf.2.1 20 = .ok (.iload_n 1, 1) := by decide +kernel
theorem DX6_cordsOf_21 : decode jX6_cordsOf.2.1 21 = .ok (.if_icmp .ne 7, 3) := by decide +kernel
theorem DX6_cordsOf_24 : decode jX6_cordsOf.2.1 24 = .ok (.iconst 1, 1) := by decide +kernel
theorem DX6_cordsOf_25 : decode jX6_cordsOf.2.1 25 = .ok (.goto 4, 3) := by decide +kernel
theorem DX6_cordsOf_28 : decode jX6_cordsOf.2.1 28 = .ok (.iconst 0, 1) := by decide +kernel
theorem DX6_cordsOf_29 : decode jX6_cordsOf.2.1 29 = .ok (.iadd, 1) := by decide +kernel
theorem DX6_cordsOf_30 : decode jX6_cordsOf.2.1 30 = .ok (.istore_n 2, 1) := by decide +kernel
theorem DX6_cordsOf_31 : decode jX6_cordsOf.2.1 31 = .ok (.iinc 3 1, 3) := by decide +kernel
theorem DX6_cordsOf_34 : decode jX6_cordsOf.2.1 34 = .ok (.goto (-30), 3) := by decide +kernel
theorem DX6_cordsOf_37 : decode jX6_cordsOf.2.1 37 = .ok (.iload_n 2, 1) := by decide +kernel
theorem DX6_cordsOf_38 : decode jX6_cordsOf.2.1 38 = .ok (.ireturn, 1) := by decide +kernel
theorem DX6_weakestOf_0 : decode jX6_weakestOf.2.1 0 = .ok (.bipush 9, 2) := by decide +kernel
theorem DX6_weakestOf_2 : decode jX6_weakestOf.2.1 2 = .ok (.istore_n 2, 1) := by decide +kernel
theorem DX6_weakestOf_3 : decode jX6_weakestOf.2.1 3 = .ok (.iconst 0, 1) := by decide +kernel
theorem DX6_weakestOf_4 : decode jX6_weakestOf.2.1 4 = .ok (.istore_n 3, 1) := by decide +kernel
theorem DX6_weakestOf_5 : decode jX6_weakestOf.2.1 5 = .ok (.iload_n 3, 1) := by decide +kernel
theorem DX6_weakestOf_6 : decode jX6_weakestOf.2.1 6 = .ok (.aload_n 0, 1) := by decide +kernel
theorem DX6_weakestOf_7 : decode jX6_weakestOf.2.1 7 = .ok (.getfield 31, 3) := by decide +kernel
theorem DX6_weakestOf_10 : decode jX6_weakestOf.2.1 10 = .ok (.arraylength, 1) := by decide +kernel
theorem DX6_weakestOf_11 : decode jX6_weakestOf.2.1 11 = .ok (.if_icmp .ge 20, 3) := by decide +kernel
theorem DX6_weakestOf_14 : decode jX6_weakestOf.2.1 14 = .ok (.iload_n 2, 1) := by decide +kernel
theorem DX6_weakestOf_15 : decode jX6_weakestOf.2.1 15 = .ok (.aload_n 0, 1) := by decide +kernel
theorem DX6_weakestOf_16 : decode jX6_weakestOf.2.1 16 = .ok (.getfield 31, 3) := by decide +kernel
theorem DX6_weakestOf_19 : decode jX6_weakestOf.2.1 19 = .ok (.iload_n 3, 1) := by decide +kernel
theorem DX6_weakestOf_20 : decode jX6_weakestOf.2.1 20 = .ok (.iaload, 1) := by decide +kernel
theorem DX6_weakestOf_21 : decode jX6_weakestOf.2.1 21 = .ok (.invokestatic 43, 3) := by decide +kernel
theorem DX6_weakestOf_24 : decode jX6_weakestOf.2.1 24 = .ok (.istore_n 2, 1) := by decide +kernel
theorem DX6_weakestOf_25 : decode jX6_weakestOf.2.1 25 = .ok (.iinc 3 1, 3) := by decide +kernel
theorem DX6_weakestOf_28 : decode jX6_weakestOf.2.1 28 = .ok (.goto (-23), 3) := by decide +kernel
theorem DX6_weakestOf_31 : decode jX6_weakestOf.2.1 31 = .ok (.iconst 0, 1) := by decide +kernel
theorem DX6_weakestOf_32 : decode jX6_weakestOf.2.1 32 = .ok (.istore_n 3, 1) := by decide +kernel
theorem DX6_weakestOf_33 : decode jX6_weakestOf.2.1 33 = .ok (.iconst 0, 1) := by decide +kernel
theorem DX6_weakestOf_34 : decode jX6_weakestOf.2.1 34 = .ok (.istore 4, 2) := by decide +kernel
theorem DX6_weakestOf_36 : decode jX6_weakestOf.2.1 36 = .ok (.iload 4, 2) := by decide +kernel
theorem DX6_weakestOf_38 : decode jX6_weakestOf.2.1 38 = .ok (.aload_n 0, 1) := by decide +kernel
theorem DX6_weakestOf_39 : decode jX6_weakestOf.2.1 39 = .ok (.getfield 31, 3) := by decide +kernel
theorem DX6_weakestOf_42 : decode jX6_weakestOf.2.1 42 = .ok (.arraylength, 1) := by decide +kernel
theorem DX6_weakestOf_43 : decode jX6_weakestOf.2.1 43 = .ok (.if_icmp .ge 49, 3) := by decide +kernel
theorem DX6_weakestOf_46 : decode jX6_weakestOf.2.1 46 = .ok (.iload 4, 2) := by decide +kernel
theorem DX6_weakestOf_48 : decode jX6_weakestOf.2.1 48 = .ok (.aload_n 0, 1) := by decide +kernel
theorem DX6_weakestOf_49 : decode jX6_weakestOf.2.1 49 = .ok (.getfield 27, 3) := by decide +kernel
theorem DX6_weakestOf_52 : decode jX6_weakestOf.2.1 52 = .ok (.arraylength, 1) := by decide +kernel
theorem DX6_weakestOf_53 : decode jX6_weakestOf.2.1 53 = .ok (.if_icmp .ge 39, 3) := by decide +kernel
theorem DX6_weakestOf_56 : decode jX6_weakestOf.2.1 56 = .ok (.iload_n 3, 1) := by decide +kernel
theorem DX6_weakestOf_57 : decode jX6_weakestOf.2.1 57 = .ok (.aload_n 0, 1) := by decide +kernel
theorem DX6_weakestOf_58 : decode jX6_weakestOf.2.1 58 = .ok (.getfield 27, 3) := by decide +kernel
theorem DX6_weakestOf_61 : decode jX6_weakestOf.2.1 61 = .ok (.iload 4, 2) := by decide +kernel
theorem DX6_weakestOf_63 : decode jX6_weakestOf.2.1 63 = .ok (.iaload, 1) := by decide +kernel
theorem DX6_weakestOf_64 : decode jX6_weakestOf.2.1 64 = .ok (.iload_n 1, 1) := by decide +kernel
theorem DX6_weakestOf_65 : decode jX6_weakestOf.2.1 65 = .ok (.if_icmp .ne 18, 3) := by decide +kernel
theorem DX6_weakestOf_68 : decode jX6_weakestOf.2.1 68 = .ok (.aload_n 0, 1) := by decide +kernel
theorem DX6_weakestOf_69 : decode jX6_weakestOf.2.1 69 = .ok (.getfield 31, 3) := by decide +kernel
theorem DX6_weakestOf_72 : decode jX6_weakestOf.2.1 72 = .ok (.iload 4, 2) := by decide +kernel
theorem DX6_weakestOf_74 : decode jX6_weakestOf.2.1 74 = .ok (.iaload, 1) := by decide +kernel
theorem DX6_weakestOf_75 : decode jX6_weakestOf.2.1 75 = .ok (.iload_n 2, 1) := by decide +kernel
theorem DX6_weakestOf_76 : decode jX6_weakestOf.2.1 76 = .ok (.if_icmp .ne 7, 3) := by decide +kernel
theorem DX6_weakestOf_79 : decode jX6_weakestOf.2.1 79 = .ok (.iconst 1, 1) := by decide +kernel
theorem DX6_weakestOf_80 : decode jX6_weakestOf.2.1 80 = .ok (.goto 4, 3) := by decide +kernel
theorem DX6_weakestOf_83 : decode jX6_weakestOf.2.1 83 = .ok (.iconst 0, 1) := by decide +kernel
theorem DX6_weakestOf_84 : decode jX6_weakestOf.2.1 84 = .ok (.iadd, 1) := by decide +kernel
theorem DX6_weakestOf_85 : decode jX6_weakestOf.2.1 85 = .ok (.istore_n 3, 1) := by decide +kernel
theorem DX6_weakestOf_86 : decode jX6_weakestOf.2.1 86 = .ok (.iinc 4 1, 3) := by decide +kernel
theorem DX6_weakestOf_89 : decode jX6_weakestOf.2.1 89 = .ok (.goto (-53), 3) := by decide +kernel
theorem DX6_weakestOf_92 : decode jX6_weakestOf.2.1 92 = .ok (.iload_n 3, 1) := by decide +kernel
theorem DX6_weakestOf_93 : decode jX6_weakestOf.2.1 93 = .ok (.ireturn, 1) := by decide +kernel
theorem DX7_init_0 : decode jX7_init.2.1 0 = .ok (.aload_n 0, 1) := by decide +kernel
theorem DX7_init_1 : decode jX7_init.2.1 1 = .ok (.invokespecial 3, 3) := by decide +kernel
theorem DX7_init_4 : decode jX7_init.2.1 4 = .ok (.aload_n 0, 1) := by decide +kernel
theorem DX7_init_5 : decode jX7_init.2.1 5 = .ok (.sipush 200, 3) := by decide +kernel
theorem DX7_init_8 : decode jX7_init.2.1 8 = .ok (.anewarray 9, 3) := by decide +kernel
theorem DX7_init_11 : decode jX7_init.2.1 11 = .ok (.putfield 11, 3) := by decide +kernel
theorem DX7_init_14 : decode jX7_init.2.1 14 = .ok (.return_, 1) := by decide +kernel
theorem DX7_find_0 : decode jX7_find.2.1 0 = .ok (.iload_n 1, 1) := by decide +kernel
theorem DX7_find_1 : decode jX7_find.2.1 1 = .ok (.ifCond .lt 27, 3) := by decide +kernel
theorem DX7_find_4 : decode jX7_find.2.1 4 = .ok (.iload_n 1, 1) := by decide +kernel
theorem DX7_find_5 : decode jX7_find.2.1 5 = .ok (.aload_n 0, 1) := by decide +kernel
theorem DX7_find_6 : decode jX7_find.2.1 6 = .ok (.getfield 17, 3) := by decide +kernel
theorem DX7_find_9 : decode jX7_find.2.1 9 = .ok (.if_icmp .ge 19, 3) := by decide +kernel
theorem DX7_find_12 : decode jX7_find.2.1 12 = .ok (.iload_n 1, 1) := by decide +kernel
theorem DX7_find_13 : decode jX7_find.2.1 13 = .ok (.sipush 200, 3) := by decide +kernel
theorem DX7_find_16 : decode jX7_find.2.1 16 = .ok (.if_icmp .ge 12, 3) := by decide +kernel
theorem DX7_find_19 : decode jX7_find.2.1 19 = .ok (.aload_n 0, 1) := by decide +kernel
theorem DX7_find_20 : decode jX7_find.2.1 20 = .ok (.getfield 11, 3) := by decide +kernel
theorem DX7_find_23 : decode jX7_find.2.1 23 = .ok (.iload_n 1, 1) := by decide +kernel
theorem DX7_find_24 : decode jX7_find.2.1 24 = .ok (.aaload, 1) := by decide +kernel
theorem DX7_find_25 : decode jX7_find.2.1 25 = .ok (.goto 4, 3) := by decide +kernel
theorem DX7_find_28 : decode jX7_find.2.1 28 = .ok (.aconst_null, 1) := by decide +kernel
theorem DX7_find_29 : decode jX7_find.2.1 29 = .ok (.areturn, 1) := by decide +kernel
theorem DX7_isFull_0 : decode jX7_isFull.2.1 0 = .ok (.aload_n 0, 1) := by decide +kernel
theorem DX7_isFull_1 : decode jX7_isFull.2.1 1 = .ok (.getfield 17, 3) := by decide +kernel
theorem DX7_isFull_4 : decode jX7_isFull.2.1 4 = .ok (.sipush 200, 3) := by decide +kernel
theorem DX7_isFull_7 : decode jX7_isFull.2.1 7 = .ok (.if_icmp .lt 7, 3) := by decide +kernel
theorem DX7_isFull_10 : decode jX7_isFull.2.1 10 = .ok (.iconst 1, 1) := by decide +kernel
theorem DX7_isFull_11 : decode jX7_isFull.2.1 11 = .ok (.goto 4, 3) := by decide +kernel
theorem DX7_isFull_14 : decode jX7_isFull.2.1 14 = .ok (.iconst 0, 1) := by decide +kernel
theorem DX7_isFull_15 : decode jX7_isFull.2.1 15 = .ok (.ireturn, 1) := by decide +kernel
theorem DX7_twist_0 : decode jX7_twist.2.1 0 = .ok (.iconst 3, 1) := by decide +kernel
theorem DX7_twist_1 : decode jX7_twist.2.1 1 = .ok (.newarray .int, 2) := by decide +kernel
theorem DX7_twist_3 : decode jX7_twist.2.1 3 = .ok (.dup, 1) := by decide +kernel
theorem DX7_twist_4 : decode jX7_twist.2.1 4 = .ok (.iconst 0, 1) := by decide +kernel
theorem DX7_twist_5 : decode jX7_twist.2.1 5 = .ok (.aload_n 1, 1) := by decide +kernel
theorem DX7_twist_6 : decode jX7_twist.2.1 6 = .ok (.getfield 21, 3) := by decide +kernel
theorem DX7_twist_9 : decode jX7_twist.2.1 9 = .ok (.iastore, 1) := by decide +kernel
theorem DX7_twist_10 : decode jX7_twist.2.1 10 = .ok (.dup, 1) := by decide +kernel
theorem DX7_twist_11 : decode jX7_twist.2.1 11 = .ok (.iconst 1, 1) := by decide +kernel
theorem DX7_twist_12 : decode jX7_twist.2.1 12 = .ok (.aload_n 2, 1) := by decide +kernel
theorem DX7_twist_13 : decode jX7_twist.2.1 13 = .ok (.getfield 21, 3) := by decide +kernel
theorem DX7_twist_16 : decode jX7_twist.2.1 16 = .ok (.iastore, 1) := by decide +kernel
theorem DX7_twist_17 : decode jX7_twist.2.1 17 = .ok (.dup, 1) := by decide +kernel
theorem DX7_twist_18 : decode jX7_twist.2.1 18 = .ok (.iconst 2, 1) := by decide +kernel
theorem DX7_twist_19 : decode jX7_twist.2.1 19 = .ok (.aload_n 3, 1) := by decide +kernel
theorem DX7_twist_20 : decode jX7_twist.2.1 20 = .ok (.getfield 21, 3) := by decide +kernel
theorem DX7_twist_23 : decode jX7_twist.2.1 23 = .ok (.iastore, 1) := by decide +kernel
theorem DX7_twist_24 : decode jX7_twist.2.1 24 = .ok (.astore 5, 2) := by decide +kernel
theorem DX7_twist_26 : decode jX7_twist.2.1 26 = .ok (.iconst 3, 1) := by decide +kernel
theorem DX7_twist_27 : decode jX7_twist.2.1 27 = .ok (.newarray .int, 2) := by decide +kernel
theorem DX7_twist_29 : decode jX7_twist.2.1 29 = .ok (.dup, 1) := by decide +kernel
theorem DX7_twist_30 : decode jX7_twist.2.1 30 = .ok (.iconst 0, 1) := by decide +kernel
theorem DX7_twist_31 : decode jX7_twist.2.1 31 = .ok (.aload_n 1, 1) := by decide +kernel
theorem DX7_twist_32 : decode jX7_twist.2.1 32 = .ok (.getfield 26, 3) := by decide +kernel
theorem DX7_twist_35 : decode jX7_twist.2.1 35 = .ok (.iastore, 1) := by decide +kernel
theorem DX7_twist_36 : decode jX7_twist.2.1 36 = .ok (.dup, 1) := by decide +kernel
theorem DX7_twist_37 : decode jX7_twist.2.1 37 = .ok (.iconst 1, 1) := by decide +kernel
theorem DX7_twist_38 : decode jX7_twist.2.1 38 = .ok (.aload_n 2, 1) := by decide +kernel
theorem DX7_twist_39 : decode jX7_twist.2.1 39 = .ok (.getfield 26, 3) := by decide +kernel
theorem DX7_twist_42 : decode jX7_twist.2.1 42 = .ok (.iastore, 1) := by decide +kernel
theorem DX7_twist_43 : decode jX7_twist.2.1 43 = .ok (.dup, 1) := by decide +kernel
theorem DX7_twist_44 : decode jX7_twist.2.1 44 = .ok (.iconst 2, 1) := by decide +kernel
theorem DX7_twist_45 : decode jX7_twist.2.1 45 = .ok (.aload_n 3, 1) := by decide +kernel
theorem DX7_twist_46 : decode jX7_twist.2.1 46 = .ok (.getfield 26, 3) := by decide +kernel
theorem DX7_twist_49 : decode jX7_twist.2.1 49 = .ok (.iastore, 1) := by decide +kernel
theorem DX7_twist_50 : decode jX7_twist.2.1 50 = .ok (.astore 6, 2) := by decide +kernel
theorem DX7_twist_52 : decode jX7_twist.2.1 52 = .ok (.aload_n 1, 1) := by decide +kernel
theorem DX7_twist_53 : decode jX7_twist.2.1 53 = .ok (.dup, 1) := by decide +kernel
theorem DX7_twist_54 : decode jX7_twist.2.1 54 = .ok (.getfield 29, 3) := by decide +kernel
theorem DX7_twist_57 : decode jX7_twist.2.1 57 = .ok (.iconst 1, 1) := by decide +kernel
theorem DX7_twist_58 : decode jX7_twist.2.1 58 = .ok (.iadd, 1) := by decide +kernel
theorem DX7_twist_59 : decode jX7_twist.2.1 59 = .ok (.putfield 29, 3) := by decide +kernel
theorem DX7_twist_62 : decode jX7_twist.2.1 62 = .ok (.aload_n 2, 1) := by decide +kernel
theorem DX7_twist_63 : decode jX7_twist.2.1 63 = .ok (.dup, 1) := by decide +kernel
theorem DX7_twist_64 : decode jX7_twist.2.1 64 = .ok (.getfield 29, 3) := by decide +kernel
theorem DX7_twist_67 : decode jX7_twist.2.1 67 = .ok (.iconst 1, 1) := by decide +kernel
theorem DX7_twist_68 : decode jX7_twist.2.1 68 = .ok (.iadd, 1) := by decide +kernel
theorem DX7_twist_69 : decode jX7_twist.2.1 69 = .ok (.putfield 29, 3) := by decide +kernel
theorem DX7_twist_72 : decode jX7_twist.2.1 72 = .ok (.aload_n 3, 1) := by decide +kernel
theorem DX7_twist_73 : decode jX7_twist.2.1 73 = .ok (.dup, 1) := by decide +kernel
theorem DX7_twist_74 : decode jX7_twist.2.1 74 = .ok (.getfield 29, 3) := by decide +kernel
theorem DX7_twist_77 : decode jX7_twist.2.1 77 = .ok (.iconst 1, 1) := by decide +kernel
theorem DX7_twist_78 : decode jX7_twist.2.1 78 = .ok (.iadd, 1) := by decide +kernel
theorem DX7_twist_79 : decode jX7_twist.2.1 79 = .ok (.putfield 29, 3) := by decide +kernel
theorem DX7_twist_82 : decode jX7_twist.2.1 82 = .ok (.aload_n 1, 1) := by decide +kernel
theorem DX7_twist_83 : decode jX7_twist.2.1 83 = .ok (.getfield 26, 3) := by decide +kernel
theorem DX7_twist_86 : decode jX7_twist.2.1 86 = .ok (.aload_n 2, 1) := by decide +kernel
theorem DX7_twist_87 : decode jX7_twist.2.1 87 = .ok (.getfield 26, 3) := by decide +kernel
theorem DX7_twist_90 : decode jX7_twist.2.1 90 = .ok (.aload_n 3, 1) := by decide +kernel
theorem DX7_twist_91 : decode jX7_twist.2.1 91 = .ok (.getfield 26, 3) := by decide +kernel
theorem DX7_twist_94 : decode jX7_twist.2.1 94 = .ok (.invokestatic 32, 3) := by decide +kernel
theorem DX7_twist_97 : decode jX7_twist.2.1 97 = .ok (.invokestatic 32, 3) := by decide +kernel
theorem DX7_twist_100 : decode jX7_twist.2.1 100 = .ok (.istore 7, 2) := by decide +kernel
theorem DX7_twist_102 : decode jX7_twist.2.1 102 = .ok (.aload_n 0, 1) := by decide +kernel
theorem DX7_twist_103 : decode jX7_twist.2.1 103 = .ok (.new 9, 3) := by decide +kernel
theorem DX7_twist_106 : decode jX7_twist.2.1 106 = .ok (.dup, 1) := by decide +kernel
theorem DX7_twist_107 : decode jX7_twist.2.1 107 = .ok (.aload_n 0, 1) := by decide +kernel
theorem DX7_twist_108 : decode jX7_twist.2.1 108 = .ok (.getfield 17, 3) := by decide +kernel
theorem DX7_twist_111 : decode jX7_twist.2.1 111 = .ok (.iconst 0, 1) := by decide +kernel
theorem DX7_twist_112 : decode jX7_twist.2.1 112 = .ok (.iload 7, 2) := by decide +kernel
theorem DX7_twist_114 : decode jX7_twist.2.1 114 = .ok (.iload 4, 2) := by decide +kernel
theorem DX7_twist_116 : decode jX7_twist.2.1 116 = .ok (.aload 5, 2) := by decide +kernel
theorem DX7_twist_118 : decode jX7_twist.2.1 118 = .ok (.aload 6, 2) := by decide +kernel
theorem DX7_twist_120 : decode jX7_twist.2.1 120 = .ok (.invokespecial 38, 3) := by decide +kernel
theorem DX7_twist_123 : decode jX7_twist.2.1 123 = .ok (.invokevirtual 41, 3) := by decide +kernel
theorem DX7_twist_126 : decode jX7_twist.2.1 126 = .ok (.ireturn, 1) := by decide +kernel
theorem DX7_join_0 : decode jX7_join.2.1 0 = .ok (.aload_n 1, 1) := by decide +kernel
theorem DX7_join_1 : decode jX7_join.2.1 1 = .ok (.iconst 1, 1) := by decide +kernel
theorem DX7_join_2 : decode jX7_join.2.1 2 = .ok (.putfield 45, 3) := by decide +kernel
theorem DX7_join_5 : decode jX7_join.2.1 5 = .ok (.aload_n 2, 1) := by decide +kernel
theorem DX7_join_6 : decode jX7_join.2.1 6 = .ok (.iconst 1, 1) := by decide +kernel
theorem DX7_join_7 : decode jX7_join.2.1 7 = .ok (.putfield 45, 3) := by decide +kernel
theorem DX7_join_10 : decode jX7_join.2.1 10 = .ok (.aload_n 3, 1) := by decide +kernel
theorem DX7_join_11 : decode jX7_join.2.1 11 = .ok (.iconst 1, 1) := by decide +kernel
theorem DX7_join_12 : decode jX7_join.2.1 12 = .ok (.putfield 45, 3) := by decide +kernel
theorem DX7_join_15 : decode jX7_join.2.1 15 = .ok (.iconst 1, 1) := by decide +kernel
theorem DX7_join_16 : decode jX7_join.2.1 16 = .ok (.aload_n 1, 1) := by decide +kernel
theorem DX7_join_17 : decode jX7_join.2.1 17 = .ok (.getfield 49, 3) := by decide +kernel
theorem DX7_join_20 : decode jX7_join.2.1 20 = .ok (.aload_n 2, 1) := by decide +kernel
theorem DX7_join_21 : decode jX7_join.2.1 21 = .ok (.getfield 49, 3) := by decide +kernel
theorem DX7_join_24 : decode jX7_join.2.1 24 = .ok (.iadd, 1) := by decide +kernel
theorem DX7_join_25 : decode jX7_join.2.1 25 = .ok (.aload_n 3, 1) := by decide +kernel
theorem DX7_join_26 : decode jX7_join.2.1 26 = .ok (.getfield 49, 3) := by decide +kernel
theorem DX7_join_29 : decode jX7_join.2.1 29 = .ok (.iadd, 1) := by decide +kernel
theorem DX7_join_30 : decode jX7_join.2.1 30 = .ok (.iconst 2, 1) := by decide +kernel
theorem DX7_join_31 : decode jX7_join.2.1 31 = .ok (.isub, 1) := by decide +kernel
theorem DX7_join_32 : decode jX7_join.2.1 32 = .ok (.invokestatic 52, 3) := by decide +kernel
theorem DX7_join_35 : decode jX7_join.2.1 35 = .ok (.istore 5, 2) := by decide +kernel
theorem DX7_join_37 : decode jX7_join.2.1 37 = .ok (.aload_n 1, 1) := by decide +kernel
theorem DX7_join_38 : decode jX7_join.2.1 38 = .ok (.getfield 55, 3) := by decide +kernel
theorem DX7_join_41 : decode jX7_join.2.1 41 = .ok (.aload_n 2, 1) := by decide +kernel
theorem DX7_join_42 : decode jX7_join.2.1 42 = .ok (.getfield 55, 3) := by decide +kernel
theorem DX7_join_45 : decode jX7_join.2.1 45 = .ok (.aload_n 3, 1) := by decide +kernel
theorem DX7_join_46 : decode jX7_join.2.1 46 = .ok (.getfield 55, 3) := by decide +kernel
theorem DX7_join_49 : decode jX7_join.2.1 49 = .ok (.invokestatic 59, 3) := by decide +kernel
theorem DX7_join_52 : decode jX7_join.2.1 52 = .ok (.astore 6, 2) := by decide +kernel
theorem DX7_join_54 : decode jX7_join.2.1 54 = .ok (.aload_n 1, 1) := by decide +kernel
theorem DX7_join_55 : decode jX7_join.2.1 55 = .ok (.getfield 63, 3) := by decide +kernel
theorem DX7_join_58 : decode jX7_join.2.1 58 = .ok (.aload_n 2, 1) := by decide +kernel
theorem DX7_join_59 : decode jX7_join.2.1 59 = .ok (.getfield 63, 3) := by decide +kernel
theorem DX7_join_62 : decode jX7_join.2.1 62 = .ok (.aload_n 3, 1) := by decide +kernel
theorem DX7_join_63 : decode jX7_join.2.1 63 = .ok (.getfield 63, 3) := by decide +kernel
theorem DX7_join_66 : decode jX7_join.2.1 66 = .ok (.invokestatic 59, 3) := by decide +kernel
theorem DX7_join_69 : decode jX7_join.2.1 69 = .ok (.astore 7, 2) := by decide +kernel
theorem DX7_join_71 : decode jX7_join.2.1 71 = .ok (.aload_n 0, 1) := by decide +kernel
theorem DX7_join_72 : decode jX7_join.2.1 72 = .ok (.new 9, 3) := by decide +kernel
theorem DX7_join_75 : decode jX7_join.2.1 75 = .ok (.dup, 1) := by decide +kernel
theorem DX7_join_76 : decode jX7_join.2.1 76 = .ok (.aload_n 0, 1) := by decide +kernel
theorem DX7_join_77 : decode jX7_join.2.1 77 = .ok (.getfield 17, 3) := by decide +kernel
theorem DX7_join_80 : decode jX7_join.2.1 80 = .ok (.aload_n 1, 1) := by decide +kernel
theorem DX7_join_81 : decode jX7_join.2.1 81 = .ok (.getfield 66, 3) := by decide +kernel
theorem DX7_join_84 : decode jX7_join.2.1 84 = .ok (.iconst 1, 1) := by decide +kernel
theorem DX7_join_85 : decode jX7_join.2.1 85 = .ok (.iadd, 1) := by decide +kernel
theorem DX7_join_86 : decode jX7_join.2.1 86 = .ok (.iload 5, 2) := by decide +kernel
theorem DX7_join_88 : decode jX7_join.2.1 88 = .ok (.iload 4, 2) := by decide +kernel
theorem DX7_join_90 : decode jX7_join.2.1 90 = .ok (.aload 6, 2) := by decide +kernel
theorem DX7_join_92 : decode jX7_join.2.1 92 = .ok (.aload 7, 2) := by decide +kernel
theorem DX7_join_94 : decode jX7_join.2.1 94 = .ok (.invokespecial 38, 3) := by decide +kernel
theorem DX7_join_97 : decode jX7_join.2.1 97 = .ok (.invokevirtual 41, 3) := by decide +kernel
theorem DX7_join_100 : decode jX7_join.2.1 100 = .ok (.ireturn, 1) := by decide +kernel
theorem DX7_joined_0 : decode jX7_joined.2.1 0 = .ok (.aload_n 0, 1) := by decide +kernel
theorem DX7_joined_1 : decode jX7_joined.2.1 1 = .ok (.arraylength, 1) := by decide +kernel
theorem DX7_joined_2 : decode jX7_joined.2.1 2 = .ok (.aload_n 1, 1) := by decide +kernel
theorem DX7_joined_3 : decode jX7_joined.2.1 3 = .ok (.arraylength, 1) := by decide +kernel
theorem DX7_joined_4 : decode jX7_joined.2.1 4 = .ok (.iadd, 1) := by decide +kernel
theorem DX7_joined_5 : decode jX7_joined.2.1 5 = .ok (.aload_n 2, 1) := by decide +kernel
theorem DX7_joined_6 : decode jX7_joined.2.1 6 = .ok (.arraylength, 1) := by decide +kernel
theorem DX7_joined_7 : decode jX7_joined.2.1 7 = .ok (.iadd, 1) := by decide +kernel
theorem DX7_joined_8 : decode jX7_joined.2.1 8 = .ok (.newarray .int, 2) := by decide +kernel
theorem DX7_joined_10 : decode jX7_joined.2.1 10 = .ok (.astore_n 3, 1) := by decide +kernel
theorem DX7_joined_11 : decode jX7_joined.2.1 11 = .ok (.aload_n 0, 1) := by decide +kernel
theorem DX7_joined_12 : decode jX7_joined.2.1 12 = .ok (.iconst 0, 1) := by decide +kernel
theorem DX7_joined_13 : decode jX7_joined.2.1 13 = .ok (.aload_n 3, 1) := by decide +kernel
theorem DX7_joined_14 : decode jX7_joined.2.1 14 = .ok (.iconst 0, 1) := by decide +kernel
theorem DX7_joined_15 : decode jX7_joined.2.1 15 = .ok (.aload_n 0, 1) := by decide +kernel
theorem DX7_joined_16 : decode jX7_joined.2.1 16 = .ok (.arraylength, 1) := by decide +kernel
theorem DX7_joined_17 : decode jX7_joined.2.1 17 = .ok (.invokestatic 69, 3) := by decide +kernel
theorem DX7_joined_20 : decode jX7_joined.2.1 20 = .ok (.aload_n 1, 1) := by decide +kernel
theorem DX7_joined_21 : decode jX7_joined.2.1 21 = .ok (.iconst 0, 1) := by decide +kernel
theorem DX7_joined_22 : decode jX7_joined.2.1 22 = .ok (.aload_n 3, 1) := by decide +kernel
theorem DX7_joined_23 : decode jX7_joined.2.1 23 = .ok (.aload_n 0, 1) := by decide +kernel
theorem DX7_joined_24 : decode jX7_joined.2.1 24 = .ok (.arraylength, 1) := by decide +kernel
theorem DX7_joined_25 : decode jX7_joined.2.1 25 = .ok (.aload_n 1, 1) := by decide +kernel
theorem DX7_joined_26 : decode jX7_joined.2.1 26 = .ok (.arraylength, 1) := by decide +kernel
theorem DX7_joined_27 : decode jX7_joined.2.1 27 = .ok (.invokestatic 69, 3) := by decide +kernel
theorem DX7_joined_30 : decode jX7_joined.2.1 30 = .ok (.aload_n 2, 1) := by decide +kernel
theorem DX7_joined_31 : decode jX7_joined.2.1 31 = .ok (.iconst 0, 1) := by decide +kernel
theorem DX7_joined_32 : decode jX7_joined.2.1 32 = .ok (.aload_n 3, 1) := by decide +kernel
theorem DX7_joined_33 : decode jX7_joined.2.1 33 = .ok (.aload_n 0, 1) := by decide +kernel
theorem DX7_joined_34 : decode jX7_joined.2.1 34 = .ok (.arraylength, 1) := by decide +kernel
theorem DX7_joined_35 : decode jX7_joined.2.1 35 = .ok (.aload_n 1, 1) := by decide +kernel
theorem DX7_joined_36 : decode jX7_joined.2.1 36 = .ok (.arraylength, 1) := by decide +kernel
theorem DX7_joined_37 : decode jX7_joined.2.1 37 = .ok (.iadd, 1) := by decide +kernel
theorem DX7_joined_38 : decode jX7_joined.2.1 38 = .ok (.aload_n 2, 1) := by decide +kernel
theorem DX7_joined_39 : decode jX7_joined.2.1 39 = .ok (.arraylength, 1) := by decide +kernel
theorem DX7_joined_40 : decode jX7_joined.2.1 40 = .ok (.invokestatic 69, 3) := by decide +kernel
theorem DX7_joined_43 : decode jX7_joined.2.1 43 = .ok (.aload_n 3, 1) := by decide +kernel
theorem DX7_joined_44 : decode jX7_joined.2.1 44 = .ok (.areturn, 1) := by decide +kernel
theorem DX7_keep_0 : decode jX7_keep.2.1 0 = .ok (.aload_n 0, 1) := by decide +kernel
theorem DX7_keep_1 : decode jX7_keep.2.1 1 = .ok (.invokevirtual 75, 3) := by decide +kernel
theorem DX7_keep_4 : decode jX7_keep.2.1 4 = .ok (.ifCond .eq 6, 3) := by decide +kernel
theorem DX7_keep_7 : decode jX7_keep.2.1 7 = .ok (.bipush (-6), 2) := by decide +kernel
theorem DX7_keep_9 : decode jX7_keep.2.1 9 = .ok (.ireturn, 1) := by decide +kernel
theorem DX7_keep_10 : decode jX7_keep.2.1 10 = .ok (.aload_n 0, 1) := by decide +kernel
theorem DX7_keep_11 : decode jX7_keep.2.1 11 = .ok (.getfield 11, 3) := by decide +kernel
theorem DX7_keep_14 : decode jX7_keep.2.1 14 = .ok (.aload_n 0, 1) := by decide +kernel
theorem DX7_keep_15 : decode jX7_keep.2.1 15 = .ok (.getfield 17, 3) := by decide +kernel
theorem DX7_keep_18 : decode jX7_keep.2.1 18 = .ok (.aload_n 1, 1) := by decide +kernel
theorem DX7_keep_19 : decode jX7_keep.2.1 19 = .ok (.aastore, 1) := by decide +kernel
theorem DX7_keep_20 : decode jX7_keep.2.1 20 = .ok (.aload_n 0, 1) := by decide +kernel
theorem DX7_keep_21 : decode jX7_keep.2.1 21 = .ok (.dup, 1) := by decide +kernel
theorem DX7_keep_22 : decode jX7_keep.2.1 22 = .ok (.getfield 17, 3) := by decide +kernel
theorem DX7_keep_25 : decode jX7_keep.2.1 25 = .ok (.dup_x1, 1) := by decide +kernel
theorem DX7_keep_26 : decode jX7_keep.2.1 26 = .ok (.iconst 1, 1) := by decide +kernel
theorem DX7_keep_27 : decode jX7_keep.2.1 27 = .ok (.iadd, 1) := by decide +kernel
theorem DX7_keep_28 : decode jX7_keep.2.1 28 = .ok (.putfield 17, 3) := by decide +kernel
theorem DX7_keep_31 : decode jX7_keep.2.1 31 = .ok (.ireturn, 1) := by decide +kernel
