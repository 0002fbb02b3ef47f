/-! what the bytes decode to -/
theorem DX8_init_0 : decode jX8_init.2.1 0 = .ok (.aload_n 0, 1) := by decide +kernel
theorem DX8_init_1 : decode jX8_init.2.1 1 = .ok (.invokespecial 3, 3) := by decide +kernel
theorem DX8_init_4 : decode jX8_init.2.1 4 = .ok (.aload_n 0, 1) := by decide +kernel
theorem DX8_init_5 : decode jX8_init.2.1 5 = .ok (.bipush 52, 2) := by decide +kernel
theorem DX8_init_7 : decode jX8_init.2.1 7 = .ok (.newarray .int, 2) := by decide +kernel
theorem DX8_init_9 : decode jX8_init.2.1 9 = .ok (.putfield 9, 3) := by decide +kernel
theorem DX8_init_12 : decode jX8_init.2.1 12 = .ok (.aload_n 0, 1) := by decide +kernel
theorem DX8_init_13 : decode jX8_init.2.1 13 = .ok (.invokevirtual 15, 3) := by decide +kernel
theorem DX8_init_16 : decode jX8_init.2.1 16 = .ok (.return_, 1) := by decide +kernel
theorem DX8_isWeek_0 : decode jX8_isWeek.2.1 0 = .ok (.iload_n 0, 1) := by decide +kernel
theorem DX8_isWeek_1 : decode jX8_isWeek.2.1 1 = .ok (.ifCond .lt 13, 3) := by decide +kernel
theorem DX8_isWeek_4 : decode jX8_isWeek.2.1 4 = .ok (.iload_n 0, 1) := by decide +kernel
theorem DX8_isWeek_5 : decode jX8_isWeek.2.1 5 = .ok (.bipush 52, 2) := by decide +kernel
theorem DX8_isWeek_7 : decode jX8_isWeek.2.1 7 = .ok (.if_icmp .ge 7, 3) := by decide +kernel
theorem DX8_isWeek_10 : decode jX8_isWeek.2.1 10 = .ok (.iconst 1, 1) := by decide +kernel
theorem DX8_isWeek_11 : decode jX8_isWeek.2.1 11 = .ok (.goto 4, 3) := by decide +kernel
theorem DX8_isWeek_14 : decode jX8_isWeek.2.1 14 = .ok (.iconst 0, 1) := by decide +kernel
theorem DX8_isWeek_15 : decode jX8_isWeek.2.1 15 = .ok (.ireturn, 1) := by decide +kernel
theorem DX8_forgetRain_0 : decode jX8_forgetRain.2.1 0 = .ok (.iconst 0, 1) := by decide +kernel
theorem DX8_forgetRain_1 : decode jX8_forgetRain.2.1 1 = .ok (.istore_n 1, 1) := by decide +kernel
theorem DX8_forgetRain_2 : decode jX8_forgetRain.2.1 2 = .ok (.iload_n 1, 1) := by decide +kernel
theorem DX8_forgetRain_3 : decode jX8_forgetRain.2.1 3 = .ok (.bipush 52, 2) := by decide +kernel
theorem DX8_forgetRain_5 : decode jX8_forgetRain.2.1 5 = .ok (.if_icmp .ge 16, 3) := by decide +kernel
theorem DX8_forgetRain_8 : decode jX8_forgetRain.2.1 8 = .ok (.aload_n 0, 1) := by decide +kernel
theorem DX8_forgetRain_9 : decode jX8_forgetRain.2.1 9 = .ok (.getfield 9, 3) := by decide +kernel
theorem DX8_forgetRain_12 : decode jX8_forgetRain.2.1 12 = .ok (.iload_n 1, 1) := by decide +kernel
theorem DX8_forgetRain_13 : decode jX8_forgetRain.2.1 13 = .ok (.iconst (-1), 1) := by decide +kernel
theorem DX8_forgetRain_14 : decode jX8_forgetRain.2.1 14 = .ok (.iastore, 1) := by decide +kernel
theorem DX8_forgetRain_15 : decode jX8_forgetRain.2.1 15 = .ok (.iinc 1 1, 3) := by decide +kernel
theorem DX8_forgetRain_18 : decode jX8_forgetRain.2.1 18 = .ok (.goto (-16), 3) := by decide +kernel
theorem DX8_forgetRain_21 : decode jX8_forgetRain.2.1 21 = .ok (.return_, 1) := by decide +kernel
theorem DX8_tell_0 : decode jX8_tell.2.1 0 = .ok (.iload_n 1, 1) := by decide +kernel
theorem DX8_tell_1 : decode jX8_tell.2.1 1 = .ok (.invokestatic 18, 3) := by decide +kernel
theorem DX8_tell_4 : decode jX8_tell.2.1 4 = .ok (.ifCond .ne 5, 3) := by decide +kernel
theorem DX8_tell_7 : decode jX8_tell.2.1 7 = .ok (.iconst (-1), 1) := by decide +kernel
theorem DX8_tell_8 : decode jX8_tell.2.1 8 = .ok (.ireturn, 1) := by decide +kernel
theorem DX8_tell_9 : decode jX8_tell.2.1 9 = .ok (.aload_n 0, 1) := by decide +kernel
theorem DX8_tell_10 : decode jX8_tell.2.1 10 = .ok (.getfield 9, 3) := by decide +kernel
theorem DX8_tell_13 : decode jX8_tell.2.1 13 = .ok (.iload_n 1, 1) := by decide +kernel
theorem DX8_tell_14 : decode jX8_tell.2.1 14 = .ok (.iaload, 1) := by decide +kernel
theorem DX8_tell_15 : decode jX8_tell.2.1 15 = .ok (.istore_n 3, 1) := by decide +kernel
theorem DX8_tell_16 : decode jX8_tell.2.1 16 = .ok (.aload_n 0, 1) := by decide +kernel
theorem DX8_tell_17 : decode jX8_tell.2.1 17 = .ok (.getfield 9, 3) := by decide +kernel
theorem DX8_tell_20 : decode jX8_tell.2.1 20 = .ok (.iload_n 1, 1) := by decide +kernel
theorem DX8_tell_21 : decode jX8_tell.2.1 21 = .ok (.iload_n 2, 1) := by decide +kernel
theorem DX8_tell_22 : decode jX8_tell.2.1 22 = .ok (.iastore, 1) := by decide +kernel
theorem DX8_tell_23 : decode jX8_tell.2.1 23 = .ok (.iload_n 3, 1) := by decide +kernel
theorem DX8_tell_24 : decode jX8_tell.2.1 24 = .ok (.ireturn, 1) := by decide +kernel
theorem DX8_counted_0 : decode jX8_counted.2.1 0 = .ok (.iload_n 1, 1) := by decide +kernel
theorem DX8_counted_1 : decode jX8_counted.2.1 1 = .ok (.invokestatic 18, 3) := by decide +kernel
theorem DX8_counted_4 : decode jX8_counted.2.1 4 = .ok (.ifCond .ne 5, 3) := by decide +kernel
theorem DX8_counted_7 : decode jX8_counted.2.1 7 = .ok (.iconst 0, 1) := by decide +kernel
theorem DX8_counted_8 : decode jX8_counted.2.1 8 = .ok (.ireturn, 1) := by decide +kernel
theorem DX8_counted_9 : decode jX8_counted.2.1 9 = .ok (.aload_n 0, 1) := by decide +kernel
theorem DX8_counted_10 : decode jX8_counted.2.1 10 = .ok (.getfield 9, 3) := by decide +kernel
theorem DX8_counted_13 : decode jX8_counted.2.1 13 = .ok (.iload_n 1, 1) := by decide +kernel
theorem DX8_counted_14 : decode jX8_counted.2.1 14 = .ok (.iaload, 1) := by decide +kernel
theorem DX8_counted_15 : decode jX8_counted.2.1 15 = .ok (.iconst (-1), 1) := by decide +kernel
theorem DX8_counted_16 : decode jX8_counted.2.1 16 = .ok (.if_icmp .eq 10, 3) := by decide +kernel
theorem DX8_counted_19 : decode jX8_counted.2.1 19 = .ok (.aload_n 0, 1) := by decide +kernel
theorem DX8_counted_20 : decode jX8_counted.2.1 20 = .ok (.getfield 9, 3) := by decide +kernel
theorem DX8_counted_23 : decode jX8_counted.2.1 23 = .ok (.iload_n 1, 1) := by decide +kernel
theorem DX8_counted_24 : decode jX8_counted.2.1 24 = .ok (.iaload, 1) := by decide +kernel
theorem DX8_counted_25 : decode jX8_counted.2.1 25 = .ok (.ireturn, 1) := by decide +kernel
theorem DX8_counted_26 : decode jX8_counted.2.1 26 = .ok (.iload_n 1, 1) := by decide +kernel
theorem DX8_counted_27 : decode jX8_counted.2.1 27 = .ok (.bipush 13, 2) := by decide +kernel
theorem DX8_counted_29 : decode jX8_counted.2.1 29 = .ok (.idiv, 1) := by decide +kernel
theorem DX8_counted_30 : decode jX8_counted.2.1 30 = .ok (.bipush 13, 2) := by decide +kernel
theorem DX8_counted_32 : decode jX8_counted.2.1 32 = .ok (.imul, 1) := by decide +kernel
theorem DX8_counted_33 : decode jX8_counted.2.1 33 = .ok (.istore_n 2, 1) := by decide +kernel
theorem DX8_counted_34 : decode jX8_counted.2.1 34 = .ok (.iconst (-1), 1) := by decide +kernel
theorem DX8_counted_35 : decode jX8_counted.2.1 35 = .ok (.istore_n 3, 1) := by decide +kernel
theorem DX8_counted_36 : decode jX8_counted.2.1 36 = .ok (.iload_n 2, 1) := by decide +kernel
theorem DX8_counted_37 : decode jX8_counted.2.1 37 = .ok (.istore 4, 2) := by decide +kernel
theorem DX8_counted_39 : decode jX8_counted.2.1 39 = .ok (.iload 4, 2) := by decide +kernel
theorem DX8_counted_41 : decode jX8_counted.2.1 41 = .ok (.iload_n 2, 1) := by decide +kernel
theorem DX8_counted_42 : decode jX8_counted.2.1 42 = .ok (.bipush 13, 2) := by decide +kernel
theorem DX8_counted_44 : decode jX8_counted.2.1 44 = .ok (.iadd, 1) := by decide +kernel
theorem DX8_counted_45 : decode jX8_counted.2.1 45 = .ok (.if_icmp .ge 28, 3) := by decide +kernel
theorem DX8_counted_48 : decode jX8_counted.2.1 48 = .ok (.iload 4, 2) := by decide +kernel
theorem DX8_counted_50 : decode jX8_counted.2.1 50 = .ok (.bipush 52, 2) := by decide +kernel
theorem DX8_counted_52 : decode jX8_counted.2.1 52 = .ok (.if_icmp .ge 21, 3) := by decide +kernel
theorem DX8_counted_55 : decode jX8_counted.2.1 55 = .ok (.iload_n 3, 1) := by decide +kernel
theorem DX8_counted_56 : decode jX8_counted.2.1 56 = .ok (.aload_n 0, 1) := by decide +kernel
theorem DX8_counted_57 : decode jX8_counted.2.1 57 = .ok (.getfield 9, 3) := by decide +kernel
theorem DX8_counted_60 : decode jX8_counted.2.1 60 = .ok (.iload 4, 2) := by decide +kernel
theorem DX8_counted_62 : decode jX8_counted.2.1 62 = .ok (.iaload, 1) := by decide +kernel
theorem DX8_counted_63 : decode jX8_counted.2.1 63 = .ok (.invokestatic 22, 3) := by decide +kernel
theorem DX8_counted_66 : decode jX8_counted.2.1 66 = .ok (.istore_n 3, 1) := by decide +kernel
theorem DX8_counted_67 : decode jX8_counted.2.1 67 = .ok (.iinc 4 1, 3) := by decide +kernel
theorem DX8_counted_70 : decode jX8_counted.2.1 70 = .ok (.goto (-31), 3) := by decide +kernel
theorem DX8_counted_73 : decode jX8_counted.2.1 73 = .ok (.iload_n 3, 1) := by decide +kernel
theorem DX8_counted_74 : decode jX8_counted.2.1 74 = .ok (.iconst (-1), 1) := by decide +kernel
theorem DX8_counted_75 : decode jX8_counted.2.1 75 = .ok (.if_icmp .ne 7, 3) := by decide +kernel
theorem DX8_counted_78 : decode jX8_counted.2.1 78 = .ok (.iconst 5, 1) := by decide +kernel
theorem DX8_counted_79 : decode jX8_counted.2.1 79 = .ok (.goto 4, 3) := by decide +kernel
theorem DX8_counted_82 : decode jX8_counted.2.1 82 = .ok (.iload_n 3, 1) := by decide +kernel
theorem DX8_counted_83 : decode jX8_counted.2.1 83 = .ok (.ireturn, 1) := by decide +kernel
theorem DX8_wetOf_0 : decode jX8_wetOf.2.1 0 = .ok (.aload_n 0, 1) := by decide +kernel
theorem DX8_wetOf_1 : decode jX8_wetOf.2.1 1 = .ok (.iload_n 1, 1) := by decide +kernel
theorem DX8_wetOf_2 : decode jX8_wetOf.2.1 2 = .ok (.invokevirtual 28, 3) := by decide +kernel
theorem DX8_wetOf_5 : decode jX8_wetOf.2.1 5 = .ok (.istore_n 2, 1) := by decide +kernel
theorem DX8_wetOf_6 : decode jX8_wetOf.2.1 6 = .ok (.iload_n 2, 1) := by decide +kernel
theorem DX8_wetOf_7 : decode jX8_wetOf.2.1 7 = .ok (.bipush 7, 2) := by decide +kernel
theorem DX8_wetOf_9 : decode jX8_wetOf.2.1 9 = .ok (.if_icmp .lt 9, 3) := by decide +kernel
theorem DX8_wetOf_12 : decode jX8_wetOf.2.1 12 = .ok (.iconst 2, 1) := by decide +kernel
theorem DX8_wetOf_13 : decode jX8_wetOf.2.1 13 = .ok (.iload_n 2, 1) := by decide +kernel
theorem DX8_wetOf_14 : decode jX8_wetOf.2.1 14 = .ok (.imul, 1) := by decide +kernel
theorem DX8_wetOf_15 : decode jX8_wetOf.2.1 15 = .ok (.goto 4, 3) := by decide +kernel
theorem DX8_wetOf_18 : decode jX8_wetOf.2.1 18 = .ok (.iload_n 2, 1) := by decide +kernel
theorem DX8_wetOf_19 : decode jX8_wetOf.2.1 19 = .ok (.ireturn, 1) := by decide +kernel
theorem DX8_turn_0 : decode jX8_turn.2.1 0 = .ok (.aload_n 0, 1) := by decide +kernel
theorem DX8_turn_1 : decode jX8_turn.2.1 1 = .ok (.dup, 1) := by decide +kernel
theorem DX8_turn_2 : decode jX8_turn.2.1 2 = .ok (.getfield 32, 3) := by decide +kernel
theorem DX8_turn_5 : decode jX8_turn.2.1 5 = .ok (.iconst 1, 1) := by decide +kernel
theorem DX8_turn_6 : decode jX8_turn.2.1 6 = .ok (.iadd, 1) := by decide +kernel
theorem DX8_turn_7 : decode jX8_turn.2.1 7 = .ok (.putfield 32, 3) := by decide +kernel
theorem DX8_turn_10 : decode jX8_turn.2.1 10 = .ok (.aload_n 0, 1) := by decide +kernel
theorem DX8_turn_11 : decode jX8_turn.2.1 11 = .ok (.iconst 0, 1) := by decide +kernel
theorem DX8_turn_12 : decode jX8_turn.2.1 12 = .ok (.putfield 36, 3) := by decide +kernel
theorem DX8_turn_15 : decode jX8_turn.2.1 15 = .ok (.aload_n 0, 1) := by decide +kernel
theorem DX8_turn_16 : decode jX8_turn.2.1 16 = .ok (.invokevirtual 15, 3) := by decide +kernel
theorem DX8_turn_19 : decode jX8_turn.2.1 19 = .ok (.return_, 1) := by decide +kernel
theorem DX9_init_0 : decode jX9_init.2.1 0 = .ok (.aload_n 0, 1) := by decide +kernel
theorem DX9_init_1 : decode jX9_init.2.1 1 = .ok (.invokespecial 3, 3) := by decide +kernel
theorem DX9_init_4 : decode jX9_init.2.1 4 = .ok (.aload_n 0, 1) := by decide +kernel
theorem DX9_init_5 : decode jX9_init.2.1 5 = .ok (.bipush 6, 2) := by decide +kernel
theorem DX9_init_7 : decode jX9_init.2.1 7 = .ok (.anewarray 9, 3) := by decide +kernel
theorem DX9_init_10 : decode jX9_init.2.1 10 = .ok (.putfield 11, 3) := by decide +kernel
theorem DX9_init_13 : decode jX9_init.2.1 13 = .ok (.aload_n 0, 1) := by decide +kernel
theorem DX9_init_14 : decode jX9_init.2.1 14 = .ok (.bipush 6, 2) := by decide +kernel
theorem DX9_init_16 : decode jX9_init.2.1 16 = .ok (.newarray .int, 2) := by decide +kernel
theorem DX9_init_18 : decode jX9_init.2.1 18 = .ok (.putfield 17, 3) := by decide +kernel
theorem DX9_init_21 : decode jX9_init.2.1 21 = .ok (.aload_n 0, 1) := by decide +kernel
theorem DX9_init_22 : decode jX9_init.2.1 22 = .ok (.bipush 6, 2) := by decide +kernel
theorem DX9_init_24 : decode jX9_init.2.1 24 = .ok (.newarray .int, 2) := by decide +kernel
theorem DX9_init_26 : decode jX9_init.2.1 26 = .ok (.putfield 21, 3) := by decide +kernel
theorem DX9_init_29 : decode jX9_init.2.1 29 = .ok (.aload_n 0, 1) := by decide +kernel
theorem DX9_init_30 : decode jX9_init.2.1 30 = .ok (.bipush 6, 2) := by decide +kernel
theorem DX9_init_32 : decode jX9_init.2.1 32 = .ok (.newarray .int, 2) := by decide +kernel
theorem DX9_init_34 : decode jX9_init.2.1 34 = .ok (.putfield 24, 3) := by decide +kernel
theorem DX9_init_37 : decode jX9_init.2.1 37 = .ok (.return_, 1) := by decide +kernel
theorem DX9_isPlace_0 : decode jX9_isPlace.2.1 0 = .ok (.iload_n 0, 1) := by decide +kernel
theorem DX9_isPlace_1 : decode jX9_isPlace.2.1 1 = .ok (.ifCond .lt 13, 3) := by decide +kernel
theorem DX9_isPlace_4 : decode jX9_isPlace.2.1 4 = .ok (.iload_n 0, 1) := by decide +kernel
theorem DX9_isPlace_5 : decode jX9_isPlace.2.1 5 = .ok (.bipush 6, 2) := by decide +kernel
theorem DX9_isPlace_7 : decode jX9_isPlace.2.1 7 = .ok (.if_icmp .ge 7, 3) := by decide +kernel
theorem DX9_isPlace_10 : decode jX9_isPlace.2.1 10 = .ok (.iconst 1, 1) := by decide +kernel
theorem DX9_isPlace_11 : decode jX9_isPlace.2.1 11 = .ok (.goto 4, 3) := by decide +kernel
theorem DX9_isPlace_14 : decode jX9_isPlace.2.1 14 = .ok (.iconst 0, 1) := by decide +kernel
theorem DX9_isPlace_15 : decode jX9_isPlace.2.1 15 = .ok (.ireturn, 1) := by decide +kernel
theorem DX9_ropeAt_0 : decode jX9_ropeAt.2.1 0 = .ok (.iload_n 1, 1) := by decide +kernel
theorem DX9_ropeAt_1 : decode jX9_ropeAt.2.1 1 = .ok (.invokestatic 27, 3) := by decide +kernel
theorem DX9_ropeAt_4 : decode jX9_ropeAt.2.1 4 = .ok (.ifCond .eq 12, 3) := by decide +kernel
theorem DX9_ropeAt_7 : decode jX9_ropeAt.2.1 7 = .ok (.aload_n 0, 1) := by decide +kernel
theorem DX9_ropeAt_8 : decode jX9_ropeAt.2.1 8 = .ok (.getfield 11, 3) := by decide +kernel
theorem DX9_ropeAt_11 : decode jX9_ropeAt.2.1 11 = .ok (.iload_n 1, 1) := by decide +kernel
theorem DX9_ropeAt_12 : decode jX9_ropeAt.2.1 12 = .ok (.aaload, 1) := by decide +kernel
theorem DX9_ropeAt_13 : decode jX9_ropeAt.2.1 13 = .ok (.goto 4, 3) := by decide +kernel
theorem DX9_ropeAt_16 : decode jX9_ropeAt.2.1 16 = .ok (.aconst_null, 1) := by decide +kernel
theorem DX9_ropeAt_17 : decode jX9_ropeAt.2.1 17 = .ok (.areturn, 1) := by decide +kernel
theorem DX9_put_0 : decode jX9_put.2.1 0 = .ok (.iload_n 2, 1) := by decide +kernel
theorem DX9_put_1 : decode jX9_put.2.1 1 = .ok (.invokestatic 27, 3) := by decide +kernel
theorem DX9_put_4 : decode jX9_put.2.1 4 = .ok (.ifCond .ne 4, 3) := by decide +kernel
theorem DX9_put_7 : decode jX9_put.2.1 7 = .ok (.return_, 1) := by decide +kernel
theorem DX9_put_8 : decode jX9_put.2.1 8 = .ok (.aload_n 0, 1) := by decide +kernel
theorem DX9_put_9 : decode jX9_put.2.1 9 = .ok (.getfield 11, 3) := by decide +kernel
theorem DX9_put_12 : decode jX9_put.2.1 12 = .ok (.iload_n 2, 1) := by decide +kernel
theorem DX9_put_13 : decode jX9_put.2.1 13 = .ok (.aload_n 1, 1) := by decide +kernel
theorem DX9_put_14 : decode jX9_put.2.1 14 = .ok (.aastore, 1) := by decide +kernel
theorem DX9_put_15 : decode jX9_put.2.1 15 = .ok (.aload_n 0, 1) := by decide +kernel
theorem DX9_put_16 : decode jX9_put.2.1 16 = .ok (.getfield 17, 3) := by decide +kernel
theorem DX9_put_19 : decode jX9_put.2.1 19 = .ok (.iload_n 2, 1) := by decide +kernel
theorem DX9_put_20 : decode jX9_put.2.1 20 = .ok (.bipush 50, 2) := by decide +kernel
theorem DX9_put_22 : decode jX9_put.2.1 22 = .ok (.iastore, 1) := by decide +kernel
theorem DX9_put_23 : decode jX9_put.2.1 23 = .ok (.aload_n 0, 1) := by decide +kernel
theorem DX9_put_24 : decode jX9_put.2.1 24 = .ok (.getfield 21, 3) := by decide +kernel
theorem DX9_put_27 : decode jX9_put.2.1 27 = .ok (.iload_n 2, 1) := by decide +kernel
theorem DX9_put_28 : decode jX9_put.2.1 28 = .ok (.iconst 0, 1) := by decide +kernel
theorem DX9_put_29 : decode jX9_put.2.1 29 = .ok (.iastore, 1) := by decide +kernel
theorem DX9_put_30 : decode jX9_put.2.1 30 = .ok (.aload_n 0, 1) := by decide +kernel
theorem DX9_put_31 : decode jX9_put.2.1 31 = .ok (.getfield 24, 3) := by decide +kernel
theorem DX9_put_34 : decode jX9_put.2.1 34 = .ok (.iload_n 2, 1) := by decide +kernel
theorem DX9_put_35 : decode jX9_put.2.1 35 = .ok (.iload_n 3, 1) := by decide +kernel
theorem DX9_put_36 : decode jX9_put.2.1 36 = .ok (.iastore, 1) := by decide +kernel
theorem DX9_put_37 : decode jX9_put.2.1 37 = .ok (.aload_n 1, 1) := by decide +kernel
theorem DX9_put_38 : decode jX9_put.2.1 38 = .ok (.iconst 1, 1) := by decide +kernel
theorem DX9_put_39 : decode jX9_put.2.1 39 = .ok (.putfield 31, 3) := by decide +kernel
theorem DX9_put_42 : decode jX9_put.2.1 42 = .ok (.aload_n 1, 1) := by decide +kernel
theorem DX9_put_43 : decode jX9_put.2.1 43 = .ok (.iload_n 2, 1) := by decide +kernel
theorem DX9_put_44 : decode jX9_put.2.1 44 = .ok (.putfield 35, 3) := by decide +kernel
theorem DX9_put_47 : decode jX9_put.2.1 47 = .ok (.return_, 1) := by decide +kernel
theorem DX9_takeFrom_0 : decode jX9_takeFrom.2.1 0 = .ok (.aload_n 0, 1) := by decide +kernel
theorem DX9_takeFrom_1 : decode jX9_takeFrom.2.1 1 = .ok (.iload_n 1, 1) := by decide +kernel
theorem DX9_takeFrom_2 : decode jX9_takeFrom.2.1 2 = .ok (.invokevirtual 39, 3) := by decide +kernel
theorem DX9_takeFrom_5 : decode jX9_takeFrom.2.1 5 = .ok (.astore_n 2, 1) := by decide +kernel
theorem DX9_takeFrom_6 : decode jX9_takeFrom.2.1 6 = .ok (.aload_n 2, 1) := by decide +kernel
theorem DX9_takeFrom_7 : decode jX9_takeFrom.2.1 7 = .ok (.ifnull 16, 3) := by decide +kernel
theorem DX9_takeFrom_10 : decode jX9_takeFrom.2.1 10 = .ok (.aload_n 0, 1) := by decide +kernel
theorem DX9_takeFrom_11 : decode jX9_takeFrom.2.1 11 = .ok (.getfield 11, 3) := by decide +kernel
theorem DX9_takeFrom_14 : decode jX9_takeFrom.2.1 14 = .ok (.iload_n 1, 1) := by decide +kernel
theorem DX9_takeFrom_15 : decode jX9_takeFrom.2.1 15 = .ok (.aconst_null, 1) := by decide +kernel
theorem DX9_takeFrom_16 : decode jX9_takeFrom.2.1 16 = .ok (.aastore, 1) := by decide +kernel
theorem DX9_takeFrom_17 : decode jX9_takeFrom.2.1 17 = .ok (.aload_n 2, 1) := by decide +kernel
theorem DX9_takeFrom_18 : decode jX9_takeFrom.2.1 18 = .ok (.bipush (-9), 2) := by decide +kernel
theorem DX9_takeFrom_20 : decode jX9_takeFrom.2.1 20 = .ok (.putfield 35, 3) := by decide +kernel
theorem DX9_takeFrom_23 : decode jX9_takeFrom.2.1 23 = .ok (.aload_n 2, 1) := by decide +kernel
theorem DX9_takeFrom_24 : decode jX9_takeFrom.2.1 24 = .ok (.areturn, 1) := by decide +kernel
theorem DX9_tighten_0 : decode jX9_tighten.2.1 0 = .ok (.iload_n 1, 1) := by decide +kernel
theorem DX9_tighten_1 : decode jX9_tighten.2.1 1 = .ok (.invokestatic 27, 3) := by decide +kernel
theorem DX9_tighten_4 : decode jX9_tighten.2.1 4 = .ok (.ifCond .ne 5, 3) := by decide +kernel
theorem DX9_tighten_7 : decode jX9_tighten.2.1 7 = .ok (.iconst 0, 1) := by decide +kernel
theorem DX9_tighten_8 : decode jX9_tighten.2.1 8 = .ok (.ireturn, 1) := by decide +kernel
theorem DX9_tighten_9 : decode jX9_tighten.2.1 9 = .ok (.aload_n 0, 1) := by decide +kernel
theorem DX9_tighten_10 : decode jX9_tighten.2.1 10 = .ok (.getfield 17, 3) := by decide +kernel
theorem DX9_tighten_13 : decode jX9_tighten.2.1 13 = .ok (.iload_n 1, 1) := by decide +kernel
theorem DX9_tighten_14 : decode jX9_tighten.2.1 14 = .ok (.iaload, 1) := by decide +kernel
theorem DX9_tighten_15 : decode jX9_tighten.2.1 15 = .ok (.istore_n 3, 1) := by decide +kernel
theorem DX9_tighten_16 : decode jX9_tighten.2.1 16 = .ok (.aload_n 0, 1) := by decide +kernel
theorem DX9_tighten_17 : decode jX9_tighten.2.1 17 = .ok (.getfield 17, 3) := by decide +kernel
theorem DX9_tighten_20 : decode jX9_tighten.2.1 20 = .ok (.iload_n 1, 1) := by decide +kernel
theorem DX9_tighten_21 : decode jX9_tighten.2.1 21 = .ok (.iload_n 2, 1) := by decide +kernel
theorem DX9_tighten_22 : decode jX9_tighten.2.1 22 = .ok (.iastore, 1) := by decide +kernel
theorem DX9_tighten_23 : decode jX9_tighten.2.1 23 = .ok (.iload_n 3, 1) := by decide +kernel
theorem DX9_tighten_24 : decode jX9_tighten.2.1 24 = .ok (.ireturn, 1) := by decide +kernel
theorem DX9_soak_0 : decode jX9_soak.2.1 0 = .ok (.iconst 0, 1) := by decide +kernel
theorem DX9_soak_1 : decode jX9_soak.2.1 1 = .ok (.istore_n 2, 1) := by decide +kernel
theorem DX9_soak_2 : decode jX9_soak.2.1 2 = .ok (.iload_n 2, 1) := by decide +kernel
theorem DX9_soak_3 : decode jX9_soak.2.1 3 = .ok (.bipush 6, 2) := by decide +kernel
theorem DX9_soak_5 : decode jX9_soak.2.1 5 = .ok (.if_icmp .ge 19, 3) := by decide +kernel
theorem DX9_soak_8 : decode jX9_soak.2.1 8 = .ok (.aload_n 0, 1) := by decide +kernel
theorem DX9_soak_9 : decode jX9_soak.2.1 9 = .ok (.getfield 21, 3) := by decide +kernel
theorem DX9_soak_12 : decode jX9_soak.2.1 12 = .ok (.iload_n 2, 1) := by decide +kernel
theorem DX9_soak_13 : decode jX9_soak.2.1 13 = .ok (.dup2, 1) := by decide +kernel
theorem DX9_soak_14 : decode jX9_soak.2.1 14 = .ok (.iaload, 1) := by decide +kernel
theorem DX9_soak_15 : decode jX9_soak.2.1 15 = .ok (.iload_n 1, 1) := by decide +kernel
theorem DX9_soak_16 : decode jX9_soak.2.1 16 = .ok (.iadd, 1) := by decide +kernel
theorem DX9_soak_17 : decode jX9_soak.2.1 17 = .ok (.iastore, 1) := by decide +kernel
theorem DX9_soak_18 : decode jX9_soak.2.1 18 = .ok (.iinc 2 1, 3) := by decide +kernel
theorem DX9_soak_21 : decode jX9_soak.2.1 21 = .ok (.goto (-19), 3) := by decide +kernel
theorem DX9_soak_24 : decode jX9_soak.2.1 24 = .ok (.return_, 1) := by decide +kernel
theorem DX9_strengthAt_0 : decode jX9_strengthAt.2.1 0 = .ok (.aload_n 0, 1) := by decide +kernel
theorem DX9_strengthAt_1 : decode jX9_strengthAt.2.1 1 = .ok (.iload_n 1, 1) := by decide +kernel
theorem DX9_strengthAt_2 : decode jX9_strengthAt.2.1 2 = .ok (.invokevirtual 39, 3) := by decide +kernel
theorem DX9_strengthAt_5 : decode jX9_strengthAt.2.1 5 = .ok (.astore 4, 2) := by decide +kernel
theorem DX9_strengthAt_7 : decode jX9_strengthAt.2.1 7 = .ok (.aload 4, 2) := by decide +kernel
theorem DX9_strengthAt_9 : decode jX9_strengthAt.2.1 9 = .ok (.ifnonnull 5, 3) := by decide +kernel
theorem DX9_strengthAt_12 : decode jX9_strengthAt.2.1 12 = .ok (.iconst 0, 1) := by decide +kernel
theorem DX9_strengthAt_13 : decode jX9_strengthAt.2.1 13 = .ok (.ireturn, 1) := by decide +kernel
theorem DX9_strengthAt_14 : decode jX9_strengthAt.2.1 14 = .ok (.aload_n 0, 1) := by decide +kernel
theorem DX9_strengthAt_15 : decode jX9_strengthAt.2.1 15 = .ok (.getfield 21, 3) := by decide +kernel
theorem DX9_strengthAt_18 : decode jX9_strengthAt.2.1 18 = .ok (.iload_n 1, 1) := by decide +kernel
theorem DX9_strengthAt_19 : decode jX9_strengthAt.2.1 19 = .ok (.iaload, 1) := by decide +kernel
theorem DX9_strengthAt_20 : decode jX9_strengthAt.2.1 20 = .ok (.iload_n 3, 1) := by decide +kernel
theorem DX9_strengthAt_21 : decode jX9_strengthAt.2.1 21 = .ok (.iadd, 1) := by decide +kernel
theorem DX9_strengthAt_22 : decode jX9_strengthAt.2.1 22 = .ok (.iconst 3, 1) := by decide +kernel
theorem DX9_strengthAt_23 : decode jX9_strengthAt.2.1 23 = .ok (.idiv, 1) := by decide +kernel
theorem DX9_strengthAt_24 : decode jX9_strengthAt.2.1 24 = .ok (.bipush 40, 2) := by decide +kernel
theorem DX9_strengthAt_26 : decode jX9_strengthAt.2.1 26 = .ok (.iload_n 2, 1) := by decide +kernel
theorem DX9_strengthAt_27 : decode jX9_strengthAt.2.1 27 = .ok (.aload_n 0, 1) := by decide +kernel
theorem DX9_strengthAt_28 : decode jX9_strengthAt.2.1 28 = .ok (.getfield 24, 3) := by decide +kernel
theorem DX9_strengthAt_31 : decode jX9_strengthAt.2.1 31 = .ok (.iload_n 1, 1) := by decide +kernel
theorem DX9_strengthAt_32 : decode jX9_strengthAt.2.1 32 = .ok (.iaload, 1) := by decide +kernel
theorem DX9_strengthAt_33 : decode jX9_strengthAt.2.1 33 = .ok (.isub, 1) := by decide +kernel
theorem DX9_strengthAt_34 : decode jX9_strengthAt.2.1 34 = .ok (.imul, 1) := by decide +kernel
theorem DX9_strengthAt_35 : decode jX9_strengthAt.2.1 35 = .ok (.iadd, 1) := by decide +kernel
theorem DX9_strengthAt_36 : decode jX9_strengthAt.2.1 36 = .ok (.istore 5, 2) := by decide +kernel
theorem DX9_strengthAt_38 : decode jX9_strengthAt.2.1 38 = .ok (.iconst 0, 1) := by decide +kernel
theorem DX9_strengthAt_39 : decode jX9_strengthAt.2.1 39 = .ok (.aload 4, 2) := by decide +kernel
theorem DX9_strengthAt_41 : decode jX9_strengthAt.2.1 41 = .ok (.getfield 43, 3) := by decide +kernel
theorem DX9_strengthAt_44 : decode jX9_strengthAt.2.1 44 = .ok (.bipush 10, 2) := by decide +kernel
theorem DX9_strengthAt_46 : decode jX9_strengthAt.2.1 46 = .ok (.imul, 1) := by decide +kernel
theorem DX9_strengthAt_47 : decode jX9_strengthAt.2.1 47 = .ok (.iload 5, 2) := by decide +kernel
theorem DX9_strengthAt_49 : decode jX9_strengthAt.2.1 49 = .ok (.isub, 1) := by decide +kernel
theorem DX9_strengthAt_50 : decode jX9_strengthAt.2.1 50 = .ok (.invokestatic 46, 3) := by decide +kernel
theorem DX9_strengthAt_53 : decode jX9_strengthAt.2.1 53 = .ok (.ireturn, 1) := by decide +kernel
theorem DX9_bearing_0 : decode jX9_bearing.2.1 0 = .ok (.sipush 2430, 3) := by decide +kernel
theorem DX9_bearing_3 : decode jX9_bearing.2.1 3 = .ok (.istore_n 3, 1) := by decide +kernel
theorem DX9_bearing_4 : decode jX9_bearing.2.1 4 = .ok (.bipush 99, 2) := by decide +kernel
theorem DX9_bearing_6 : decode jX9_bearing.2.1 6 = .ok (.istore 4, 2) := by decide +kernel
theorem DX9_bearing_8 : decode jX9_bearing.2.1 8 = .ok (.iconst 0, 1) := by decide +kernel
theorem DX9_bearing_9 : decode jX9_bearing.2.1 9 = .ok (.istore 5, 2) := by decide +kernel
theorem DX9_bearing_11 : decode jX9_bearing.2.1 11 = .ok (.iconst 0, 1) := by decide +kernel
theorem DX9_bearing_12 : decode jX9_bearing.2.1 12 = .ok (.istore 6, 2) := by decide +kernel
theorem DX9_bearing_14 : decode jX9_bearing.2.1 14 = .ok (.iload 6, 2) := by decide +kernel
theorem DX9_bearing_16 : decode jX9_bearing.2.1 16 = .ok (.iconst 4, 1) := by decide +kernel
theorem DX9_bearing_17 : decode jX9_bearing.2.1 17 = .ok (.if_icmp .ge 62, 3) := by decide +kernel
theorem DX9_bearing_20 : decode jX9_bearing.2.1 20 = .ok (.aload_n 0, 1) := by decide +kernel
theorem DX9_bearing_21 : decode jX9_bearing.2.1 21 = .ok (.getfield 11, 3) := by decide +kernel
theorem DX9_bearing_24 : decode jX9_bearing.2.1 24 = .ok (.iload 6, 2) := by decide +kernel
theorem DX9_bearing_26 : decode jX9_bearing.2.1 26 = .ok (.aaload, 1) := by decide +kernel
theorem DX9_bearing_27 : decode jX9_bearing.2.1 27 = .ok (.ifnonnull 5, 3) := by decide +kernel
theorem DX9_bearing_30 : decode jX9_bearing.2.1 30 = .ok (.iconst 0, 1) := by decide +kernel
theorem DX9_bearing_31 : decode jX9_bearing.2.1 31 = .ok (.ireturn, 1) := by decide +kernel
theorem DX9_bearing_32 : decode jX9_bearing.2.1 32 = .ok (.iload_n 3, 1) := by decide +kernel
theorem DX9_bearing_33 : decode jX9_bearing.2.1 33 = .ok (.aload_n 0, 1) := by decide +kernel
theorem DX9_bearing_34 : decode jX9_bearing.2.1 34 = .ok (.iload 6, 2) := by decide +kernel
theorem DX9_bearing_36 : decode jX9_bearing.2.1 36 = .ok (.iload_n 1, 1) := by decide +kernel
theorem DX9_bearing_37 : decode jX9_bearing.2.1 37 = .ok (.iload_n 2, 1) := by decide +kernel
theorem DX9_bearing_38 : decode jX9_bearing.2.1 38 = .ok (.invokevirtual 52, 3) := by decide +kernel
theorem DX9_bearing_41 : decode jX9_bearing.2.1 41 = .ok (.invokestatic 56, 3) := by decide +kernel
theorem DX9_bearing_44 : decode jX9_bearing.2.1 44 = .ok (.istore_n 3, 1) := by decide +kernel
theorem DX9_bearing_45 : decode jX9_bearing.2.1 45 = .ok (.iload 4, 2) := by decide +kernel
theorem DX9_bearing_47 : decode jX9_bearing.2.1 47 = .ok (.aload_n 0, 1) := by decide +kernel
theorem DX9_bearing_48 : decode jX9_bearing.2.1 48 = .ok (.getfield 17, 3) := by decide +kernel
theorem DX9_bearing_51 : decode jX9_bearing.2.1 51 = .ok (.iload 6, 2) := by decide +kernel
theorem DX9_bearing_53 : decode jX9_bearing.2.1 53 = .ok (.iaload, 1) := by decide +kernel
theorem DX9_bearing_54 : decode jX9_bearing.2.1 54 = .ok (.invokestatic 56, 3) := by decide +kernel
theorem DX9_bearing_57 : decode jX9_bearing.2.1 57 = .ok (.istore 4, 2) := by decide +kernel
theorem DX9_bearing_59 : decode jX9_bearing.2.1 59 = .ok (.iload 5, 2) := by decide +kernel
theorem DX9_bearing_61 : decode jX9_bearing.2.1 61 = .ok (.aload_n 0, 1) := by decide +kernel
theorem DX9_bearing_62 : decode jX9_bearing.2.1 62 = .ok (.getfield 17, 3) := by decide +kernel
theorem DX9_bearing_65 : decode jX9_bearing.2.1 65 = .ok (.iload 6, 2) := by decide +kernel
theorem DX9_bearing_67 : decode jX9_bearing.2.1 67 = .ok (.iaload, 1) := by decide +kernel
theorem DX9_bearing_68 : decode jX9_bearing.2.1 68 = .ok (.invokestatic 46, 3) := by decide +kernel
theorem DX9_bearing_71 : decode jX9_bearing.2.1 71 = .ok (.istore 5, 2) := by decide +kernel
theorem DX9_bearing_73 : decode jX9_bearing.2.1 73 = .ok (.iinc 6 1, 3) := by decide +kernel
theorem DX9_bearing_76 : decode jX9_bearing.2.1 76 = .ok (.goto (-62), 3) := by decide +kernel
theorem DX9_bearing_79 : decode jX9_bearing.2.1 79 = .ok (.iconst 0, 1) := by decide +kernel
theorem DX9_bearing_80 : decode jX9_bearing.2.1 80 = .ok (.iconst 4, 1) := by decide +kernel
theorem DX9_bearing_81 : decode jX9_bearing.2.1 81 = .ok (.iload_n 3, 1) := by decide +kernel
theorem DX9_bearing_82 : decode jX9_bearing.2.1 82 = .ok (.imul, 1) := by decide +kernel
theorem DX9_bearing_83 : decode jX9_bearing.2.1 83 = .ok (.iload 5, 2) := by decide +kernel
theorem DX9_bearing_85 : decode jX9_bearing.2.1 85 = .ok (.iload 4, 2) := by decide +kernel
theorem DX9_bearing_87 : decode jX9_bearing.2.1 87 = .ok (.isub, 1) := by decide +kernel
theorem DX9_bearing_88 : decode jX9_bearing.2.1 88 = .ok (.isub, 1) := by decide +kernel
theorem DX9_bearing_89 : decode jX9_bearing.2.1 89 = .ok (.invokestatic 46, 3) := by decide +kernel
theorem DX9_bearing_92 : decode jX9_bearing.2.1 92 = .ok (.ireturn, 1) := by decide +kernel
theorem DX9_lets_0 : decode jX9_lets.2.1 0 = .ok (.iconst 4, 1) := by decide +kernel
theorem DX9_lets_1 : decode jX9_lets.2.1 1 = .ok (.istore 4, 2) := by decide +kernel
theorem DX9_lets_3 : decode jX9_lets.2.1 3 = .ok (.iload 4, 2) := by decide +kernel
theorem DX9_lets_5 : decode jX9_lets.2.1 5 = .ok (.bipush 6, 2) := by decide +kernel
theorem DX9_lets_7 : decode jX9_lets.2.1 7 = .ok (.if_icmp .ge 22, 3) := by decide +kernel
theorem DX9_lets_10 : decode jX9_lets.2.1 10 = .ok (.aload_n 0, 1) := by decide +kernel
theorem DX9_lets_11 : decode jX9_lets.2.1 11 = .ok (.iload 4, 2) := by decide +kernel
theorem DX9_lets_13 : decode jX9_lets.2.1 13 = .ok (.iload_n 2, 1) := by decide +kernel
theorem DX9_lets_14 : decode jX9_lets.2.1 14 = .ok (.iload_n 3, 1) := by decide +kernel
theorem DX9_lets_15 : decode jX9_lets.2.1 15 = .ok (.invokevirtual 52, 3) := by decide +kernel
theorem DX9_lets_18 : decode jX9_lets.2.1 18 = .ok (.ifCond .ne 5, 3) := by decide +kernel
theorem DX9_lets_21 : decode jX9_lets.2.1 21 = .ok (.iconst 0, 1) := by decide +kernel
theorem DX9_lets_22 : decode jX9_lets.2.1 22 = .ok (.ireturn, 1) := by decide +kernel
theorem DX9_lets_23 : decode jX9_lets.2.1 23 = .ok (.iinc 4 1, 3) := by decide +kernel
theorem DX9_lets_26 : decode jX9_lets.2.1 26 = .ok (.goto (-23), 3) := by decide +kernel
theorem DX9_lets_29 : decode jX9_lets.2.1 29 = .ok (.iload_n 1, 1) := by decide +kernel
theorem DX9_lets_30 : decode jX9_lets.2.1 30 = .ok (.aload_n 0, 1) := by decide +kernel
theorem DX9_lets_31 : decode jX9_lets.2.1 31 = .ok (.iload_n 2, 1) := by decide +kernel
theorem DX9_lets_32 : decode jX9_lets.2.1 32 = .ok (.iload_n 3, 1) := by decide +kernel
theorem DX9_lets_33 : decode jX9_lets.2.1 33 = .ok (.invokevirtual 59, 3) := by decide +kernel
theorem DX9_lets_36 : decode jX9_lets.2.1 36 = .ok (.if_icmp .gt 7, 3) := by decide +kernel
theorem DX9_lets_39 : decode jX9_lets.2.1 39 = .ok (.iconst 1, 1) := by decide +kernel
theorem DX9_lets_40 : decode jX9_lets.2.1 40 = .ok (.goto 4, 3) := by decide +kernel
theorem DX9_lets_43 : decode jX9_lets.2.1 43 = .ok (.iconst 0, 1) := by decide +kernel
theorem DX9_lets_44 : decode jX9_lets.2.1 44 = .ok (.ireturn, 1) := by decide +kernel
theorem DX9_hungSet_0 : decode jX9_hungSet.2.1 0 = .ok (.iconst 0, 1) := by decide +kernel
theorem DX9_hungSet_1 : decode jX9_hungSet.2.1 1 = .ok (.istore_n 1, 1) := by decide +kernel
theorem DX9_hungSet_2 : decode jX9_hungSet.2.1 2 = .ok (.iconst 0, 1) := by decide +kernel
theorem DX9_hungSet_3 : decode jX9_hungSet.2.1 3 = .ok (.istore_n 2, 1) := by decide +kernel
theorem DX9_hungSet_4 : decode jX9_hungSet.2.1 4 = .ok (.iload_n 2, 1) := by decide +kernel
theorem DX9_hungSet_5 : decode jX9_hungSet.2.1 5 = .ok (.bipush 6, 2) := by decide +kernel
theorem DX9_hungSet_7 : decode jX9_hungSet.2.1 7 = .ok (.if_icmp .ge 28, 3) := by decide +kernel
theorem DX9_hungSet_10 : decode jX9_hungSet.2.1 10 = .ok (.iload_n 1, 1) := by decide +kernel
theorem DX9_hungSet_11 : decode jX9_hungSet.2.1 11 = .ok (.aload_n 0, 1) := by decide +kernel
theorem DX9_hungSet_12 : decode jX9_hungSet.2.1 12 = .ok (.getfield 11, 3) := by decide +kernel
theorem DX9_hungSet_15 : decode jX9_hungSet.2.1 15 = .ok (.iload_n 2, 1) := by decide +kernel
theorem DX9_hungSet_16 : decode jX9_hungSet.2.1 16 = .ok (.aaload, 1) := by decide +kernel
theorem DX9_hungSet_17 : decode jX9_hungSet.2.1 17 = .ok (.ifnonnull 7, 3) := by decide +kernel
theorem DX9_hungSet_20 : decode jX9_hungSet.2.1 20 = .ok (.iconst 0, 1) := by decide +kernel
theorem DX9_hungSet_21 : decode jX9_hungSet.2.1 21 = .ok (.goto 6, 3) := by decide +kernel
theorem DX9_hungSet_24 : decode jX9_hungSet.2.1 24 = .ok (.iconst 1, 1) := by decide +kernel
theorem DX9_hungSet_25 : decode jX9_hungSet.2.1 25 = .ok (.iload_n 2, 1) := by decide +kernel
theorem DX9_hungSet_26 : decode jX9_hungSet.2.1 26 = .ok (.ishl, 1) := by decide +kernel
theorem DX9_hungSet_27 : decode jX9_hungSet.2.1 27 = .ok (.ior, 1) := by decide +kernel
theorem DX9_hungSet_28 : decode jX9_hungSet.2.1 28 = .ok (.istore_n 1, 1) := by decide +kernel
theorem DX9_hungSet_29 : decode jX9_hungSet.2.1 29 = .ok (.iinc 2 1, 3) := by decide +kernel
theorem DX9_hungSet_32 : decode jX9_hungSet.2.1 32 = .ok (.goto (-28), 3) := by decide +kernel
theorem DX9_hungSet_35 : decode jX9_hungSet.2.1 35 = .ok (.iload_n 1, 1) := by decide +kernel
theorem DX9_hungSet_36 : decode jX9_hungSet.2.1 36 = .ok (.ireturn, 1) := by decide +kernel
theorem DX10_init_0 : decode jX10_init.2.1 0 = .ok (.aload_n 0, 1) := by decide +kernel
theorem DX10_init_1 : decode jX10_init.2.1 1 = .ok (.invokespecial 3, 3) := by decide +kernel
theorem DX10_init_4 : decode jX10_init.2.1 4 = .ok (.aload_n 0, 1) := by decide +kernel
theorem DX10_init_5 : decode jX10_init.2.1 5 = .ok (.bipush 12, 2) := by decide +kernel
theorem DX10_init_7 : decode jX10_init.2.1 7 = .ok (.newarray .int, 2) := by decide +kernel
theorem DX10_init_9 : decode jX10_init.2.1 9 = .ok (.putfield 9, 3) := by decide +kernel
theorem DX10_init_12 : decode jX10_init.2.1 12 = .ok (.aload_n 0, 1) := by decide +kernel
theorem DX10_init_13 : decode jX10_init.2.1 13 = .ok (.bipush 12, 2) := by decide +kernel
theorem DX10_init_15 : decode jX10_init.2.1 15 = .ok (.newarray .int, 2) := by decide +kernel
theorem DX10_init_17 : decode jX10_init.2.1 17 = .ok (.putfield 15, 3) := by decide +kernel
theorem DX10_init_20 : decode jX10_init.2.1 20 = .ok (.aload_n 0, 1) := by decide +kernel
theorem DX10_init_21 : decode jX10_init.2.1 21 = .ok (.bipush 12, 2) := by decide +kernel
theorem DX10_init_23 : decode jX10_init.2.1 23 = .ok (.newarray .int, 2) := by decide +kernel
theorem DX10_init_25 : decode jX10_init.2.1 25 = .ok (.putfield 18, 3) := by decide +kernel
theorem DX10_init_28 : decode jX10_init.2.1 28 = .ok (.aload_n 0, 1) := by decide +kernel
theorem DX10_init_29 : decode jX10_init.2.1 29 = .ok (.bipush 12, 2) := by decide +kernel
theorem DX10_init_31 : decode jX10_init.2.1 31 = .ok (.newarray .int, 2) := by decide +kernel
theorem DX10_init_33 : decode jX10_init.2.1 33 = .ok (.putfield 21, 3) := by decide +kernel
theorem DX10_init_36 : decode jX10_init.2.1 36 = .ok (.aload_n 0, 1) := by decide +kernel
theorem DX10_init_37 : decode jX10_init.2.1 37 = .ok (.bipush 12, 2) := by decide +kernel
theorem DX10_init_39 : decode jX10_init.2.1 39 = .ok (.newarray .int, 2) := by decide +kernel
theorem DX10_init_41 : decode jX10_init.2.1 41 = .ok (.putfield 24, 3) := by decide +kernel
theorem DX10_init_44 : decode jX10_init.2.1 44 = .ok (.return_, 1) := by decide +kernel
theorem DX10_areTold_0 : decode jX10_areTold.2.1 0 = .ok (.iload_n 1, 1) := by decide +kernel
theorem DX10_areTold_1 : decode jX10_areTold.2.1 1 = .ok (.ifCond .lt 17, 3) := by decide +kernel
theorem DX10_areTold_4 : decode jX10_areTold.2.1 4 = .ok (.iload_n 1, 1) := by decide +kernel
theorem DX10_areTold_5 : decode jX10_areTold.2.1 5 = .ok (.iconst 1, 1) := by decide +kernel
theorem DX10_areTold_6 : decode jX10_areTold.2.1 6 = .ok (.aload_n 0, 1) := by decide +kernel
theorem DX10_areTold_7 : decode jX10_areTold.2.1 7 = .ok (.getfield 27, 3) := by decide +kernel
theorem DX10_areTold_10 : decode jX10_areTold.2.1 10 = .ok (.ishl, 1) := by decide +kernel
theorem DX10_areTold_11 : decode jX10_areTold.2.1 11 = .ok (.if_icmp .ge 7, 3) := by decide +kernel
theorem DX10_areTold_14 : decode jX10_areTold.2.1 14 = .ok (.iconst 1, 1) := by decide +kernel
theorem DX10_areTold_15 : decode jX10_areTold.2.1 15 = .ok (.goto 4, 3) := by decide +kernel
theorem DX10_areTold_18 : decode jX10_areTold.2.1 18 = .ok (.iconst 0, 1) := by decide +kernel
theorem DX10_areTold_19 : decode jX10_areTold.2.1 19 = .ok (.ireturn, 1) := by decide +kernel
theorem DX10_tell_0 : decode jX10_tell.2.1 0 = .ok (.aload_n 0, 1) := by decide +kernel
theorem DX10_tell_1 : decode jX10_tell.2.1 1 = .ok (.getfield 27, 3) := by decide +kernel
theorem DX10_tell_4 : decode jX10_tell.2.1 4 = .ok (.bipush 12, 2) := by decide +kernel
theorem DX10_tell_6 : decode jX10_tell.2.1 6 = .ok (.if_icmp .lt 6, 3) := by decide +kernel
theorem DX10_tell_9 : decode jX10_tell.2.1 9 = .ok (.bipush (-6), 2) := by decide +kernel
theorem DX10_tell_11 : decode jX10_tell.2.1 11 = .ok (.ireturn, 1) := by decide +kernel
theorem DX10_tell_12 : decode jX10_tell.2.1 12 = .ok (.aload_n 0, 1) := by decide +kernel
theorem DX10_tell_13 : decode jX10_tell.2.1 13 = .ok (.getfield 9, 3) := by decide +kernel
theorem DX10_tell_16 : decode jX10_tell.2.1 16 = .ok (.aload_n 0, 1) := by decide +kernel
theorem DX10_tell_17 : decode jX10_tell.2.1 17 = .ok (.getfield 27, 3) := by decide +kernel
theorem DX10_tell_20 : decode jX10_tell.2.1 20 = .ok (.iload_n 1, 1) := by decide +kernel
theorem DX10_tell_21 : decode jX10_tell.2.1 21 = .ok (.iastore, 1) := by decide +kernel
theorem DX10_tell_22 : decode jX10_tell.2.1 22 = .ok (.aload_n 0, 1) := by decide +kernel
theorem DX10_tell_23 : decode jX10_tell.2.1 23 = .ok (.getfield 15, 3) := by decide +kernel
theorem DX10_tell_26 : decode jX10_tell.2.1 26 = .ok (.aload_n 0, 1) := by decide +kernel
theorem DX10_tell_27 : decode jX10_tell.2.1 27 = .ok (.getfield 27, 3) := by decide +kernel
theorem DX10_tell_30 : decode jX10_tell.2.1 30 = .ok (.iload_n 2, 1) := by decide +kernel
theorem DX10_tell_31 : decode jX10_tell.2.1 31 = .ok (.iastore, 1) := by decide +kernel
theorem DX10_tell_32 : decode jX10_tell.2.1 32 = .ok (.aload_n 0, 1) := by decide +kernel
theorem DX10_tell_33 : decode jX10_tell.2.1 33 = .ok (.getfield 18, 3) := by decide +kernel
theorem DX10_tell_36 : decode jX10_tell.2.1 36 = .ok (.aload_n 0, 1) := by decide +kernel
theorem DX10_tell_37 : decode jX10_tell.2.1 37 = .ok (.getfield 27, 3) := by decide +kernel
theorem DX10_tell_40 : decode jX10_tell.2.1 40 = .ok (.iload_n 3, 1) := by decide +kernel
theorem DX10_tell_41 : decode jX10_tell.2.1 41 = .ok (.iastore, 1) := by decide +kernel
theorem DX10_tell_42 : decode jX10_tell.2.1 42 = .ok (.aload_n 0, 1) := by decide +kernel
theorem DX10_tell_43 : decode jX10_tell.2.1 43 = .ok (.getfield 21, 3) := by decide +kernel
theorem DX10_tell_46 : decode jX10_tell.2.1 46 = .ok (.aload_n 0, 1) := by decide +kernel
theorem DX10_tell_47 : decode jX10_tell.2.1 47 = .ok (.getfield 27, 3) := by decide +kernel
theorem DX10_tell_50 : decode jX10_tell.2.1 50 = .ok (.iload 4, 2) := by decide +kernel
theorem DX10_tell_52 : decode jX10_tell.2.1 52 = .ok (.iastore, 1) := by decide +kernel
theorem DX10_tell_53 : decode jX10_tell.2.1 53 = .ok (.aload_n 0, 1) := by decide +kernel
theorem DX10_tell_54 : decode jX10_tell.2.1 54 = .ok (.getfield 24, 3) := by decide +kernel
theorem DX10_tell_57 : decode jX10_tell.2.1 57 = .ok (.aload_n 0, 1) := by decide +kernel
theorem DX10_tell_58 : decode jX10_tell.2.1 58 = .ok (.getfield 27, 3) := by decide +kernel
theorem DX10_tell_61 : decode jX10_tell.2.1 61 = .ok (.iload 5, 2) := by decide +kernel
theorem DX10_tell_63 : decode jX10_tell.2.1 63 = .ok (.iastore, 1) := by decide +kernel
theorem DX10_tell_64 : decode jX10_tell.2.1 64 = .ok (.aload_n 0, 1) := by decide +kernel
theorem DX10_tell_65 : decode jX10_tell.2.1 65 = .ok (.dup, 1) := by decide +kernel
theorem DX10_tell_66 : decode jX10_tell.2.1 66 = .ok (.getfield 31, 3) := by decide +kernel
theorem DX10_tell_69 : decode jX10_tell.2.1 69 = .ok (.iconst 1, 1) := by decide +kernel
theorem DX10_tell_70 : decode jX10_tell.2.1 70 = .ok (.iadd, 1) := by decide +kernel
theorem DX10_tell_71 : decode jX10_tell.2.1 71 = .ok (.putfield 31, 3) := by decide +kernel
theorem DX10_tell_74 : decode jX10_tell.2.1 74 = .ok (.aload_n 0, 1) := by decide +kernel
theorem DX10_tell_75 : decode jX10_tell.2.1 75 = .ok (.dup, 1) := by decide +kernel
theorem DX10_tell_76 : decode jX10_tell.2.1 76 = .ok (.getfield 27, 3) := by decide +kernel
theorem DX10_tell_79 : decode jX10_tell.2.1 79 = .ok (.dup_x1, 1) := by decide +kernel
theorem DX10_tell_80 : decode jX10_tell.2.1 80 = .ok (.iconst 1, 1) := by decide +kernel
theorem DX10_tell_81 : decode jX10_tell.2.1 81 = .ok (.iadd, 1) := by decide +kernel
theorem DX10_tell_82 : decode jX10_tell.2.1 82 = .ok (.putfield 27, 3) := by decide +kernel
theorem DX10_tell_85 : decode jX10_tell.2.1 85 = .ok (.ireturn, 1) := by decide +kernel
theorem DX10_forget_0 : decode jX10_forget.2.1 0 = .ok (.aload_n 0, 1) := by decide +kernel
theorem DX10_forget_1 : decode jX10_forget.2.1 1 = .ok (.getfield 27, 3) := by decide +kernel
theorem DX10_forget_4 : decode jX10_forget.2.1 4 = .ok (.istore_n 1, 1) := by decide +kernel
theorem DX10_forget_5 : decode jX10_forget.2.1 5 = .ok (.aload_n 0, 1) := by decide +kernel
theorem DX10_forget_6 : decode jX10_forget.2.1 6 = .ok (.iconst 0, 1) := by decide +kernel
theorem DX10_forget_7 : decode jX10_forget.2.1 7 = .ok (.putfield 27, 3) := by decide +kernel
theorem DX10_forget_10 : decode jX10_forget.2.1 10 = .ok (.aload_n 0, 1) := by decide +kernel
theorem DX10_forget_11 : decode jX10_forget.2.1 11 = .ok (.dup, 1) := by decide +kernel
theorem DX10_forget_12 : decode jX10_forget.2.1 12 = .ok (.getfield 31, 3) := by decide +kernel
theorem DX10_forget_15 : decode jX10_forget.2.1 15 = .ok (.iconst 1, 1) := by decide +kernel
theorem DX10_forget_16 : decode jX10_forget.2.1 16 = .ok (.iadd, 1) := by decide +kernel
theorem DX10_forget_17 : decode jX10_forget.2.1 17 = .ok (.putfield 31, 3) := by decide +kernel
theorem DX10_forget_20 : decode jX10_forget.2.1 20 = .ok (.iload_n 1, 1) := by decide +kernel
theorem DX10_forget_21 : decode jX10_forget.2.1 21 = .ok (.ireturn, 1) := by decide +kernel
theorem DX11_init_0 : decode jX11_init.2.1 0 = .ok (.aload_n 0, 1) := by decide +kernel
theorem DX11_init_1 : decode jX11_init.2.1 1 = .ok (.invokespecial 1, 3) := by decide +kernel
theorem DX11_init_4 : decode jX11_init.2.1 4 = .ok (.aload_n 0, 1) := by decide +kernel
theorem DX11_init_5 : decode jX11_init.2.1 5 = .ok (.bipush 7, 2) := by decide +kernel
theorem DX11_init_7 : decode jX11_init.2.1 7 = .ok (.newarray .int, 2) := by decide +kernel
theorem DX11_init_9 : decode jX11_init.2.1 9 = .ok (.putfield 7, 3) := by decide +kernel
theorem DX11_init_12 : decode jX11_init.2.1 12 = .ok (.aload_n 0, 1) := by decide +kernel
theorem DX11_init_13 : decode jX11_init.2.1 13 = .ok (.new 13, 3) := by decide +kernel
theorem DX11_init_16 : decode jX11_init.2.1 16 = .ok (.dup, 1) := by decide +kernel
theorem DX11_init_17 : decode jX11_init.2.1 17 = .ok (.invokespecial 15, 3) := by decide +kernel
theorem DX11_init_20 : decode jX11_init.2.1 20 = .ok (.putfield 16, 3) := by decide +kernel
theorem DX11_init_23 : decode jX11_init.2.1 23 = .ok (.aload_n 0, 1) := by decide +kernel
theorem DX11_init_24 : decode jX11_init.2.1 24 = .ok (.new 20, 3) := by decide +kernel
theorem DX11_init_27 : decode jX11_init.2.1 27 = .ok (.dup, 1) := by decide +kernel
theorem DX11_init_28 : decode jX11_init.2.1 28 = .ok (.invokespecial 22, 3) := by decide +kernel
theorem DX11_init_31 : decode jX11_init.2.1 31 = .ok (.putfield 23, 3) := by decide +kernel
theorem DX11_init_34 : decode jX11_init.2.1 34 = .ok (.aload_n 0, 1) := by decide +kernel
theorem DX11_init_35 : decode jX11_init.2.1 35 = .ok (.new 27, 3) := by decide +kernel
theorem DX11_init_38 : decode jX11_init.2.1 38 = .ok (.dup, 1) := by decide +kernel
theorem DX11_init_39 : decode jX11_init.2.1 39 = .ok (.invokespecial 29, 3) := by decide +kernel
theorem DX11_init_42 : decode jX11_init.2.1 42 = .ok (.putfield 30, 3) := by decide +kernel
theorem DX11_init_45 : decode jX11_init.2.1 45 = .ok (.aload_n 0, 1) := by decide +kernel
theorem DX11_init_46 : decode jX11_init.2.1 46 = .ok (.new 34, 3) := by decide +kernel
theorem DX11_init_49 : decode jX11_init.2.1 49 = .ok (.dup, 1) := by decide +kernel
theorem DX11_init_50 : decode jX11_init.2.1 50 = .ok (.invokespecial 36, 3) := by decide +kernel
theorem DX11_init_53 : decode jX11_init.2.1 53 = .ok (.putfield 37, 3) := by decide +kernel
theorem DX11_init_56 : decode jX11_init.2.1 56 = .ok (.aload_n 0, 1) := by decide +kernel
theorem DX11_init_57 : decode jX11_init.2.1 57 = .ok (.new 41, 3) := by decide +kernel
theorem DX11_init_60 : decode jX11_init.2.1 60 = .ok (.dup, 1) := by decide +kernel
theorem DX11_init_61 : decode jX11_init.2.1 61 = .ok (.invokespecial 43, 3) := by decide +kernel
theorem DX11_init_64 : decode jX11_init.2.1 64 = .ok (.putfield 44, 3) := by decide +kernel
theorem DX11_init_67 : decode jX11_init.2.1 67 = .ok (.aload_n 0, 1) := by decide +kernel
theorem DX11_init_68 : decode jX11_init.2.1 68 = .ok (.new 48, 3) := by decide +kernel
theorem DX11_init_71 : decode jX11_init.2.1 71 = .ok (.dup, 1) := by decide +kernel
theorem DX11_init_72 : decode jX11_init.2.1 72 = .ok (.invokespecial 50, 3) := by decide +kernel
theorem DX11_init_75 : decode jX11_init.2.1 75 = .ok (.putfield 51, 3) := by decide +kernel
theorem DX11_init_78 : decode jX11_init.2.1 78 = .ok (.aload_n 0, 1) := by decide +kernel
theorem DX11_init_79 : decode jX11_init.2.1 79 = .ok (.new 55, 3) := by decide +kernel
theorem DX11_init_82 : decode jX11_init.2.1 82 = .ok (.dup, 1) := by decide +kernel
theorem DX11_init_83 : decode jX11_init.2.1 83 = .ok (.aload_n 0, 1) := by decide +kernel
theorem DX11_init_84 : decode jX11_init.2.1 84 = .ok (.getfield 51, 3) := by decide +kernel
theorem DX11_init_87 : decode jX11_init.2.1 87 = .ok (.invokespecial 57, 3) := by decide +kernel
theorem DX11_init_90 : decode jX11_init.2.1 90 = .ok (.putfield 60, 3) := by decide +kernel
theorem DX11_init_93 : decode jX11_init.2.1 93 = .ok (.aload_n 0, 1) := by decide +kernel
theorem DX11_init_94 : decode jX11_init.2.1 94 = .ok (.new 64, 3) := by decide +kernel
theorem DX11_init_97 : decode jX11_init.2.1 97 = .ok (.dup, 1) := by decide +kernel
theorem DX11_init_98 : decode jX11_init.2.1 98 = .ok (.invokespecial 66, 3) := by decide +kernel
theorem DX11_init_101 : decode jX11_init.2.1 101 = .ok (.putfield 67, 3) := by decide +kernel
theorem DX11_init_104 : decode jX11_init.2.1 104 = .ok (.return_, 1) := by decide +kernel
theorem DX11_refuse_0 : decode jX11_refuse.2.1 0 = .ok (.iload_n 1, 1) := by decide +kernel
theorem DX11_refuse_1 : decode jX11_refuse.2.1 1 = .ok (.ineg, 1) := by decide +kernel
theorem DX11_refuse_2 : decode jX11_refuse.2.1 2 = .ok (.ifCond .lt 24, 3) := by decide +kernel
theorem DX11_refuse_5 : decode jX11_refuse.2.1 5 = .ok (.iload_n 1, 1) := by decide +kernel
theorem DX11_refuse_6 : decode jX11_refuse.2.1 6 = .ok (.ineg, 1) := by decide +kernel
theorem DX11_refuse_7 : decode jX11_refuse.2.1 7 = .ok (.aload_n 0, 1) := by decide +kernel
theorem DX11_refuse_8 : decode jX11_refuse.2.1 8 = .ok (.getfield 7, 3) := by decide +kernel
theorem DX11_refuse_11 : decode jX11_refuse.2.1 11 = .ok (.arraylength, 1) := by decide +kernel
theorem DX11_refuse_12 : decode jX11_refuse.2.1 12 = .ok (.if_icmp .ge 14, 3) := by decide +kernel
theorem DX11_refuse_15 : decode jX11_refuse.2.1 15 = .ok (.aload_n 0, 1) := by decide +kernel
theorem DX11_refuse_16 : decode jX11_refuse.2.1 16 = .ok (.getfield 7, 3) := by decide +kernel
theorem DX11_refuse_19 : decode jX11_refuse.2.1 19 = .ok (.iload_n 1, 1) := by decide +kernel
theorem DX11_refuse_20 : decode jX11_refuse.2.1 20 = .ok (.ineg, 1) := by decide +kernel
theorem DX11_refuse_21 : decode jX11_refuse.2.1 21 = .ok (.dup2, 1) := by decide +kernel
theorem DX11_refuse_22 : decode jX11_refuse.2.1 22 = .ok (.iaload, 1) := by decide +kernel
theorem DX11_refuse_23 : decode jX11_refuse.2.1 23 = .ok (.iconst 1, 1) := by decide +kernel
theorem DX11_refuse_24 : decode jX11_refuse.2.1 24 = .ok (.iadd, 1) := by decide +kernel
theorem DX11_refuse_25 : decode jX11_refuse.2.1 25 = .ok (.iastore, 1) := by decide +kernel
theorem DX11_refuse_26 : decode jX11_refuse.2.1 26 = .ok (.iload_n 1, 1) := by decide +kernel
theorem DX11_refuse_27 : decode jX11_refuse.2.1 27 = .ok (.ireturn, 1) := by decide +kernel
theorem DX11_refuseAsTold_0 : decode jX11_refuseAsTold.2.1 0 = .ok (.ldc 71, 2) := by decide +kernel
theorem DX11_refuseAsTold_2 : decode jX11_refuseAsTold.2.1 2 = .ok (.aload_n 0, 1) := by decide +kernel
theorem DX11_refuseAsTold_3 : decode jX11_refuseAsTold.2.1 3 = .ok (.iload_n 1, 1) := by decide +kernel
theorem DX11_refuseAsTold_4 : decode jX11_refuseAsTold.2.1 4 = .ok (.invokevirtual 72, 3) := by decide +kernel
theorem DX11_refuseAsTold_7 : decode jX11_refuseAsTold.2.1 7 = .ok (.isub, 1) := by decide +kernel
theorem DX11_refuseAsTold_8 : decode jX11_refuseAsTold.2.1 8 = .ok (.ireturn, 1) := by decide +kernel
theorem DX11_misfit_0 : decode jX11_misfit.2.1 0 = .ok (.iload_n 0, 1) := by decide +kernel
theorem DX11_misfit_1 : decode jX11_misfit.2.1 1 = .ok (.iload_n 1, 1) := by decide +kernel
theorem DX11_misfit_2 : decode jX11_misfit.2.1 2 = .ok (.if_icmp .ge 8, 3) := by decide +kernel
theorem DX11_misfit_5 : decode jX11_misfit.2.1 5 = .ok (.bipush (-4), 2) := by decide +kernel
theorem DX11_misfit_7 : decode jX11_misfit.2.1 7 = .ok (.goto 14, 3) := by decide +kernel
theorem DX11_misfit_10 : decode jX11_misfit.2.1 10 = .ok (.iload_n 0, 1) := by decide +kernel
theorem DX11_misfit_11 : decode jX11_misfit.2.1 11 = .ok (.iload_n 2, 1) := by decide +kernel
theorem DX11_misfit_12 : decode jX11_misfit.2.1 12 = .ok (.if_icmp .le 8, 3) := by decide +kernel
theorem DX11_misfit_15 : decode jX11_misfit.2.1 15 = .ok (.bipush (-6), 2) := by decide +kernel
theorem DX11_misfit_17 : decode jX11_misfit.2.1 17 = .ok (.goto 4, 3) := by decide +kernel
theorem DX11_misfit_20 : decode jX11_misfit.2.1 20 = .ok (.iconst 0, 1) := by decide +kernel
theorem DX11_misfit_21 : decode jX11_misfit.2.1 21 = .ok (.ireturn, 1) := by decide +kernel
theorem DX11_first_0 : decode jX11_first.2.1 0 = .ok (.iload_n 0, 1) := by decide +kernel
theorem DX11_first_1 : decode jX11_first.2.1 1 = .ok (.bipush (-4), 2) := by decide +kernel
theorem DX11_first_3 : decode jX11_first.2.1 3 = .ok (.if_icmp .eq 9, 3) := by decide +kernel
theorem DX11_first_6 : decode jX11_first.2.1 6 = .ok (.iload_n 1, 1) := by decide +kernel
theorem DX11_first_7 : decode jX11_first.2.1 7 = .ok (.bipush (-4), 2) := by decide +kernel
theorem DX11_first_9 : decode jX11_first.2.1 9 = .ok (.if_icmp .ne 8, 3) := by decide +kernel
theorem DX11_first_12 : decode jX11_first.2.1 12 = .ok (.bipush (-4), 2) := by decide +kernel
theorem DX11_first_14 : decode jX11_first.2.1 14 = .ok (.goto 21, 3) := by decide +kernel
theorem DX11_first_17 : decode jX11_first.2.1 17 = .ok (.iload_n 0, 1) := by decide +kernel
theorem DX11_first_18 : decode jX11_first.2.1 18 = .ok (.bipush (-6), 2) := by decide +kernel
theorem DX11_first_20 : decode jX11_first.2.1 20 = .ok (.if_icmp .eq 9, 3) := by decide +kernel
theorem DX11_first_23 : decode jX11_first.2.1 23 = .ok (.iload_n 1, 1) := by decide +kernel
theorem DX11_first_24 : decode jX11_first.2.1 24 = .ok (.bipush (-6), 2) := by decide +kernel
theorem DX11_first_26 : decode jX11_first.2.1 26 = .ok (.if_icmp .ne 8, 3) := by decide +kernel
theorem DX11_first_29 : decode jX11_first.2.1 29 = .ok (.bipush (-6), 2) := by decide +kernel
theorem DX11_first_31 : decode jX11_first.2.1 31 = .ok (.goto 4, 3) := by decide +kernel
theorem DX11_first_34 : decode jX11_first.2.1 34 = .ok (.iconst 0, 1) := by decide +kernel
theorem DX11_first_35 : decode jX11_first.2.1 35 = .ok (.ireturn, 1) := by decide +kernel
theorem DX11_rain_0 : decode jX11_rain.2.1 0 = .ok (.iload_n 1, 1) := by decide +kernel
theorem DX11_rain_1 : decode jX11_rain.2.1 1 = .ok (.invokestatic 76, 3) := by decide +kernel
theorem DX11_rain_4 : decode jX11_rain.2.1 4 = .ok (.ifCond .ne 9, 3) := by decide +kernel
theorem DX11_rain_7 : decode jX11_rain.2.1 7 = .ok (.aload_n 0, 1) := by decide +kernel
theorem DX11_rain_8 : decode jX11_rain.2.1 8 = .ok (.iconst (-1), 1) := by decide +kernel
theorem DX11_rain_9 : decode jX11_rain.2.1 9 = .ok (.invokevirtual 80, 3) := by decide +kernel
theorem DX11_rain_12 : decode jX11_rain.2.1 12 = .ok (.ireturn, 1) := by decide +kernel
theorem DX11_rain_13 : decode jX11_rain.2.1 13 = .ok (.iload_n 2, 1) := by decide +kernel
theorem DX11_rain_14 : decode jX11_rain.2.1 14 = .ok (.iconst (-1), 1) := by decide +kernel
theorem DX11_rain_15 : decode jX11_rain.2.1 15 = .ok (.bipush 9, 2) := by decide +kernel
theorem DX11_rain_17 : decode jX11_rain.2.1 17 = .ok (.invokestatic 83, 3) := by decide +kernel
theorem DX11_rain_20 : decode jX11_rain.2.1 20 = .ok (.istore_n 3, 1) := by decide +kernel
theorem DX11_rain_21 : decode jX11_rain.2.1 21 = .ok (.iload_n 3, 1) := by decide +kernel
theorem DX11_rain_22 : decode jX11_rain.2.1 22 = .ok (.ifCond .eq 11, 3) := by decide +kernel
theorem DX11_rain_25 : decode jX11_rain.2.1 25 = .ok (.aload_n 0, 1) := by decide +kernel
theorem DX11_rain_26 : decode jX11_rain.2.1 26 = .ok (.iload_n 3, 1) := by decide +kernel
theorem DX11_rain_27 : decode jX11_rain.2.1 27 = .ok (.invokevirtual 80, 3) := by decide +kernel
theorem DX11_rain_30 : decode jX11_rain.2.1 30 = .ok (.goto 12, 3) := by decide +kernel
theorem DX11_rain_33 : decode jX11_rain.2.1 33 = .ok (.aload_n 0, 1) := by decide +kernel
theorem DX11_rain_34 : decode jX11_rain.2.1 34 = .ok (.getfield 16, 3) := by decide +kernel
theorem DX11_rain_37 : decode jX11_rain.2.1 37 = .ok (.iload_n 1, 1) := by decide +kernel
theorem DX11_rain_38 : decode jX11_rain.2.1 38 = .ok (.iload_n 2, 1) := by decide +kernel
theorem DX11_rain_39 : decode jX11_rain.2.1 39 = .ok (.invokevirtual 87, 3) := by decide +kernel
theorem DX11_rain_42 : decode jX11_rain.2.1 42 = .ok (.ireturn, 1) := by decide +kernel
theorem DX11_rainOf_0 : decode jX11_rainOf.2.1 0 = .ok (.iload_n 1, 1) := by decide +kernel
theorem DX11_rainOf_1 : decode jX11_rainOf.2.1 1 = .ok (.invokestatic 76, 3) := by decide +kernel
theorem DX11_rainOf_4 : decode jX11_rainOf.2.1 4 = .ok (.ifCond .eq 14, 3) := by decide +kernel
theorem DX11_rainOf_7 : decode jX11_rainOf.2.1 7 = .ok (.aload_n 0, 1) := by decide +kernel
theorem DX11_rainOf_8 : decode jX11_rainOf.2.1 8 = .ok (.getfield 16, 3) := by decide +kernel
theorem DX11_rainOf_11 : decode jX11_rainOf.2.1 11 = .ok (.iload_n 1, 1) := by decide +kernel
theorem DX11_rainOf_12 : decode jX11_rainOf.2.1 12 = .ok (.invokevirtual 91, 3) := by decide +kernel
theorem DX11_rainOf_15 : decode jX11_rainOf.2.1 15 = .ok (.goto 8, 3) := by decide +kernel
theorem DX11_rainOf_18 : decode jX11_rainOf.2.1 18 = .ok (.aload_n 0, 1) := by decide +kernel
theorem DX11_rainOf_19 : decode jX11_rainOf.2.1 19 = .ok (.iconst (-1), 1) := by decide +kernel
theorem DX11_rainOf_20 : decode jX11_rainOf.2.1 20 = .ok (.invokevirtual 72, 3) := by decide +kernel
theorem DX11_rainOf_23 : decode jX11_rainOf.2.1 23 = .ok (.ireturn, 1) := by decide +kernel
theorem DX11_close_0 : decode jX11_close.2.1 0 = .ok (.aload_n 0, 1) := by decide +kernel
theorem DX11_close_1 : decode jX11_close.2.1 1 = .ok (.getfield 16, 3) := by decide +kernel
theorem DX11_close_4 : decode jX11_close.2.1 4 = .ok (.getfield 94, 3) := by decide +kernel
theorem DX11_close_7 : decode jX11_close.2.1 7 = .ok (.bipush 60, 2) := by decide +kernel
theorem DX11_close_9 : decode jX11_close.2.1 9 = .ok (.if_icmp .lt 10, 3) := by decide +kernel
theorem DX11_close_12 : decode jX11_close.2.1 12 = .ok (.aload_n 0, 1) := by decide +kernel
theorem DX11_close_13 : decode jX11_close.2.1 13 = .ok (.bipush (-6), 2) := by decide +kernel
theorem DX11_close_15 : decode jX11_close.2.1 15 = .ok (.invokevirtual 72, 3) := by decide +kernel
theorem DX11_close_18 : decode jX11_close.2.1 18 = .ok (.ireturn, 1) := by decide +kernel
theorem DX11_close_19 : decode jX11_close.2.1 19 = .ok (.aload_n 0, 1) := by decide +kernel
theorem DX11_close_20 : decode jX11_close.2.1 20 = .ok (.getfield 23, 3) := by decide +kernel
theorem DX11_close_23 : decode jX11_close.2.1 23 = .ok (.invokevirtual 98, 3) := by decide +kernel
theorem DX11_close_26 : decode jX11_close.2.1 26 = .ok (.aload_n 0, 1) := by decide +kernel
theorem DX11_close_27 : decode jX11_close.2.1 27 = .ok (.getfield 16, 3) := by decide +kernel
theorem DX11_close_30 : decode jX11_close.2.1 30 = .ok (.invokevirtual 101, 3) := by decide +kernel
theorem DX11_close_33 : decode jX11_close.2.1 33 = .ok (.aload_n 0, 1) := by decide +kernel
theorem DX11_close_34 : decode jX11_close.2.1 34 = .ok (.getfield 16, 3) := by decide +kernel
theorem DX11_close_37 : decode jX11_close.2.1 37 = .ok (.getfield 94, 3) := by decide +kernel
theorem DX11_close_40 : decode jX11_close.2.1 40 = .ok (.ireturn, 1) := by decide +kernel
theorem DX11_weeks_0 : decode jX11_weeks.2.1 0 = .ok (.iload_n 1, 1) := by decide +kernel
theorem DX11_weeks_1 : decode jX11_weeks.2.1 1 = .ok (.iconst 1, 1) := by decide +kernel
theorem DX11_weeks_2 : decode jX11_weeks.2.1 2 = .ok (.bipush 52, 2) := by decide +kernel
theorem DX11_weeks_4 : decode jX11_weeks.2.1 4 = .ok (.aload_n 0, 1) := by decide +kernel
theorem DX11_weeks_5 : decode jX11_weeks.2.1 5 = .ok (.getfield 16, 3) := by decide +kernel
theorem DX11_weeks_8 : decode jX11_weeks.2.1 8 = .ok (.getfield 104, 3) := by decide +kernel
theorem DX11_weeks_11 : decode jX11_weeks.2.1 11 = .ok (.isub, 1) := by decide +kernel
theorem DX11_weeks_12 : decode jX11_weeks.2.1 12 = .ok (.invokestatic 83, 3) := by decide +kernel
theorem DX11_weeks_15 : decode jX11_weeks.2.1 15 = .ok (.istore_n 2, 1) := by decide +kernel
theorem DX11_weeks_16 : decode jX11_weeks.2.1 16 = .ok (.iload_n 2, 1) := by decide +kernel
theorem DX11_weeks_17 : decode jX11_weeks.2.1 17 = .ok (.ifCond .eq 9, 3) := by decide +kernel
theorem DX11_weeks_20 : decode jX11_weeks.2.1 20 = .ok (.aload_n 0, 1) := by decide +kernel
theorem DX11_weeks_21 : decode jX11_weeks.2.1 21 = .ok (.iload_n 2, 1) := by decide +kernel
theorem DX11_weeks_22 : decode jX11_weeks.2.1 22 = .ok (.invokevirtual 72, 3) := by decide +kernel
theorem DX11_weeks_25 : decode jX11_weeks.2.1 25 = .ok (.ireturn, 1) := by decide +kernel
theorem DX11_weeks_26 : decode jX11_weeks.2.1 26 = .ok (.iconst 0, 1) := by decide +kernel
theorem DX11_weeks_27 : decode jX11_weeks.2.1 27 = .ok (.istore_n 3, 1) := by decide +kernel
theorem DX11_weeks_28 : decode jX11_weeks.2.1 28 = .ok (.iload_n 3, 1) := by decide +kernel
theorem DX11_weeks_29 : decode jX11_weeks.2.1 29 = .ok (.iload_n 1, 1) := by decide +kernel
theorem DX11_weeks_30 : decode jX11_weeks.2.1 30 = .ok (.if_icmp .ge 13, 3) := by decide +kernel
theorem DX11_weeks_33 : decode jX11_weeks.2.1 33 = .ok (.aload_n 0, 1) := by decide +kernel
theorem DX11_weeks_34 : decode jX11_weeks.2.1 34 = .ok (.invokevirtual 107, 3) := by decide +kernel
theorem DX11_weeks_37 : decode jX11_weeks.2.1 37 = .ok (.iinc 3 1, 3) := by decide +kernel
theorem DX11_weeks_40 : decode jX11_weeks.2.1 40 = .ok (.goto (-12), 3) := by decide +kernel
theorem DX11_weeks_43 : decode jX11_weeks.2.1 43 = .ok (.aload_n 0, 1) := by decide +kernel
theorem DX11_weeks_44 : decode jX11_weeks.2.1 44 = .ok (.getfield 16, 3) := by decide +kernel
theorem DX11_weeks_47 : decode jX11_weeks.2.1 47 = .ok (.getfield 104, 3) := by decide +kernel
theorem DX11_weeks_50 : decode jX11_weeks.2.1 50 = .ok (.ireturn, 1) := by decide +kernel
theorem DX11_passWeek_0 : decode jX11_passWeek.2.1 0 = .ok (.aload_n 0, 1) := by decide +kernel
theorem DX11_passWeek_1 : decode jX11_passWeek.2.1 1 = .ok (.getfield 37, 3) := by decide +kernel
theorem DX11_passWeek_4 : decode jX11_passWeek.2.1 4 = .ok (.aload_n 0, 1) := by decide +kernel
theorem DX11_passWeek_5 : decode jX11_passWeek.2.1 5 = .ok (.getfield 16, 3) := by decide +kernel
theorem DX11_passWeek_8 : decode jX11_passWeek.2.1 8 = .ok (.aload_n 0, 1) := by decide +kernel
theorem DX11_passWeek_9 : decode jX11_passWeek.2.1 9 = .ok (.getfield 16, 3) := by decide +kernel
theorem DX11_passWeek_12 : decode jX11_passWeek.2.1 12 = .ok (.getfield 104, 3) := by decide +kernel
theorem DX11_passWeek_15 : decode jX11_passWeek.2.1 15 = .ok (.invokevirtual 110, 3) := by decide +kernel
theorem DX11_passWeek_18 : decode jX11_passWeek.2.1 18 = .ok (.invokevirtual 113, 3) := by decide +kernel
theorem DX11_passWeek_21 : decode jX11_passWeek.2.1 21 = .ok (.iconst 0, 1) := by decide +kernel
theorem DX11_passWeek_22 : decode jX11_passWeek.2.1 22 = .ok (.istore_n 1, 1) := by decide +kernel
theorem DX11_passWeek_23 : decode jX11_passWeek.2.1 23 = .ok (.iload_n 1, 1) := by decide +kernel
theorem DX11_passWeek_24 : decode jX11_passWeek.2.1 24 = .ok (.bipush 6, 2) := by decide +kernel
theorem DX11_passWeek_26 : decode jX11_passWeek.2.1 26 = .ok (.if_icmp .ge 68, 3) := by decide +kernel
theorem DX11_passWeek_29 : decode jX11_passWeek.2.1 29 = .ok (.aload_n 0, 1) := by decide +kernel
theorem DX11_passWeek_30 : decode jX11_passWeek.2.1 30 = .ok (.getfield 37, 3) := by decide +kernel
theorem DX11_passWeek_33 : decode jX11_passWeek.2.1 33 = .ok (.iload_n 1, 1) := by decide +kernel
theorem DX11_passWeek_34 : decode jX11_passWeek.2.1 34 = .ok (.invokevirtual 117, 3) := by decide +kernel
theorem DX11_passWeek_37 : decode jX11_passWeek.2.1 37 = .ok (.ifnull 51, 3) := by decide +kernel
theorem DX11_passWeek_40 : decode jX11_passWeek.2.1 40 = .ok (.aload_n 0, 1) := by decide +kernel
theorem DX11_passWeek_41 : decode jX11_passWeek.2.1 41 = .ok (.getfield 37, 3) := by decide +kernel
theorem DX11_passWeek_44 : decode jX11_passWeek.2.1 44 = .ok (.iload_n 1, 1) := by decide +kernel
theorem DX11_passWeek_45 : decode jX11_passWeek.2.1 45 = .ok (.aload_n 0, 1) := by decide +kernel
theorem DX11_passWeek_46 : decode jX11_passWeek.2.1 46 = .ok (.getfield 16, 3) := by decide +kernel
theorem DX11_passWeek_49 : decode jX11_passWeek.2.1 49 = .ok (.getfield 94, 3) := by decide +kernel
theorem DX11_passWeek_52 : decode jX11_passWeek.2.1 52 = .ok (.iconst 0, 1) := by decide +kernel
theorem DX11_passWeek_53 : decode jX11_passWeek.2.1 53 = .ok (.invokevirtual 121, 3) := by decide +kernel
theorem DX11_passWeek_56 : decode jX11_passWeek.2.1 56 = .ok (.ifCond .ne 32, 3) := by decide +kernel
theorem DX11_passWeek_59 : decode jX11_passWeek.2.1 59 = .ok (.aload_n 0, 1) := by decide +kernel
theorem DX11_passWeek_60 : decode jX11_passWeek.2.1 60 = .ok (.getfield 44, 3) := by decide +kernel
theorem DX11_passWeek_63 : decode jX11_passWeek.2.1 63 = .ok (.aload_n 0, 1) := by decide +kernel
theorem DX11_passWeek_64 : decode jX11_passWeek.2.1 64 = .ok (.getfield 37, 3) := by decide +kernel
theorem DX11_passWeek_67 : decode jX11_passWeek.2.1 67 = .ok (.iload_n 1, 1) := by decide +kernel
theorem DX11_passWeek_68 : decode jX11_passWeek.2.1 68 = .ok (.invokevirtual 124, 3) := by decide +kernel
theorem DX11_passWeek_71 : decode jX11_passWeek.2.1 71 = .ok (.aload_n 0, 1) := by decide +kernel
theorem DX11_passWeek_72 : decode jX11_passWeek.2.1 72 = .ok (.getfield 16, 3) := by decide +kernel
theorem DX11_passWeek_75 : decode jX11_passWeek.2.1 75 = .ok (.getfield 94, 3) := by decide +kernel
theorem DX11_passWeek_78 : decode jX11_passWeek.2.1 78 = .ok (.aload_n 0, 1) := by decide +kernel
theorem DX11_passWeek_79 : decode jX11_passWeek.2.1 79 = .ok (.getfield 16, 3) := by decide +kernel
theorem DX11_passWeek_82 : decode jX11_passWeek.2.1 82 = .ok (.getfield 104, 3) := by decide +kernel
theorem DX11_passWeek_85 : decode jX11_passWeek.2.1 85 = .ok (.invokevirtual 127, 3) := by decide +kernel
theorem DX11_passWeek_88 : decode jX11_passWeek.2.1 88 = .ok (.iinc 1 1, 3) := by decide +kernel
theorem DX11_passWeek_91 : decode jX11_passWeek.2.1 91 = .ok (.goto (-68), 3) := by decide +kernel
theorem DX11_passWeek_94 : decode jX11_passWeek.2.1 94 = .ok (.aload_n 0, 1) := by decide +kernel
theorem DX11_passWeek_95 : decode jX11_passWeek.2.1 95 = .ok (.getfield 16, 3) := by decide +kernel
theorem DX11_passWeek_98 : decode jX11_passWeek.2.1 98 = .ok (.dup, 1) := by decide +kernel
theorem DX11_passWeek_99 : decode jX11_passWeek.2.1 99 = .ok (.getfield 104, 3) := by decide +kernel
theorem DX11_passWeek_102 : decode jX11_passWeek.2.1 102 = .ok (.iconst 1, 1) := by decide +kernel
theorem DX11_passWeek_103 : decode jX11_passWeek.2.1 103 = .ok (.iadd, 1) := by decide +kernel
theorem DX11_passWeek_104 : decode jX11_passWeek.2.1 104 = .ok (.putfield 104, 3) := by decide +kernel
theorem DX11_passWeek_107 : decode jX11_passWeek.2.1 107 = .ok (.return_, 1) := by decide +kernel
theorem DX11_house_0 : decode jX11_house.2.1 0 = .ok (.iload_n 1, 1) := by decide +kernel
theorem DX11_house_1 : decode jX11_house.2.1 1 = .ok (.ifCond .lt 8, 3) := by decide +kernel
theorem DX11_house_4 : decode jX11_house.2.1 4 = .ok (.iload_n 1, 1) := by decide +kernel
theorem DX11_house_5 : decode jX11_house.2.1 5 = .ok (.iconst 4, 1) := by decide +kernel
theorem DX11_house_6 : decode jX11_house.2.1 6 = .ok (.if_icmp .lt 9, 3) := by decide +kernel
theorem DX11_house_9 : decode jX11_house.2.1 9 = .ok (.aload_n 0, 1) := by decide +kernel
theorem DX11_house_10 : decode jX11_house.2.1 10 = .ok (.iconst (-1), 1) := by decide +kernel
theorem DX11_house_11 : decode jX11_house.2.1 11 = .ok (.invokevirtual 72, 3) := by decide +kernel
theorem DX11_house_14 : decode jX11_house.2.1 14 = .ok (.ireturn, 1) := by decide +kernel
theorem DX11_house_15 : decode jX11_house.2.1 15 = .ok (.iload_n 2, 1) := by decide +kernel
theorem DX11_house_16 : decode jX11_house.2.1 16 = .ok (.iconst 1, 1) := by decide +kernel
theorem DX11_house_17 : decode jX11_house.2.1 17 = .ok (.bipush 9, 2) := by decide +kernel
theorem DX11_house_19 : decode jX11_house.2.1 19 = .ok (.invokestatic 83, 3) := by decide +kernel
theorem DX11_house_22 : decode jX11_house.2.1 22 = .ok (.istore_n 3, 1) := by decide +kernel
theorem DX11_house_23 : decode jX11_house.2.1 23 = .ok (.iload_n 3, 1) := by decide +kernel
theorem DX11_house_24 : decode jX11_house.2.1 24 = .ok (.ifCond .ne 18, 3) := by decide +kernel
theorem DX11_house_27 : decode jX11_house.2.1 27 = .ok (.aload_n 0, 1) := by decide +kernel
theorem DX11_house_28 : decode jX11_house.2.1 28 = .ok (.getfield 23, 3) := by decide +kernel
theorem DX11_house_31 : decode jX11_house.2.1 31 = .ok (.getfield 133, 3) := by decide +kernel
theorem DX11_house_34 : decode jX11_house.2.1 34 = .ok (.bipush 24, 2) := by decide +kernel
theorem DX11_house_36 : decode jX11_house.2.1 36 = .ok (.if_icmp .lt 6, 3) := by decide +kernel
theorem DX11_house_39 : decode jX11_house.2.1 39 = .ok (.bipush (-6), 2) := by decide +kernel
theorem DX11_house_41 : decode jX11_house.2.1 41 = .ok (.istore_n 3, 1) := by decide +kernel
theorem DX11_house_42 : decode jX11_house.2.1 42 = .ok (.iload_n 3, 1) := by decide +kernel
theorem DX11_house_43 : decode jX11_house.2.1 43 = .ok (.ifCond .eq 11, 3) := by decide +kernel
theorem DX11_house_46 : decode jX11_house.2.1 46 = .ok (.aload_n 0, 1) := by decide +kernel
theorem DX11_house_47 : decode jX11_house.2.1 47 = .ok (.iload_n 3, 1) := by decide +kernel
theorem DX11_house_48 : decode jX11_house.2.1 48 = .ok (.invokevirtual 72, 3) := by decide +kernel
theorem DX11_house_51 : decode jX11_house.2.1 51 = .ok (.goto 12, 3) := by decide +kernel
theorem DX11_house_54 : decode jX11_house.2.1 54 = .ok (.aload_n 0, 1) := by decide +kernel
theorem DX11_house_55 : decode jX11_house.2.1 55 = .ok (.getfield 23, 3) := by decide +kernel
theorem DX11_house_58 : decode jX11_house.2.1 58 = .ok (.iload_n 1, 1) := by decide +kernel
theorem DX11_house_59 : decode jX11_house.2.1 59 = .ok (.iload_n 2, 1) := by decide +kernel
theorem DX11_house_60 : decode jX11_house.2.1 60 = .ok (.invokevirtual 136, 3) := by decide +kernel
theorem DX11_house_63 : decode jX11_house.2.1 63 = .ok (.ireturn, 1) := by decide +kernel
theorem DX11_set_0 : decode jX11_set.2.1 0 = .ok (.aload_n 0, 1) := by decide +kernel
theorem DX11_set_1 : decode jX11_set.2.1 1 = .ok (.getfield 23, 3) := by decide +kernel
theorem DX11_set_4 : decode jX11_set.2.1 4 = .ok (.iload_n 1, 1) := by decide +kernel
theorem DX11_set_5 : decode jX11_set.2.1 5 = .ok (.invokevirtual 139, 3) := by decide +kernel
theorem DX11_set_8 : decode jX11_set.2.1 8 = .ok (.astore 4, 2) := by decide +kernel
theorem DX11_set_10 : decode jX11_set.2.1 10 = .ok (.aload 4, 2) := by decide +kernel
theorem DX11_set_12 : decode jX11_set.2.1 12 = .ok (.ifnonnull 9, 3) := by decide +kernel
theorem DX11_set_15 : decode jX11_set.2.1 15 = .ok (.aload_n 0, 1) := by decide +kernel
theorem DX11_set_16 : decode jX11_set.2.1 16 = .ok (.iconst (-1), 1) := by decide +kernel
theorem DX11_set_17 : decode jX11_set.2.1 17 = .ok (.invokevirtual 72, 3) := by decide +kernel
theorem DX11_set_20 : decode jX11_set.2.1 20 = .ok (.ireturn, 1) := by decide +kernel
theorem DX11_set_21 : decode jX11_set.2.1 21 = .ok (.iload_n 2, 1) := by decide +kernel
theorem DX11_set_22 : decode jX11_set.2.1 22 = .ok (.ifCond .lt 8, 3) := by decide +kernel
theorem DX11_set_25 : decode jX11_set.2.1 25 = .ok (.iload_n 2, 1) := by decide +kernel
theorem DX11_set_26 : decode jX11_set.2.1 26 = .ok (.iconst 2, 1) := by decide +kernel
theorem DX11_set_27 : decode jX11_set.2.1 27 = .ok (.if_icmp .le 10, 3) := by decide +kernel
theorem DX11_set_30 : decode jX11_set.2.1 30 = .ok (.aload_n 0, 1) := by decide +kernel
theorem DX11_set_31 : decode jX11_set.2.1 31 = .ok (.bipush (-2), 2) := by decide +kernel
theorem DX11_set_33 : decode jX11_set.2.1 33 = .ok (.invokevirtual 72, 3) := by decide +kernel
theorem DX11_set_36 : decode jX11_set.2.1 36 = .ok (.ireturn, 1) := by decide +kernel
theorem DX11_set_37 : decode jX11_set.2.1 37 = .ok (.iload_n 2, 1) := by decide +kernel
theorem DX11_set_38 : decode jX11_set.2.1 38 = .ok (.iconst 2, 1) := by decide +kernel
theorem DX11_set_39 : decode jX11_set.2.1 39 = .ok (.if_icmp .ne 12, 3) := by decide +kernel
theorem DX11_set_42 : decode jX11_set.2.1 42 = .ok (.iload_n 3, 1) := by decide +kernel
theorem DX11_set_43 : decode jX11_set.2.1 43 = .ok (.iconst 0, 1) := by decide +kernel
theorem DX11_set_44 : decode jX11_set.2.1 44 = .ok (.iconst 1, 1) := by decide +kernel
theorem DX11_set_45 : decode jX11_set.2.1 45 = .ok (.invokestatic 83, 3) := by decide +kernel
theorem DX11_set_48 : decode jX11_set.2.1 48 = .ok (.goto 10, 3) := by decide +kernel
theorem DX11_set_51 : decode jX11_set.2.1 51 = .ok (.iload_n 3, 1) := by decide +kernel
theorem DX11_set_52 : decode jX11_set.2.1 52 = .ok (.iconst 1, 1) := by decide +kernel
theorem DX11_set_53 : decode jX11_set.2.1 53 = .ok (.bipush 9, 2) := by decide +kernel
theorem DX11_set_55 : decode jX11_set.2.1 55 = .ok (.invokestatic 83, 3) := by decide +kernel
theorem DX11_set_58 : decode jX11_set.2.1 58 = .ok (.istore 5, 2) := by decide +kernel
theorem DX11_set_60 : decode jX11_set.2.1 60 = .ok (.iload 5, 2) := by decide +kernel
theorem DX11_set_62 : decode jX11_set.2.1 62 = .ok (.ifCond .eq 12, 3) := by decide +kernel
theorem DX11_set_65 : decode jX11_set.2.1 65 = .ok (.aload_n 0, 1) := by decide +kernel
theorem DX11_set_66 : decode jX11_set.2.1 66 = .ok (.iload 5, 2) := by decide +kernel
theorem DX11_set_68 : decode jX11_set.2.1 68 = .ok (.invokevirtual 72, 3) := by decide +kernel
theorem DX11_set_71 : decode jX11_set.2.1 71 = .ok (.goto 10, 3) := by decide +kernel
theorem DX11_set_74 : decode jX11_set.2.1 74 = .ok (.aload 4, 2) := by decide +kernel
theorem DX11_set_76 : decode jX11_set.2.1 76 = .ok (.iload_n 2, 1) := by decide +kernel
theorem DX11_set_77 : decode jX11_set.2.1 77 = .ok (.iload_n 3, 1) := by decide +kernel
theorem DX11_set_78 : decode jX11_set.2.1 78 = .ok (.invokevirtual 143, 3) := by decide +kernel
theorem DX11_set_81 : decode jX11_set.2.1 81 = .ok (.ireturn, 1) := by decide +kernel
theorem DX11_bring_0 : decode jX11_bring.2.1 0 = .ok (.aload_n 0, 1) := by decide +kernel
theorem DX11_bring_1 : decode jX11_bring.2.1 1 = .ok (.getfield 23, 3) := by decide +kernel
theorem DX11_bring_4 : decode jX11_bring.2.1 4 = .ok (.iload_n 1, 1) := by decide +kernel
theorem DX11_bring_5 : decode jX11_bring.2.1 5 = .ok (.invokevirtual 139, 3) := by decide +kernel
theorem DX11_bring_8 : decode jX11_bring.2.1 8 = .ok (.astore 4, 2) := by decide +kernel
theorem DX11_bring_10 : decode jX11_bring.2.1 10 = .ok (.aload 4, 2) := by decide +kernel
theorem DX11_bring_12 : decode jX11_bring.2.1 12 = .ok (.ifnonnull 9, 3) := by decide +kernel
theorem DX11_bring_15 : decode jX11_bring.2.1 15 = .ok (.aload_n 0, 1) := by decide +kernel
theorem DX11_bring_16 : decode jX11_bring.2.1 16 = .ok (.iconst (-1), 1) := by decide +kernel
theorem DX11_bring_17 : decode jX11_bring.2.1 17 = .ok (.invokevirtual 72, 3) := by decide +kernel
theorem DX11_bring_20 : decode jX11_bring.2.1 20 = .ok (.ireturn, 1) := by decide +kernel
theorem DX11_bring_21 : decode jX11_bring.2.1 21 = .ok (.aload 4, 2) := by decide +kernel
theorem DX11_bring_23 : decode jX11_bring.2.1 23 = .ok (.getfield 146, 3) := by decide +kernel
theorem DX11_bring_26 : decode jX11_bring.2.1 26 = .ok (.ifCond .eq 11, 3) := by decide +kernel
theorem DX11_bring_29 : decode jX11_bring.2.1 29 = .ok (.aload 4, 2) := by decide +kernel
theorem DX11_bring_31 : decode jX11_bring.2.1 31 = .ok (.getfield 150, 3) := by decide +kernel
theorem DX11_bring_34 : decode jX11_bring.2.1 34 = .ok (.ifCond .le 10, 3) := by decide +kernel
theorem DX11_bring_37 : decode jX11_bring.2.1 37 = .ok (.aload_n 0, 1) := by decide +kernel
theorem DX11_bring_38 : decode jX11_bring.2.1 38 = .ok (.bipush (-3), 2) := by decide +kernel
theorem DX11_bring_40 : decode jX11_bring.2.1 40 = .ok (.invokevirtual 72, 3) := by decide +kernel
theorem DX11_bring_43 : decode jX11_bring.2.1 43 = .ok (.ireturn, 1) := by decide +kernel
theorem DX11_bring_44 : decode jX11_bring.2.1 44 = .ok (.iload_n 2, 1) := by decide +kernel
theorem DX11_bring_45 : decode jX11_bring.2.1 45 = .ok (.iconst 0, 1) := by decide +kernel
theorem DX11_bring_46 : decode jX11_bring.2.1 46 = .ok (.sipush 2000, 3) := by decide +kernel
theorem DX11_bring_49 : decode jX11_bring.2.1 49 = .ok (.invokestatic 83, 3) := by decide +kernel
theorem DX11_bring_52 : decode jX11_bring.2.1 52 = .ok (.iload_n 3, 1) := by decide +kernel
theorem DX11_bring_53 : decode jX11_bring.2.1 53 = .ok (.iconst 0, 1) := by decide +kernel
theorem DX11_bring_54 : decode jX11_bring.2.1 54 = .ok (.bipush 20, 2) := by decide +kernel
theorem DX11_bring_56 : decode jX11_bring.2.1 56 = .ok (.invokestatic 83, 3) := by decide +kernel
theorem DX11_bring_59 : decode jX11_bring.2.1 59 = .ok (.invokestatic 153, 3) := by decide +kernel
theorem DX11_bring_62 : decode jX11_bring.2.1 62 = .ok (.istore 5, 2) := by decide +kernel
theorem DX11_bring_64 : decode jX11_bring.2.1 64 = .ok (.iload 5, 2) := by decide +kernel
theorem DX11_bring_66 : decode jX11_bring.2.1 66 = .ok (.ifCond .eq 10, 3) := by decide +kernel
theorem DX11_bring_69 : decode jX11_bring.2.1 69 = .ok (.aload_n 0, 1) := by decide +kernel
theorem DX11_bring_70 : decode jX11_bring.2.1 70 = .ok (.iload 5, 2) := by decide +kernel
theorem DX11_bring_72 : decode jX11_bring.2.1 72 = .ok (.invokevirtual 72, 3) := by decide +kernel
theorem DX11_bring_75 : decode jX11_bring.2.1 75 = .ok (.ireturn, 1) := by decide +kernel
theorem DX11_bring_76 : decode jX11_bring.2.1 76 = .ok (.aload 4, 2) := by decide +kernel
theorem DX11_bring_78 : decode jX11_bring.2.1 78 = .ok (.iload_n 2, 1) := by decide +kernel
theorem DX11_bring_79 : decode jX11_bring.2.1 79 = .ok (.putfield 156, 3) := by decide +kernel
theorem DX11_bring_82 : decode jX11_bring.2.1 82 = .ok (.aload 4, 2) := by decide +kernel
theorem DX11_bring_84 : decode jX11_bring.2.1 84 = .ok (.iload_n 3, 1) := by decide +kernel
theorem DX11_bring_85 : decode jX11_bring.2.1 85 = .ok (.putfield 159, 3) := by decide +kernel
theorem DX11_bring_88 : decode jX11_bring.2.1 88 = .ok (.aload 4, 2) := by decide +kernel
theorem DX11_bring_90 : decode jX11_bring.2.1 90 = .ok (.invokevirtual 162, 3) := by decide +kernel
theorem DX11_bring_93 : decode jX11_bring.2.1 93 = .ok (.ireturn, 1) := by decide +kernel
theorem DX11_brought_0 : decode jX11_brought.2.1 0 = .ok (.iload_n 1, 1) := by decide +kernel
theorem DX11_brought_1 : decode jX11_brought.2.1 1 = .ok (.iconst (-1), 1) := by decide +kernel
theorem DX11_brought_2 : decode jX11_brought.2.1 2 = .ok (.if_icmp .lt 8, 3) := by decide +kernel
theorem DX11_brought_5 : decode jX11_brought.2.1 5 = .ok (.iload_n 1, 1) := by decide +kernel
theorem DX11_brought_6 : decode jX11_brought.2.1 6 = .ok (.iconst 4, 1) := by decide +kernel
theorem DX11_brought_7 : decode jX11_brought.2.1 7 = .ok (.if_icmp .lt 9, 3) := by decide +kernel
theorem DX11_brought_10 : decode jX11_brought.2.1 10 = .ok (.aload_n 0, 1) := by decide +kernel
theorem DX11_brought_11 : decode jX11_brought.2.1 11 = .ok (.iconst (-1), 1) := by decide +kernel
theorem DX11_brought_12 : decode jX11_brought.2.1 12 = .ok (.invokevirtual 72, 3) := by decide +kernel
theorem DX11_brought_15 : decode jX11_brought.2.1 15 = .ok (.ireturn, 1) := by decide +kernel
theorem DX11_brought_16 : decode jX11_brought.2.1 16 = .ok (.iload_n 2, 1) := by decide +kernel
theorem DX11_brought_17 : decode jX11_brought.2.1 17 = .ok (.ifCond .lt 8, 3) := by decide +kernel
theorem DX11_brought_20 : decode jX11_brought.2.1 20 = .ok (.iload_n 2, 1) := by decide +kernel
theorem DX11_brought_21 : decode jX11_brought.2.1 21 = .ok (.iconst 2, 1) := by decide +kernel
theorem DX11_brought_22 : decode jX11_brought.2.1 22 = .ok (.if_icmp .le 12, 3) := by decide +kernel
theorem DX11_brought_25 : decode jX11_brought.2.1 25 = .ok (.aload_n 0, 1) := by decide +kernel
theorem DX11_brought_26 : decode jX11_brought.2.1 26 = .ok (.bipush (-2), 2) := by decide +kernel
theorem DX11_brought_28 : decode jX11_brought.2.1 28 = .ok (.invokevirtual 72, 3) := by decide +kernel
theorem DX11_brought_31 : decode jX11_brought.2.1 31 = .ok (.goto 12, 3) := by decide +kernel
theorem DX11_brought_34 : decode jX11_brought.2.1 34 = .ok (.aload_n 0, 1) := by decide +kernel
theorem DX11_brought_35 : decode jX11_brought.2.1 35 = .ok (.getfield 23, 3) := by decide +kernel
theorem DX11_brought_38 : decode jX11_brought.2.1 38 = .ok (.iload_n 1, 1) := by decide +kernel
theorem DX11_brought_39 : decode jX11_brought.2.1 39 = .ok (.iload_n 2, 1) := by decide +kernel
theorem DX11_brought_40 : decode jX11_brought.2.1 40 = .ok (.invokevirtual 166, 3) := by decide +kernel
theorem DX11_brought_43 : decode jX11_brought.2.1 43 = .ok (.ireturn, 1) := by decide +kernel
theorem DX11_ask_0 : decode jX11_ask.2.1 0 = .ok (.iload_n 1, 1) := by decide +kernel
theorem DX11_ask_1 : decode jX11_ask.2.1 1 = .ok (.iconst 0, 1) := by decide +kernel
theorem DX11_ask_2 : decode jX11_ask.2.1 2 = .ok (.sipush 10000, 3) := by decide +kernel
theorem DX11_ask_5 : decode jX11_ask.2.1 5 = .ok (.invokestatic 83, 3) := by decide +kernel
theorem DX11_ask_8 : decode jX11_ask.2.1 8 = .ok (.istore_n 2, 1) := by decide +kernel
theorem DX11_ask_9 : decode jX11_ask.2.1 9 = .ok (.iload_n 2, 1) := by decide +kernel
theorem DX11_ask_10 : decode jX11_ask.2.1 10 = .ok (.ifCond .eq 9, 3) := by decide +kernel
theorem DX11_ask_13 : decode jX11_ask.2.1 13 = .ok (.aload_n 0, 1) := by decide +kernel
theorem DX11_ask_14 : decode jX11_ask.2.1 14 = .ok (.iload_n 2, 1) := by decide +kernel
theorem DX11_ask_15 : decode jX11_ask.2.1 15 = .ok (.invokevirtual 72, 3) := by decide +kernel
theorem DX11_ask_18 : decode jX11_ask.2.1 18 = .ok (.ireturn, 1) := by decide +kernel
theorem DX11_ask_19 : decode jX11_ask.2.1 19 = .ok (.aload_n 0, 1) := by decide +kernel
theorem DX11_ask_20 : decode jX11_ask.2.1 20 = .ok (.getfield 23, 3) := by decide +kernel
theorem DX11_ask_23 : decode jX11_ask.2.1 23 = .ok (.getfield 169, 3) := by decide +kernel
theorem DX11_ask_26 : decode jX11_ask.2.1 26 = .ok (.istore_n 3, 1) := by decide +kernel
theorem DX11_ask_27 : decode jX11_ask.2.1 27 = .ok (.aload_n 0, 1) := by decide +kernel
theorem DX11_ask_28 : decode jX11_ask.2.1 28 = .ok (.getfield 23, 3) := by decide +kernel
theorem DX11_ask_31 : decode jX11_ask.2.1 31 = .ok (.iload_n 1, 1) := by decide +kernel
theorem DX11_ask_32 : decode jX11_ask.2.1 32 = .ok (.putfield 169, 3) := by decide +kernel
theorem DX11_ask_35 : decode jX11_ask.2.1 35 = .ok (.iload_n 3, 1) := by decide +kernel
theorem DX11_ask_36 : decode jX11_ask.2.1 36 = .ok (.ireturn, 1) := by decide +kernel
theorem DX11_share_0 : decode jX11_share.2.1 0 = .ok (.aload_n 0, 1) := by decide +kernel
theorem DX11_share_1 : decode jX11_share.2.1 1 = .ok (.getfield 23, 3) := by decide +kernel
theorem DX11_share_4 : decode jX11_share.2.1 4 = .ok (.iload_n 1, 1) := by decide +kernel
theorem DX11_share_5 : decode jX11_share.2.1 5 = .ok (.invokevirtual 139, 3) := by decide +kernel
theorem DX11_share_8 : decode jX11_share.2.1 8 = .ok (.astore_n 2, 1) := by decide +kernel
theorem DX11_share_9 : decode jX11_share.2.1 9 = .ok (.aload_n 2, 1) := by decide +kernel
theorem DX11_share_10 : decode jX11_share.2.1 10 = .ok (.ifnonnull 11, 3) := by decide +kernel
theorem DX11_share_13 : decode jX11_share.2.1 13 = .ok (.aload_n 0, 1) := by decide +kernel
theorem DX11_share_14 : decode jX11_share.2.1 14 = .ok (.iconst (-1), 1) := by decide +kernel
theorem DX11_share_15 : decode jX11_share.2.1 15 = .ok (.invokevirtual 72, 3) := by decide +kernel
theorem DX11_share_18 : decode jX11_share.2.1 18 = .ok (.goto 11, 3) := by decide +kernel
theorem DX11_share_21 : decode jX11_share.2.1 21 = .ok (.aload_n 0, 1) := by decide +kernel
theorem DX11_share_22 : decode jX11_share.2.1 22 = .ok (.getfield 23, 3) := by decide +kernel
theorem DX11_share_25 : decode jX11_share.2.1 25 = .ok (.aload_n 2, 1) := by decide +kernel
theorem DX11_share_26 : decode jX11_share.2.1 26 = .ok (.invokevirtual 172, 3) := by decide +kernel
theorem DX11_share_29 : decode jX11_share.2.1 29 = .ok (.ireturn, 1) := by decide +kernel
theorem DX11_owed_0 : decode jX11_owed.2.1 0 = .ok (.aload_n 0, 1) := by decide +kernel
theorem DX11_owed_1 : decode jX11_owed.2.1 1 = .ok (.getfield 23, 3) := by decide +kernel
theorem DX11_owed_4 : decode jX11_owed.2.1 4 = .ok (.iload_n 1, 1) := by decide +kernel
theorem DX11_owed_5 : decode jX11_owed.2.1 5 = .ok (.invokevirtual 139, 3) := by decide +kernel
theorem DX11_owed_8 : decode jX11_owed.2.1 8 = .ok (.astore_n 2, 1) := by decide +kernel
theorem DX11_owed_9 : decode jX11_owed.2.1 9 = .ok (.aload_n 2, 1) := by decide +kernel
theorem DX11_owed_10 : decode jX11_owed.2.1 10 = .ok (.ifnonnull 11, 3) := by decide +kernel
theorem DX11_owed_13 : decode jX11_owed.2.1 13 = .ok (.aload_n 0, 1) := by decide +kernel
theorem DX11_owed_14 : decode jX11_owed.2.1 14 = .ok (.iconst (-1), 1) := by decide +kernel
theorem DX11_owed_15 : decode jX11_owed.2.1 15 = .ok (.invokevirtual 80, 3) := by decide +kernel
theorem DX11_owed_18 : decode jX11_owed.2.1 18 = .ok (.goto 7, 3) := by decide +kernel
theorem DX11_owed_21 : decode jX11_owed.2.1 21 = .ok (.aload_n 2, 1) := by decide +kernel
theorem DX11_owed_22 : decode jX11_owed.2.1 22 = .ok (.getfield 176, 3) := by decide +kernel
theorem DX11_owed_25 : decode jX11_owed.2.1 25 = .ok (.ireturn, 1) := by decide +kernel
theorem DX11_small_0 : decode jX11_small.2.1 0 = .ok (.aload_n 0, 1) := by decide +kernel
theorem DX11_small_1 : decode jX11_small.2.1 1 = .ok (.getfield 23, 3) := by decide +kernel
theorem DX11_small_4 : decode jX11_small.2.1 4 = .ok (.iload_n 1, 1) := by decide +kernel
theorem DX11_small_5 : decode jX11_small.2.1 5 = .ok (.invokevirtual 139, 3) := by decide +kernel
theorem DX11_small_8 : decode jX11_small.2.1 8 = .ok (.astore 4, 2) := by decide +kernel
theorem DX11_small_10 : decode jX11_small.2.1 10 = .ok (.aload_n 0, 1) := by decide +kernel
theorem DX11_small_11 : decode jX11_small.2.1 11 = .ok (.getfield 23, 3) := by decide +kernel
theorem DX11_small_14 : decode jX11_small.2.1 14 = .ok (.iload_n 2, 1) := by decide +kernel
theorem DX11_small_15 : decode jX11_small.2.1 15 = .ok (.invokevirtual 139, 3) := by decide +kernel
theorem DX11_small_18 : decode jX11_small.2.1 18 = .ok (.astore 5, 2) := by decide +kernel
theorem DX11_small_20 : decode jX11_small.2.1 20 = .ok (.aload_n 0, 1) := by decide +kernel
theorem DX11_small_21 : decode jX11_small.2.1 21 = .ok (.getfield 23, 3) := by decide +kernel
theorem DX11_small_24 : decode jX11_small.2.1 24 = .ok (.iload_n 3, 1) := by decide +kernel
theorem DX11_small_25 : decode jX11_small.2.1 25 = .ok (.invokevirtual 139, 3) := by decide +kernel
theorem DX11_small_28 : decode jX11_small.2.1 28 = .ok (.astore 6, 2) := by decide +kernel
theorem DX11_small_30 : decode jX11_small.2.1 30 = .ok (.aload 4, 2) := by decide +kernel
theorem DX11_small_32 : decode jX11_small.2.1 32 = .ok (.ifnull 13, 3) := by decide +kernel
theorem DX11_small_35 : decode jX11_small.2.1 35 = .ok (.aload 5, 2) := by decide +kernel
theorem DX11_small_37 : decode jX11_small.2.1 37 = .ok (.ifnull 8, 3) := by decide +kernel
theorem DX11_small_40 : decode jX11_small.2.1 40 = .ok (.aload 6, 2) := by decide +kernel
theorem DX11_small_42 : decode jX11_small.2.1 42 = .ok (.ifnonnull 9, 3) := by decide +kernel
theorem DX11_small_45 : decode jX11_small.2.1 45 = .ok (.aload_n 0, 1) := by decide +kernel
theorem DX11_small_46 : decode jX11_small.2.1 46 = .ok (.iconst (-1), 1) := by decide +kernel
theorem DX11_small_47 : decode jX11_small.2.1 47 = .ok (.invokevirtual 72, 3) := by decide +kernel
theorem DX11_small_50 : decode jX11_small.2.1 50 = .ok (.ireturn, 1) := by decide +kernel
theorem DX11_small_51 : decode jX11_small.2.1 51 = .ok (.aload 4, 2) := by decide +kernel
theorem DX11_small_53 : decode jX11_small.2.1 53 = .ok (.invokevirtual 162, 3) := by decide +kernel
theorem DX11_small_56 : decode jX11_small.2.1 56 = .ok (.iload_n 1, 1) := by decide +kernel
theorem DX11_small_57 : decode jX11_small.2.1 57 = .ok (.iload_n 1, 1) := by decide +kernel
theorem DX11_small_58 : decode jX11_small.2.1 58 = .ok (.iload_n 2, 1) := by decide +kernel
theorem DX11_small_59 : decode jX11_small.2.1 59 = .ok (.iload_n 3, 1) := by decide +kernel
theorem DX11_small_60 : decode jX11_small.2.1 60 = .ok (.invokestatic 179, 3) := by decide +kernel
theorem DX11_small_63 : decode jX11_small.2.1 63 = .ok (.if_icmp .lt 33, 3) := by decide +kernel
theorem DX11_small_66 : decode jX11_small.2.1 66 = .ok (.aload 5, 2) := by decide +kernel
theorem DX11_small_68 : decode jX11_small.2.1 68 = .ok (.invokevirtual 162, 3) := by decide +kernel
theorem DX11_small_71 : decode jX11_small.2.1 71 = .ok (.iload_n 2, 1) := by decide +kernel
theorem DX11_small_72 : decode jX11_small.2.1 72 = .ok (.iload_n 1, 1) := by decide +kernel
theorem DX11_small_73 : decode jX11_small.2.1 73 = .ok (.iload_n 2, 1) := by decide +kernel
theorem DX11_small_74 : decode jX11_small.2.1 74 = .ok (.iload_n 3, 1) := by decide +kernel
theorem DX11_small_75 : decode jX11_small.2.1 75 = .ok (.invokestatic 179, 3) := by decide +kernel
theorem DX11_small_78 : decode jX11_small.2.1 78 = .ok (.if_icmp .lt 18, 3) := by decide +kernel
theorem DX11_small_81 : decode jX11_small.2.1 81 = .ok (.aload 6, 2) := by decide +kernel
theorem DX11_small_83 : decode jX11_small.2.1 83 = .ok (.invokevirtual 162, 3) := by decide +kernel
theorem DX11_small_86 : decode jX11_small.2.1 86 = .ok (.iload_n 3, 1) := by decide +kernel
theorem DX11_small_87 : decode jX11_small.2.1 87 = .ok (.iload_n 1, 1) := by decide +kernel
theorem DX11_small_88 : decode jX11_small.2.1 88 = .ok (.iload_n 2, 1) := by decide +kernel
theorem DX11_small_89 : decode jX11_small.2.1 89 = .ok (.iload_n 3, 1) := by decide +kernel
theorem DX11_small_90 : decode jX11_small.2.1 90 = .ok (.invokestatic 179, 3) := by decide +kernel
theorem DX11_small_93 : decode jX11_small.2.1 93 = .ok (.if_icmp .ge 10, 3) := by decide +kernel
theorem DX11_small_96 : decode jX11_small.2.1 96 = .ok (.aload_n 0, 1) := by decide +kernel
theorem DX11_small_97 : decode jX11_small.2.1 97 = .ok (.bipush (-3), 2) := by decide +kernel
theorem DX11_small_99 : decode jX11_small.2.1 99 = .ok (.invokevirtual 72, 3) := by decide +kernel
theorem DX11_small_102 : decode jX11_small.2.1 102 = .ok (.ireturn, 1) := by decide +kernel
theorem DX11_small_103 : decode jX11_small.2.1 103 = .ok (.aload_n 0, 1) := by decide +kernel
theorem DX11_small_104 : decode jX11_small.2.1 104 = .ok (.getfield 30, 3) := by decide +kernel
theorem DX11_small_107 : decode jX11_small.2.1 107 = .ok (.invokevirtual 183, 3) := by decide +kernel
theorem DX11_small_110 : decode jX11_small.2.1 110 = .ok (.ifCond .eq 12, 3) := by decide +kernel
theorem DX11_small_113 : decode jX11_small.2.1 113 = .ok (.aload_n 0, 1) := by decide +kernel
theorem DX11_small_114 : decode jX11_small.2.1 114 = .ok (.bipush (-6), 2) := by decide +kernel
theorem DX11_small_116 : decode jX11_small.2.1 116 = .ok (.invokevirtual 72, 3) := by decide +kernel
theorem DX11_small_119 : decode jX11_small.2.1 119 = .ok (.goto 23, 3) := by decide +kernel
theorem DX11_small_122 : decode jX11_small.2.1 122 = .ok (.aload_n 0, 1) := by decide +kernel
theorem DX11_small_123 : decode jX11_small.2.1 123 = .ok (.getfield 30, 3) := by decide +kernel
theorem DX11_small_126 : decode jX11_small.2.1 126 = .ok (.aload 4, 2) := by decide +kernel
theorem DX11_small_128 : decode jX11_small.2.1 128 = .ok (.aload 5, 2) := by decide +kernel
theorem DX11_small_130 : decode jX11_small.2.1 130 = .ok (.aload 6, 2) := by decide +kernel
theorem DX11_small_132 : decode jX11_small.2.1 132 = .ok (.aload_n 0, 1) := by decide +kernel
theorem DX11_small_133 : decode jX11_small.2.1 133 = .ok (.getfield 16, 3) := by decide +kernel
theorem DX11_small_136 : decode jX11_small.2.1 136 = .ok (.getfield 94, 3) := by decide +kernel
theorem DX11_small_139 : decode jX11_small.2.1 139 = .ok (.invokevirtual 187, 3) := by decide +kernel
theorem DX11_small_142 : decode jX11_small.2.1 142 = .ok (.ireturn, 1) := by decide +kernel
theorem DX11_timesAmong_0 : decode jX11_timesAmong.2.1 0 = .ok (.iload_n 0, 1) := by decide +kernel
theorem DX11_timesAmong_1 : decode jX11_timesAmong.2.1 1 = .ok (.iload_n 1, 1) := by decide +kernel
theorem DX11_timesAmong_2 : decode jX11_timesAmong.2.1 2 = .ok (.if_icmp .ne 7, 3) := by decide +kernel
theorem DX11_timesAmong_5 : decode jX11_timesAmong.2.1 5 = .ok (.iconst 1, 1) := by decide +kernel
theorem DX11_timesAmong_6 : decode jX11_timesAmong.2.1 6 = .ok (.goto 4, 3) := by decide +kernel
theorem DX11_timesAmong_9 : decode jX11_timesAmong.2.1 9 = .ok (.iconst 0, 1) := by decide +kernel
theorem DX11_timesAmong_10 : decode jX11_timesAmong.2.1 10 = .ok (.iload_n 0, 1) := by decide +kernel
theorem DX11_timesAmong_11 : decode jX11_timesAmong.2.1 11 = .ok (.iload_n 2, 1) := by decide +kernel
theorem DX11_timesAmong_12 : decode jX11_timesAmong.2.1 12 = .ok (.if_icmp .ne 7, 3) := by decide +kernel
theorem DX11_timesAmong_15 : decode jX11_timesAmong.2.1 15 = .ok (.iconst 1, 1) := by decide +kernel
theorem DX11_timesAmong_16 : decode jX11_timesAmong.2.1 16 = .ok (.goto 4, 3) := by decide +kernel
theorem DX11_timesAmong_19 : decode jX11_timesAmong.2.1 19 = .ok (.iconst 0, 1) := by decide +kernel
theorem DX11_timesAmong_20 : decode jX11_timesAmong.2.1 20 = .ok (.iadd, 1) := by decide +kernel
theorem DX11_timesAmong_21 : decode jX11_timesAmong.2.1 21 = .ok (.iload_n 0, 1) := by decide +kernel
theorem DX11_timesAmong_22 : decode jX11_timesAmong.2.1 22 = .ok (.iload_n 3, 1) := by decide +kernel
theorem DX11_timesAmong_23 : decode jX11_timesAmong.2.1 23 = .ok (.if_icmp .ne 7, 3) := by decide +kernel
theorem DX11_timesAmong_26 : decode jX11_timesAmong.2.1 26 = .ok (.iconst 1, 1) := by decide +kernel
theorem DX11_timesAmong_27 : decode jX11_timesAmong.2.1 27 = .ok (.goto 4, 3) := by decide +kernel
theorem DX11_timesAmong_30 : decode jX11_timesAmong.2.1 30 = .ok (.iconst 0, 1) := by decide +kernel
theorem DX11_timesAmong_31 : decode jX11_timesAmong.2.1 31 = .ok (.iadd, 1) := by decide +kernel
theorem DX11_timesAmong_32 : decode jX11_timesAmong.2.1 32 = .ok (.ireturn, 1) := by decide +kernel
theorem DX11_lay_0 : decode jX11_lay.2.1 0 = .ok (.aload_n 0, 1) := by decide +kernel
theorem DX11_lay_1 : decode jX11_lay.2.1 1 = .ok (.getfield 30, 3) := by decide +kernel
theorem DX11_lay_4 : decode jX11_lay.2.1 4 = .ok (.iload_n 1, 1) := by decide +kernel
theorem DX11_lay_5 : decode jX11_lay.2.1 5 = .ok (.invokevirtual 191, 3) := by decide +kernel
theorem DX11_lay_8 : decode jX11_lay.2.1 8 = .ok (.astore 4, 2) := by decide +kernel
theorem DX11_lay_10 : decode jX11_lay.2.1 10 = .ok (.aload_n 0, 1) := by decide +kernel
theorem DX11_lay_11 : decode jX11_lay.2.1 11 = .ok (.getfield 30, 3) := by decide +kernel
theorem DX11_lay_14 : decode jX11_lay.2.1 14 = .ok (.iload_n 2, 1) := by decide +kernel
theorem DX11_lay_15 : decode jX11_lay.2.1 15 = .ok (.invokevirtual 191, 3) := by decide +kernel
theorem DX11_lay_18 : decode jX11_lay.2.1 18 = .ok (.astore 5, 2) := by decide +kernel
theorem DX11_lay_20 : decode jX11_lay.2.1 20 = .ok (.aload_n 0, 1) := by decide +kernel
theorem DX11_lay_21 : decode jX11_lay.2.1 21 = .ok (.getfield 30, 3) := by decide +kernel
theorem DX11_lay_24 : decode jX11_lay.2.1 24 = .ok (.iload_n 3, 1) := by decide +kernel
theorem DX11_lay_25 : decode jX11_lay.2.1 25 = .ok (.invokevirtual 191, 3) := by decide +kernel
theorem DX11_lay_28 : decode jX11_lay.2.1 28 = .ok (.astore 6, 2) := by decide +kernel
theorem DX11_lay_30 : decode jX11_lay.2.1 30 = .ok (.aload 4, 2) := by decide +kernel
theorem DX11_lay_32 : decode jX11_lay.2.1 32 = .ok (.ifnull 28, 3) := by decide +kernel
theorem DX11_lay_35 : decode jX11_lay.2.1 35 = .ok (.aload 5, 2) := by decide +kernel
theorem DX11_lay_37 : decode jX11_lay.2.1 37 = .ok (.ifnull 23, 3) := by decide +kernel
theorem DX11_lay_40 : decode jX11_lay.2.1 40 = .ok (.aload 6, 2) := by decide +kernel
theorem DX11_lay_42 : decode jX11_lay.2.1 42 = .ok (.ifnull 18, 3) := by decide +kernel
theorem DX11_lay_45 : decode jX11_lay.2.1 45 = .ok (.iload_n 1, 1) := by decide +kernel
theorem DX11_lay_46 : decode jX11_lay.2.1 46 = .ok (.iload_n 2, 1) := by decide +kernel
theorem DX11_lay_47 : decode jX11_lay.2.1 47 = .ok (.if_icmp .eq 13, 3) := by decide +kernel
theorem DX11_lay_50 : decode jX11_lay.2.1 50 = .ok (.iload_n 2, 1) := by decide +kernel
theorem DX11_lay_51 : decode jX11_lay.2.1 51 = .ok (.iload_n 3, 1) := by decide +kernel
theorem DX11_lay_52 : decode jX11_lay.2.1 52 = .ok (.if_icmp .eq 8, 3) := by decide +kernel
theorem DX11_lay_55 : decode jX11_lay.2.1 55 = .ok (.iload_n 1, 1) := by decide +kernel
theorem DX11_lay_56 : decode jX11_lay.2.1 56 = .ok (.iload_n 3, 1) := by decide +kernel
theorem DX11_lay_57 : decode jX11_lay.2.1 57 = .ok (.if_icmp .ne 9, 3) := by decide +kernel
theorem DX11_lay_60 : decode jX11_lay.2.1 60 = .ok (.aload_n 0, 1) := by decide +kernel
theorem DX11_lay_61 : decode jX11_lay.2.1 61 = .ok (.iconst (-1), 1) := by decide +kernel
theorem DX11_lay_62 : decode jX11_lay.2.1 62 = .ok (.invokevirtual 72, 3) := by decide +kernel
theorem DX11_lay_65 : decode jX11_lay.2.1 65 = .ok (.ireturn, 1) := by decide +kernel
theorem DX11_lay_66 : decode jX11_lay.2.1 66 = .ok (.aload 4, 2) := by decide +kernel
theorem DX11_lay_68 : decode jX11_lay.2.1 68 = .ok (.getfield 193, 3) := by decide +kernel
theorem DX11_lay_71 : decode jX11_lay.2.1 71 = .ok (.iconst 2, 1) := by decide +kernel
theorem DX11_lay_72 : decode jX11_lay.2.1 72 = .ok (.if_icmp .eq 29, 3) := by decide +kernel
theorem DX11_lay_75 : decode jX11_lay.2.1 75 = .ok (.aload 5, 2) := by decide +kernel
theorem DX11_lay_77 : decode jX11_lay.2.1 77 = .ok (.getfield 193, 3) := by decide +kernel
theorem DX11_lay_80 : decode jX11_lay.2.1 80 = .ok (.aload 4, 2) := by decide +kernel
theorem DX11_lay_82 : decode jX11_lay.2.1 82 = .ok (.getfield 193, 3) := by decide +kernel
theorem DX11_lay_85 : decode jX11_lay.2.1 85 = .ok (.if_icmp .ne 16, 3) := by decide +kernel
theorem DX11_lay_88 : decode jX11_lay.2.1 88 = .ok (.aload 6, 2) := by decide +kernel
theorem DX11_lay_90 : decode jX11_lay.2.1 90 = .ok (.getfield 193, 3) := by decide +kernel
theorem DX11_lay_93 : decode jX11_lay.2.1 93 = .ok (.aload 4, 2) := by decide +kernel
theorem DX11_lay_95 : decode jX11_lay.2.1 95 = .ok (.getfield 193, 3) := by decide +kernel
theorem DX11_lay_98 : decode jX11_lay.2.1 98 = .ok (.if_icmp .eq 10, 3) := by decide +kernel
theorem DX11_lay_101 : decode jX11_lay.2.1 101 = .ok (.aload_n 0, 1) := by decide +kernel
theorem DX11_lay_102 : decode jX11_lay.2.1 102 = .ok (.bipush (-2), 2) := by decide +kernel
theorem DX11_lay_104 : decode jX11_lay.2.1 104 = .ok (.invokevirtual 72, 3) := by decide +kernel
theorem DX11_lay_107 : decode jX11_lay.2.1 107 = .ok (.ireturn, 1) := by decide +kernel
theorem DX11_lay_108 : decode jX11_lay.2.1 108 = .ok (.aload_n 0, 1) := by decide +kernel
theorem DX11_lay_109 : decode jX11_lay.2.1 109 = .ok (.getfield 16, 3) := by decide +kernel
theorem DX11_lay_112 : decode jX11_lay.2.1 112 = .ok (.getfield 94, 3) := by decide +kernel
theorem DX11_lay_115 : decode jX11_lay.2.1 115 = .ok (.istore 7, 2) := by decide +kernel
theorem DX11_lay_117 : decode jX11_lay.2.1 117 = .ok (.aload 4, 2) := by decide +kernel
theorem DX11_lay_119 : decode jX11_lay.2.1 119 = .ok (.iload 7, 2) := by decide +kernel
theorem DX11_lay_121 : decode jX11_lay.2.1 121 = .ok (.invokevirtual 198, 3) := by decide +kernel
theorem DX11_lay_124 : decode jX11_lay.2.1 124 = .ok (.ifCond .eq 23, 3) := by decide +kernel
theorem DX11_lay_127 : decode jX11_lay.2.1 127 = .ok (.aload 5, 2) := by decide +kernel
theorem DX11_lay_129 : decode jX11_lay.2.1 129 = .ok (.iload 7, 2) := by decide +kernel
theorem DX11_lay_131 : decode jX11_lay.2.1 131 = .ok (.invokevirtual 198, 3) := by decide +kernel
theorem DX11_lay_134 : decode jX11_lay.2.1 134 = .ok (.ifCond .eq 13, 3) := by decide +kernel
theorem DX11_lay_137 : decode jX11_lay.2.1 137 = .ok (.aload 6, 2) := by decide +kernel
theorem DX11_lay_139 : decode jX11_lay.2.1 139 = .ok (.iload 7, 2) := by decide +kernel
theorem DX11_lay_141 : decode jX11_lay.2.1 141 = .ok (.invokevirtual 198, 3) := by decide +kernel
theorem DX11_lay_144 : decode jX11_lay.2.1 144 = .ok (.ifCond .ne 10, 3) := by decide +kernel
theorem DX11_lay_147 : decode jX11_lay.2.1 147 = .ok (.aload_n 0, 1) := by decide +kernel
theorem DX11_lay_148 : decode jX11_lay.2.1 148 = .ok (.bipush (-3), 2) := by decide +kernel
theorem DX11_lay_150 : decode jX11_lay.2.1 150 = .ok (.invokevirtual 72, 3) := by decide +kernel
theorem DX11_lay_153 : decode jX11_lay.2.1 153 = .ok (.ireturn, 1) := by decide +kernel
theorem DX11_lay_154 : decode jX11_lay.2.1 154 = .ok (.aload_n 0, 1) := by decide +kernel
theorem DX11_lay_155 : decode jX11_lay.2.1 155 = .ok (.getfield 30, 3) := by decide +kernel
theorem DX11_lay_158 : decode jX11_lay.2.1 158 = .ok (.invokevirtual 183, 3) := by decide +kernel
theorem DX11_lay_161 : decode jX11_lay.2.1 161 = .ok (.ifCond .eq 12, 3) := by decide +kernel
theorem DX11_lay_164 : decode jX11_lay.2.1 164 = .ok (.aload_n 0, 1) := by decide +kernel
theorem DX11_lay_165 : decode jX11_lay.2.1 165 = .ok (.bipush (-6), 2) := by decide +kernel
theorem DX11_lay_167 : decode jX11_lay.2.1 167 = .ok (.invokevirtual 72, 3) := by decide +kernel
theorem DX11_lay_170 : decode jX11_lay.2.1 170 = .ok (.goto 18, 3) := by decide +kernel
theorem DX11_lay_173 : decode jX11_lay.2.1 173 = .ok (.aload_n 0, 1) := by decide +kernel
theorem DX11_lay_174 : decode jX11_lay.2.1 174 = .ok (.getfield 30, 3) := by decide +kernel
theorem DX11_lay_177 : decode jX11_lay.2.1 177 = .ok (.aload 4, 2) := by decide +kernel
theorem DX11_lay_179 : decode jX11_lay.2.1 179 = .ok (.aload 5, 2) := by decide +kernel
theorem DX11_lay_181 : decode jX11_lay.2.1 181 = .ok (.aload 6, 2) := by decide +kernel
theorem DX11_lay_183 : decode jX11_lay.2.1 183 = .ok (.iload 7, 2) := by decide +kernel
theorem DX11_lay_185 : decode jX11_lay.2.1 185 = .ok (.invokevirtual 201, 3) := by decide +kernel
theorem DX11_lay_188 : decode jX11_lay.2.1 188 = .ok (.ireturn, 1) := by decide +kernel
theorem DX11_strands_0 : decode jX11_strands.2.1 0 = .ok (.aload_n 0, 1) := by decide +kernel
theorem DX11_strands_1 : decode jX11_strands.2.1 1 = .ok (.getfield 30, 3) := by decide +kernel
theorem DX11_strands_4 : decode jX11_strands.2.1 4 = .ok (.iload_n 1, 1) := by decide +kernel
theorem DX11_strands_5 : decode jX11_strands.2.1 5 = .ok (.invokevirtual 191, 3) := by decide +kernel
theorem DX11_strands_8 : decode jX11_strands.2.1 8 = .ok (.astore_n 3, 1) := by decide +kernel
theorem DX11_strands_9 : decode jX11_strands.2.1 9 = .ok (.aload_n 3, 1) := by decide +kernel
theorem DX11_strands_10 : decode jX11_strands.2.1 10 = .ok (.ifnull 14, 3) := by decide +kernel
theorem DX11_strands_13 : decode jX11_strands.2.1 13 = .ok (.aload_n 0, 1) := by decide +kernel
theorem DX11_strands_14 : decode jX11_strands.2.1 14 = .ok (.getfield 23, 3) := by decide +kernel
theorem DX11_strands_17 : decode jX11_strands.2.1 17 = .ok (.iload_n 2, 1) := by decide +kernel
theorem DX11_strands_18 : decode jX11_strands.2.1 18 = .ok (.invokevirtual 139, 3) := by decide +kernel
theorem DX11_strands_21 : decode jX11_strands.2.1 21 = .ok (.ifnonnull 11, 3) := by decide +kernel
theorem DX11_strands_24 : decode jX11_strands.2.1 24 = .ok (.aload_n 0, 1) := by decide +kernel
theorem DX11_strands_25 : decode jX11_strands.2.1 25 = .ok (.iconst (-1), 1) := by decide +kernel
theorem DX11_strands_26 : decode jX11_strands.2.1 26 = .ok (.invokevirtual 72, 3) := by decide +kernel
theorem DX11_strands_29 : decode jX11_strands.2.1 29 = .ok (.goto 8, 3) := by decide +kernel
theorem DX11_strands_32 : decode jX11_strands.2.1 32 = .ok (.aload_n 3, 1) := by decide +kernel
theorem DX11_strands_33 : decode jX11_strands.2.1 33 = .ok (.iload_n 2, 1) := by decide +kernel
theorem DX11_strands_34 : decode jX11_strands.2.1 34 = .ok (.invokevirtual 205, 3) := by decide +kernel
theorem DX11_strands_37 : decode jX11_strands.2.1 37 = .ok (.ireturn, 1) := by decide +kernel
theorem DX11_ropeOf_0 : decode jX11_ropeOf.2.1 0 = .ok (.aload_n 0, 1) := by decide +kernel
theorem DX11_ropeOf_1 : decode jX11_ropeOf.2.1 1 = .ok (.getfield 30, 3) := by decide +kernel
theorem DX11_ropeOf_4 : decode jX11_ropeOf.2.1 4 = .ok (.iload_n 1, 1) := by decide +kernel
theorem DX11_ropeOf_5 : decode jX11_ropeOf.2.1 5 = .ok (.invokevirtual 191, 3) := by decide +kernel
theorem DX11_ropeOf_8 : decode jX11_ropeOf.2.1 8 = .ok (.astore_n 3, 1) := by decide +kernel
theorem DX11_ropeOf_9 : decode jX11_ropeOf.2.1 9 = .ok (.aload_n 3, 1) := by decide +kernel
theorem DX11_ropeOf_10 : decode jX11_ropeOf.2.1 10 = .ok (.ifnonnull 9, 3) := by decide +kernel
theorem DX11_ropeOf_13 : decode jX11_ropeOf.2.1 13 = .ok (.aload_n 0, 1) := by decide +kernel
theorem DX11_ropeOf_14 : decode jX11_ropeOf.2.1 14 = .ok (.iconst (-1), 1) := by decide +kernel
theorem DX11_ropeOf_15 : decode jX11_ropeOf.2.1 15 = .ok (.invokevirtual 72, 3) := by decide +kernel
theorem DX11_ropeOf_18 : decode jX11_ropeOf.2.1 18 = .ok (.ireturn, 1) := by decide +kernel
theorem DX11_ropeOf_19 : decode jX11_ropeOf.2.1 19 = .ok (.iload_n 2, 1) := by decide +kernel
theorem DX11_ropeOf_20 : decode jX11_ropeOf.2.1 20 = .ok (.tableswitch 76 0 4 #[36, 41, 46, 66, 71], 36) := by decide +kernel
theorem DX11_ropeOf_56 : decode jX11_ropeOf.2.1 56 = .ok (.aload_n 3, 1) := by decide +kernel
theorem DX11_ropeOf_57 : decode jX11_ropeOf.2.1 57 = .ok (.getfield 193, 3) := by decide +kernel
theorem DX11_ropeOf_60 : decode jX11_ropeOf.2.1 60 = .ok (.ireturn, 1) := by decide +kernel
theorem DX11_ropeOf_61 : decode jX11_ropeOf.2.1 61 = .ok (.aload_n 3, 1) := by decide +kernel
theorem DX11_ropeOf_62 : decode jX11_ropeOf.2.1 62 = .ok (.getfield 208, 3) := by decide +kernel
theorem DX11_ropeOf_65 : decode jX11_ropeOf.2.1 65 = .ok (.ireturn, 1) := by decide +kernel
theorem DX11_ropeOf_66 : decode jX11_ropeOf.2.1 66 = .ok (.aload_n 3, 1) := by decide +kernel
theorem DX11_ropeOf_67 : decode jX11_ropeOf.2.1 67 = .ok (.aload_n 0, 1) := by decide +kernel
theorem DX11_ropeOf_68 : decode jX11_ropeOf.2.1 68 = .ok (.getfield 16, 3) := by decide +kernel
theorem DX11_ropeOf_71 : decode jX11_ropeOf.2.1 71 = .ok (.getfield 94, 3) := by decide +kernel
theorem DX11_ropeOf_74 : decode jX11_ropeOf.2.1 74 = .ok (.invokevirtual 198, 3) := by decide +kernel
theorem DX11_ropeOf_77 : decode jX11_ropeOf.2.1 77 = .ok (.ifCond .eq 7, 3) := by decide +kernel
theorem DX11_ropeOf_80 : decode jX11_ropeOf.2.1 80 = .ok (.iconst 1, 1) := by decide +kernel
theorem DX11_ropeOf_81 : decode jX11_ropeOf.2.1 81 = .ok (.goto 4, 3) := by decide +kernel
theorem DX11_ropeOf_84 : decode jX11_ropeOf.2.1 84 = .ok (.iconst 0, 1) := by decide +kernel
theorem DX11_ropeOf_85 : decode jX11_ropeOf.2.1 85 = .ok (.ireturn, 1) := by decide +kernel
theorem DX11_ropeOf_86 : decode jX11_ropeOf.2.1 86 = .ok (.aload_n 3, 1) := by decide +kernel
theorem DX11_ropeOf_87 : decode jX11_ropeOf.2.1 87 = .ok (.getfield 211, 3) := by decide +kernel
theorem DX11_ropeOf_90 : decode jX11_ropeOf.2.1 90 = .ok (.ireturn, 1) := by decide +kernel
theorem DX11_ropeOf_91 : decode jX11_ropeOf.2.1 91 = .ok (.aload_n 3, 1) := by decide +kernel
theorem DX11_ropeOf_92 : decode jX11_ropeOf.2.1 92 = .ok (.getfield 214, 3) := by decide +kernel
theorem DX11_ropeOf_95 : decode jX11_ropeOf.2.1 95 = .ok (.ireturn, 1) := by decide +kernel
theorem DX11_ropeOf_96 : decode jX11_ropeOf.2.1 96 = .ok (.aload_n 0, 1) := by decide +kernel
theorem DX11_ropeOf_97 : decode jX11_ropeOf.2.1 97 = .ok (.bipush (-2), 2) := by decide +kernel
theorem DX11_ropeOf_99 : decode jX11_ropeOf.2.1 99 = .ok (.invokevirtual 72, 3) := by decide +kernel
theorem DX11_ropeOf_102 : decode jX11_ropeOf.2.1 102 = .ok (.ireturn, 1) := by decide +kernel
theorem DX11_hang_0 : decode jX11_hang.2.1 0 = .ok (.aload_n 0, 1) := by decide +kernel
theorem DX11_hang_1 : decode jX11_hang.2.1 1 = .ok (.getfield 30, 3) := by decide +kernel
theorem DX11_hang_4 : decode jX11_hang.2.1 4 = .ok (.iload_n 1, 1) := by decide +kernel
theorem DX11_hang_5 : decode jX11_hang.2.1 5 = .ok (.invokevirtual 191, 3) := by decide +kernel
theorem DX11_hang_8 : decode jX11_hang.2.1 8 = .ok (.astore_n 3, 1) := by decide +kernel
theorem DX11_hang_9 : decode jX11_hang.2.1 9 = .ok (.aload_n 3, 1) := by decide +kernel
theorem DX11_hang_10 : decode jX11_hang.2.1 10 = .ok (.ifnull 10, 3) := by decide +kernel
theorem DX11_hang_13 : decode jX11_hang.2.1 13 = .ok (.iload_n 2, 1) := by decide +kernel
theorem DX11_hang_14 : decode jX11_hang.2.1 14 = .ok (.invokestatic 217, 3) := by decide +kernel
theorem DX11_hang_17 : decode jX11_hang.2.1 17 = .ok (.ifCond .ne 9, 3) := by decide +kernel
theorem DX11_hang_20 : decode jX11_hang.2.1 20 = .ok (.aload_n 0, 1) := by decide +kernel
theorem DX11_hang_21 : decode jX11_hang.2.1 21 = .ok (.iconst (-1), 1) := by decide +kernel
theorem DX11_hang_22 : decode jX11_hang.2.1 22 = .ok (.invokevirtual 72, 3) := by decide +kernel
theorem DX11_hang_25 : decode jX11_hang.2.1 25 = .ok (.ireturn, 1) := by decide +kernel
theorem DX11_hang_26 : decode jX11_hang.2.1 26 = .ok (.aload_n 3, 1) := by decide +kernel
theorem DX11_hang_27 : decode jX11_hang.2.1 27 = .ok (.getfield 193, 3) := by decide +kernel
theorem DX11_hang_30 : decode jX11_hang.2.1 30 = .ok (.iconst 2, 1) := by decide +kernel
theorem DX11_hang_31 : decode jX11_hang.2.1 31 = .ok (.if_icmp .eq 10, 3) := by decide +kernel
theorem DX11_hang_34 : decode jX11_hang.2.1 34 = .ok (.aload_n 0, 1) := by decide +kernel
theorem DX11_hang_35 : decode jX11_hang.2.1 35 = .ok (.bipush (-2), 2) := by decide +kernel
theorem DX11_hang_37 : decode jX11_hang.2.1 37 = .ok (.invokevirtual 72, 3) := by decide +kernel
theorem DX11_hang_40 : decode jX11_hang.2.1 40 = .ok (.ireturn, 1) := by decide +kernel
theorem DX11_hang_41 : decode jX11_hang.2.1 41 = .ok (.aload_n 3, 1) := by decide +kernel
theorem DX11_hang_42 : decode jX11_hang.2.1 42 = .ok (.aload_n 0, 1) := by decide +kernel
theorem DX11_hang_43 : decode jX11_hang.2.1 43 = .ok (.getfield 16, 3) := by decide +kernel
theorem DX11_hang_46 : decode jX11_hang.2.1 46 = .ok (.getfield 94, 3) := by decide +kernel
theorem DX11_hang_49 : decode jX11_hang.2.1 49 = .ok (.invokevirtual 198, 3) := by decide +kernel
theorem DX11_hang_52 : decode jX11_hang.2.1 52 = .ok (.ifCond .eq 14, 3) := by decide +kernel
theorem DX11_hang_55 : decode jX11_hang.2.1 55 = .ok (.aload_n 0, 1) := by decide +kernel
theorem DX11_hang_56 : decode jX11_hang.2.1 56 = .ok (.getfield 37, 3) := by decide +kernel
theorem DX11_hang_59 : decode jX11_hang.2.1 59 = .ok (.iload_n 2, 1) := by decide +kernel
theorem DX11_hang_60 : decode jX11_hang.2.1 60 = .ok (.invokevirtual 117, 3) := by decide +kernel
theorem DX11_hang_63 : decode jX11_hang.2.1 63 = .ok (.ifnull 10, 3) := by decide +kernel
theorem DX11_hang_66 : decode jX11_hang.2.1 66 = .ok (.aload_n 0, 1) := by decide +kernel
theorem DX11_hang_67 : decode jX11_hang.2.1 67 = .ok (.bipush (-3), 2) := by decide +kernel
theorem DX11_hang_69 : decode jX11_hang.2.1 69 = .ok (.invokevirtual 72, 3) := by decide +kernel
theorem DX11_hang_72 : decode jX11_hang.2.1 72 = .ok (.ireturn, 1) := by decide +kernel
theorem DX11_hang_73 : decode jX11_hang.2.1 73 = .ok (.aload_n 0, 1) := by decide +kernel
theorem DX11_hang_74 : decode jX11_hang.2.1 74 = .ok (.getfield 37, 3) := by decide +kernel
theorem DX11_hang_77 : decode jX11_hang.2.1 77 = .ok (.aload_n 3, 1) := by decide +kernel
theorem DX11_hang_78 : decode jX11_hang.2.1 78 = .ok (.iload_n 2, 1) := by decide +kernel
theorem DX11_hang_79 : decode jX11_hang.2.1 79 = .ok (.aload_n 0, 1) := by decide +kernel
theorem DX11_hang_80 : decode jX11_hang.2.1 80 = .ok (.getfield 16, 3) := by decide +kernel
theorem DX11_hang_83 : decode jX11_hang.2.1 83 = .ok (.getfield 94, 3) := by decide +kernel
theorem DX11_hang_86 : decode jX11_hang.2.1 86 = .ok (.invokevirtual 220, 3) := by decide +kernel
theorem DX11_hang_89 : decode jX11_hang.2.1 89 = .ok (.iconst 1, 1) := by decide +kernel
theorem DX11_hang_90 : decode jX11_hang.2.1 90 = .ok (.ireturn, 1) := by decide +kernel
theorem DX11_cut_0 : decode jX11_cut.2.1 0 = .ok (.iload_n 1, 1) := by decide +kernel
theorem DX11_cut_1 : decode jX11_cut.2.1 1 = .ok (.invokestatic 217, 3) := by decide +kernel
theorem DX11_cut_4 : decode jX11_cut.2.1 4 = .ok (.ifCond .ne 9, 3) := by decide +kernel
theorem DX11_cut_7 : decode jX11_cut.2.1 7 = .ok (.aload_n 0, 1) := by decide +kernel
theorem DX11_cut_8 : decode jX11_cut.2.1 8 = .ok (.iconst (-1), 1) := by decide +kernel
theorem DX11_cut_9 : decode jX11_cut.2.1 9 = .ok (.invokevirtual 72, 3) := by decide +kernel
theorem DX11_cut_12 : decode jX11_cut.2.1 12 = .ok (.ireturn, 1) := by decide +kernel
theorem DX11_cut_13 : decode jX11_cut.2.1 13 = .ok (.aload_n 0, 1) := by decide +kernel
theorem DX11_cut_14 : decode jX11_cut.2.1 14 = .ok (.getfield 37, 3) := by decide +kernel
theorem DX11_cut_17 : decode jX11_cut.2.1 17 = .ok (.iload_n 1, 1) := by decide +kernel
theorem DX11_cut_18 : decode jX11_cut.2.1 18 = .ok (.invokevirtual 124, 3) := by decide +kernel
theorem DX11_cut_21 : decode jX11_cut.2.1 21 = .ok (.astore_n 2, 1) := by decide +kernel
theorem DX11_cut_22 : decode jX11_cut.2.1 22 = .ok (.aload_n 2, 1) := by decide +kernel
theorem DX11_cut_23 : decode jX11_cut.2.1 23 = .ok (.ifnonnull 12, 3) := by decide +kernel
theorem DX11_cut_26 : decode jX11_cut.2.1 26 = .ok (.aload_n 0, 1) := by decide +kernel
theorem DX11_cut_27 : decode jX11_cut.2.1 27 = .ok (.bipush (-3), 2) := by decide +kernel
theorem DX11_cut_29 : decode jX11_cut.2.1 29 = .ok (.invokevirtual 72, 3) := by decide +kernel
theorem DX11_cut_32 : decode jX11_cut.2.1 32 = .ok (.goto 7, 3) := by decide +kernel
theorem DX11_cut_35 : decode jX11_cut.2.1 35 = .ok (.aload_n 2, 1) := by decide +kernel
theorem DX11_cut_36 : decode jX11_cut.2.1 36 = .ok (.getfield 223, 3) := by decide +kernel
theorem DX11_cut_39 : decode jX11_cut.2.1 39 = .ok (.ireturn, 1) := by decide +kernel
theorem DX11_tension_0 : decode jX11_tension.2.1 0 = .ok (.iload_n 1, 1) := by decide +kernel
theorem DX11_tension_1 : decode jX11_tension.2.1 1 = .ok (.invokestatic 217, 3) := by decide +kernel
theorem DX11_tension_4 : decode jX11_tension.2.1 4 = .ok (.ifCond .ne 9, 3) := by decide +kernel
theorem DX11_tension_7 : decode jX11_tension.2.1 7 = .ok (.aload_n 0, 1) := by decide +kernel
theorem DX11_tension_8 : decode jX11_tension.2.1 8 = .ok (.iconst (-1), 1) := by decide +kernel
theorem DX11_tension_9 : decode jX11_tension.2.1 9 = .ok (.invokevirtual 72, 3) := by decide +kernel
theorem DX11_tension_12 : decode jX11_tension.2.1 12 = .ok (.ireturn, 1) := by decide +kernel
theorem DX11_tension_13 : decode jX11_tension.2.1 13 = .ok (.aload_n 0, 1) := by decide +kernel
theorem DX11_tension_14 : decode jX11_tension.2.1 14 = .ok (.getfield 37, 3) := by decide +kernel
theorem DX11_tension_17 : decode jX11_tension.2.1 17 = .ok (.iload_n 1, 1) := by decide +kernel
theorem DX11_tension_18 : decode jX11_tension.2.1 18 = .ok (.invokevirtual 117, 3) := by decide +kernel
theorem DX11_tension_21 : decode jX11_tension.2.1 21 = .ok (.ifnonnull 10, 3) := by decide +kernel
theorem DX11_tension_24 : decode jX11_tension.2.1 24 = .ok (.aload_n 0, 1) := by decide +kernel
theorem DX11_tension_25 : decode jX11_tension.2.1 25 = .ok (.bipush (-3), 2) := by decide +kernel
theorem DX11_tension_27 : decode jX11_tension.2.1 27 = .ok (.invokevirtual 72, 3) := by decide +kernel
theorem DX11_tension_30 : decode jX11_tension.2.1 30 = .ok (.ireturn, 1) := by decide +kernel
theorem DX11_tension_31 : decode jX11_tension.2.1 31 = .ok (.iload_n 2, 1) := by decide +kernel
theorem DX11_tension_32 : decode jX11_tension.2.1 32 = .ok (.iconst 0, 1) := by decide +kernel
theorem DX11_tension_33 : decode jX11_tension.2.1 33 = .ok (.bipush 99, 2) := by decide +kernel
theorem DX11_tension_35 : decode jX11_tension.2.1 35 = .ok (.invokestatic 83, 3) := by decide +kernel
theorem DX11_tension_38 : decode jX11_tension.2.1 38 = .ok (.istore_n 3, 1) := by decide +kernel
theorem DX11_tension_39 : decode jX11_tension.2.1 39 = .ok (.iload_n 3, 1) := by decide +kernel
theorem DX11_tension_40 : decode jX11_tension.2.1 40 = .ok (.ifCond .eq 11, 3) := by decide +kernel
theorem DX11_tension_43 : decode jX11_tension.2.1 43 = .ok (.aload_n 0, 1) := by decide +kernel
theorem DX11_tension_44 : decode jX11_tension.2.1 44 = .ok (.iload_n 3, 1) := by decide +kernel
theorem DX11_tension_45 : decode jX11_tension.2.1 45 = .ok (.invokevirtual 72, 3) := by decide +kernel
theorem DX11_tension_48 : decode jX11_tension.2.1 48 = .ok (.goto 12, 3) := by decide +kernel
theorem DX11_tension_51 : decode jX11_tension.2.1 51 = .ok (.aload_n 0, 1) := by decide +kernel
theorem DX11_tension_52 : decode jX11_tension.2.1 52 = .ok (.getfield 37, 3) := by decide +kernel
theorem DX11_tension_55 : decode jX11_tension.2.1 55 = .ok (.iload_n 1, 1) := by decide +kernel
theorem DX11_tension_56 : decode jX11_tension.2.1 56 = .ok (.iload_n 2, 1) := by decide +kernel
theorem DX11_tension_57 : decode jX11_tension.2.1 57 = .ok (.invokevirtual 226, 3) := by decide +kernel
theorem DX11_tension_60 : decode jX11_tension.2.1 60 = .ok (.ireturn, 1) := by decide +kernel
theorem DX11_strength_0 : decode jX11_strength.2.1 0 = .ok (.iload_n 1, 1) := by decide +kernel
theorem DX11_strength_1 : decode jX11_strength.2.1 1 = .ok (.invokestatic 217, 3) := by decide +kernel
theorem DX11_strength_4 : decode jX11_strength.2.1 4 = .ok (.ifCond .eq 22, 3) := by decide +kernel
theorem DX11_strength_7 : decode jX11_strength.2.1 7 = .ok (.aload_n 0, 1) := by decide +kernel
theorem DX11_strength_8 : decode jX11_strength.2.1 8 = .ok (.getfield 37, 3) := by decide +kernel
theorem DX11_strength_11 : decode jX11_strength.2.1 11 = .ok (.iload_n 1, 1) := by decide +kernel
theorem DX11_strength_12 : decode jX11_strength.2.1 12 = .ok (.aload_n 0, 1) := by decide +kernel
theorem DX11_strength_13 : decode jX11_strength.2.1 13 = .ok (.getfield 16, 3) := by decide +kernel
theorem DX11_strength_16 : decode jX11_strength.2.1 16 = .ok (.getfield 94, 3) := by decide +kernel
theorem DX11_strength_19 : decode jX11_strength.2.1 19 = .ok (.iconst 0, 1) := by decide +kernel
theorem DX11_strength_20 : decode jX11_strength.2.1 20 = .ok (.invokevirtual 121, 3) := by decide +kernel
theorem DX11_strength_23 : decode jX11_strength.2.1 23 = .ok (.goto 8, 3) := by decide +kernel
theorem DX11_strength_26 : decode jX11_strength.2.1 26 = .ok (.aload_n 0, 1) := by decide +kernel
theorem DX11_strength_27 : decode jX11_strength.2.1 27 = .ok (.iconst (-1), 1) := by decide +kernel
theorem DX11_strength_28 : decode jX11_strength.2.1 28 = .ok (.invokevirtual 72, 3) := by decide +kernel
theorem DX11_strength_31 : decode jX11_strength.2.1 31 = .ok (.ireturn, 1) := by decide +kernel
theorem DX11_bears_0 : decode jX11_bears.2.1 0 = .ok (.aload_n 0, 1) := by decide +kernel
theorem DX11_bears_1 : decode jX11_bears.2.1 1 = .ok (.getfield 37, 3) := by decide +kernel
theorem DX11_bears_4 : decode jX11_bears.2.1 4 = .ok (.aload_n 0, 1) := by decide +kernel
theorem DX11_bears_5 : decode jX11_bears.2.1 5 = .ok (.getfield 16, 3) := by decide +kernel
theorem DX11_bears_8 : decode jX11_bears.2.1 8 = .ok (.getfield 94, 3) := by decide +kernel
theorem DX11_bears_11 : decode jX11_bears.2.1 11 = .ok (.iconst 0, 1) := by decide +kernel
theorem DX11_bears_12 : decode jX11_bears.2.1 12 = .ok (.invokevirtual 229, 3) := by decide +kernel
theorem DX11_bears_15 : decode jX11_bears.2.1 15 = .ok (.ireturn, 1) := by decide +kernel
theorem DX11_load_0 : decode jX11_load.2.1 0 = .ok (.iload_n 1, 1) := by decide +kernel
theorem DX11_load_1 : decode jX11_load.2.1 1 = .ok (.iconst 0, 1) := by decide +kernel
theorem DX11_load_2 : decode jX11_load.2.1 2 = .ok (.sipush 2000, 3) := by decide +kernel
theorem DX11_load_5 : decode jX11_load.2.1 5 = .ok (.invokestatic 83, 3) := by decide +kernel
theorem DX11_load_8 : decode jX11_load.2.1 8 = .ok (.istore_n 2, 1) := by decide +kernel
theorem DX11_load_9 : decode jX11_load.2.1 9 = .ok (.iload_n 2, 1) := by decide +kernel
theorem DX11_load_10 : decode jX11_load.2.1 10 = .ok (.ifCond .eq 9, 3) := by decide +kernel
theorem DX11_load_13 : decode jX11_load.2.1 13 = .ok (.aload_n 0, 1) := by decide +kernel
theorem DX11_load_14 : decode jX11_load.2.1 14 = .ok (.iload_n 2, 1) := by decide +kernel
theorem DX11_load_15 : decode jX11_load.2.1 15 = .ok (.invokevirtual 72, 3) := by decide +kernel
theorem DX11_load_18 : decode jX11_load.2.1 18 = .ok (.ireturn, 1) := by decide +kernel
theorem DX11_load_19 : decode jX11_load.2.1 19 = .ok (.aload_n 0, 1) := by decide +kernel
theorem DX11_load_20 : decode jX11_load.2.1 20 = .ok (.getfield 37, 3) := by decide +kernel
theorem DX11_load_23 : decode jX11_load.2.1 23 = .ok (.iload_n 1, 1) := by decide +kernel
theorem DX11_load_24 : decode jX11_load.2.1 24 = .ok (.aload_n 0, 1) := by decide +kernel
theorem DX11_load_25 : decode jX11_load.2.1 25 = .ok (.getfield 16, 3) := by decide +kernel
theorem DX11_load_28 : decode jX11_load.2.1 28 = .ok (.getfield 94, 3) := by decide +kernel
theorem DX11_load_31 : decode jX11_load.2.1 31 = .ok (.iconst 0, 1) := by decide +kernel
theorem DX11_load_32 : decode jX11_load.2.1 32 = .ok (.invokevirtual 232, 3) := by decide +kernel
theorem DX11_load_35 : decode jX11_load.2.1 35 = .ok (.ifCond .eq 7, 3) := by decide +kernel
theorem DX11_load_38 : decode jX11_load.2.1 38 = .ok (.iconst 1, 1) := by decide +kernel
theorem DX11_load_39 : decode jX11_load.2.1 39 = .ok (.goto 4, 3) := by decide +kernel
theorem DX11_load_42 : decode jX11_load.2.1 42 = .ok (.iconst 0, 1) := by decide +kernel
theorem DX11_load_43 : decode jX11_load.2.1 43 = .ok (.ireturn, 1) := by decide +kernel
theorem DX11_till_0 : decode jX11_till.2.1 0 = .ok (.iload_n 1, 1) := by decide +kernel
theorem DX11_till_1 : decode jX11_till.2.1 1 = .ok (.iconst 0, 1) := by decide +kernel
theorem DX11_till_2 : decode jX11_till.2.1 2 = .ok (.sipush 2000, 3) := by decide +kernel
theorem DX11_till_5 : decode jX11_till.2.1 5 = .ok (.invokestatic 83, 3) := by decide +kernel
theorem DX11_till_8 : decode jX11_till.2.1 8 = .ok (.istore_n 2, 1) := by decide +kernel
theorem DX11_till_9 : decode jX11_till.2.1 9 = .ok (.iload_n 2, 1) := by decide +kernel
theorem DX11_till_10 : decode jX11_till.2.1 10 = .ok (.ifCond .eq 9, 3) := by decide +kernel
theorem DX11_till_13 : decode jX11_till.2.1 13 = .ok (.aload_n 0, 1) := by decide +kernel
theorem DX11_till_14 : decode jX11_till.2.1 14 = .ok (.iload_n 2, 1) := by decide +kernel
theorem DX11_till_15 : decode jX11_till.2.1 15 = .ok (.invokevirtual 72, 3) := by decide +kernel
theorem DX11_till_18 : decode jX11_till.2.1 18 = .ok (.ireturn, 1) := by decide +kernel
theorem DX11_till_19 : decode jX11_till.2.1 19 = .ok (.aload_n 0, 1) := by decide +kernel
theorem DX11_till_20 : decode jX11_till.2.1 20 = .ok (.getfield 37, 3) := by decide +kernel
theorem DX11_till_23 : decode jX11_till.2.1 23 = .ok (.iload_n 1, 1) := by decide +kernel
theorem DX11_till_24 : decode jX11_till.2.1 24 = .ok (.aload_n 0, 1) := by decide +kernel
theorem DX11_till_25 : decode jX11_till.2.1 25 = .ok (.getfield 16, 3) := by decide +kernel
theorem DX11_till_28 : decode jX11_till.2.1 28 = .ok (.getfield 94, 3) := by decide +kernel
theorem DX11_till_31 : decode jX11_till.2.1 31 = .ok (.iconst 0, 1) := by decide +kernel
theorem DX11_till_32 : decode jX11_till.2.1 32 = .ok (.invokevirtual 232, 3) := by decide +kernel
theorem DX11_till_35 : decode jX11_till.2.1 35 = .ok (.ifCond .ne 5, 3) := by decide +kernel
theorem DX11_till_38 : decode jX11_till.2.1 38 = .ok (.iconst 0, 1) := by decide +kernel
theorem DX11_till_39 : decode jX11_till.2.1 39 = .ok (.ireturn, 1) := by decide +kernel
theorem DX11_till_40 : decode jX11_till.2.1 40 = .ok (.iconst 0, 1) := by decide +kernel
theorem DX11_till_41 : decode jX11_till.2.1 41 = .ok (.istore_n 3, 1) := by decide +kernel
theorem DX11_till_42 : decode jX11_till.2.1 42 = .ok (.aload_n 0, 1) := by decide +kernel
theorem DX11_till_43 : decode jX11_till.2.1 43 = .ok (.getfield 16, 3) := by decide +kernel
theorem DX11_till_46 : decode jX11_till.2.1 46 = .ok (.getfield 104, 3) := by decide +kernel
theorem DX11_till_49 : decode jX11_till.2.1 49 = .ok (.istore 4, 2) := by decide +kernel
theorem DX11_till_51 : decode jX11_till.2.1 51 = .ok (.iload 4, 2) := by decide +kernel
theorem DX11_till_53 : decode jX11_till.2.1 53 = .ok (.bipush 52, 2) := by decide +kernel
theorem DX11_till_55 : decode jX11_till.2.1 55 = .ok (.if_icmp .ge 53, 3) := by decide +kernel
theorem DX11_till_58 : decode jX11_till.2.1 58 = .ok (.iload_n 3, 1) := by decide +kernel
theorem DX11_till_59 : decode jX11_till.2.1 59 = .ok (.aload_n 0, 1) := by decide +kernel
theorem DX11_till_60 : decode jX11_till.2.1 60 = .ok (.getfield 16, 3) := by decide +kernel
theorem DX11_till_63 : decode jX11_till.2.1 63 = .ok (.iload 4, 2) := by decide +kernel
theorem DX11_till_65 : decode jX11_till.2.1 65 = .ok (.invokevirtual 110, 3) := by decide +kernel
theorem DX11_till_68 : decode jX11_till.2.1 68 = .ok (.iadd, 1) := by decide +kernel
theorem DX11_till_69 : decode jX11_till.2.1 69 = .ok (.istore_n 3, 1) := by decide +kernel
theorem DX11_till_70 : decode jX11_till.2.1 70 = .ok (.aload_n 0, 1) := by decide +kernel
theorem DX11_till_71 : decode jX11_till.2.1 71 = .ok (.getfield 37, 3) := by decide +kernel
theorem DX11_till_74 : decode jX11_till.2.1 74 = .ok (.iload_n 1, 1) := by decide +kernel
theorem DX11_till_75 : decode jX11_till.2.1 75 = .ok (.aload_n 0, 1) := by decide +kernel
theorem DX11_till_76 : decode jX11_till.2.1 76 = .ok (.getfield 16, 3) := by decide +kernel
theorem DX11_till_79 : decode jX11_till.2.1 79 = .ok (.getfield 94, 3) := by decide +kernel
theorem DX11_till_82 : decode jX11_till.2.1 82 = .ok (.iload_n 3, 1) := by decide +kernel
theorem DX11_till_83 : decode jX11_till.2.1 83 = .ok (.invokevirtual 232, 3) := by decide +kernel
theorem DX11_till_86 : decode jX11_till.2.1 86 = .ok (.ifCond .ne 16, 3) := by decide +kernel
theorem DX11_till_89 : decode jX11_till.2.1 89 = .ok (.iload 4, 2) := by decide +kernel
theorem DX11_till_91 : decode jX11_till.2.1 91 = .ok (.aload_n 0, 1) := by decide +kernel
theorem DX11_till_92 : decode jX11_till.2.1 92 = .ok (.getfield 16, 3) := by decide +kernel
theorem DX11_till_95 : decode jX11_till.2.1 95 = .ok (.getfield 104, 3) := by decide +kernel
theorem DX11_till_98 : decode jX11_till.2.1 98 = .ok (.isub, 1) := by decide +kernel
theorem DX11_till_99 : decode jX11_till.2.1 99 = .ok (.iconst 1, 1) := by decide +kernel
theorem DX11_till_100 : decode jX11_till.2.1 100 = .ok (.iadd, 1) := by decide +kernel
theorem DX11_till_101 : decode jX11_till.2.1 101 = .ok (.ireturn, 1) := by decide +kernel
theorem DX11_till_102 : decode jX11_till.2.1 102 = .ok (.iinc 4 1, 3) := by decide +kernel
theorem DX11_till_105 : decode jX11_till.2.1 105 = .ok (.goto (-54), 3) := by decide +kernel
theorem DX11_till_108 : decode jX11_till.2.1 108 = .ok (.bipush (-9), 2) := by decide +kernel
theorem DX11_till_110 : decode jX11_till.2.1 110 = .ok (.ireturn, 1) := by decide +kernel
theorem DX11_broken_0 : decode jX11_broken.2.1 0 = .ok (.iload_n 2, 1) := by decide +kernel
theorem DX11_broken_1 : decode jX11_broken.2.1 1 = .ok (.ifCond .lt 8, 3) := by decide +kernel
theorem DX11_broken_4 : decode jX11_broken.2.1 4 = .ok (.iload_n 2, 1) := by decide +kernel
theorem DX11_broken_5 : decode jX11_broken.2.1 5 = .ok (.iconst 2, 1) := by decide +kernel
theorem DX11_broken_6 : decode jX11_broken.2.1 6 = .ok (.if_icmp .le 10, 3) := by decide +kernel
theorem DX11_broken_9 : decode jX11_broken.2.1 9 = .ok (.aload_n 0, 1) := by decide +kernel
theorem DX11_broken_10 : decode jX11_broken.2.1 10 = .ok (.bipush (-2), 2) := by decide +kernel
theorem DX11_broken_12 : decode jX11_broken.2.1 12 = .ok (.invokevirtual 72, 3) := by decide +kernel
theorem DX11_broken_15 : decode jX11_broken.2.1 15 = .ok (.ireturn, 1) := by decide +kernel
theorem DX11_broken_16 : decode jX11_broken.2.1 16 = .ok (.aload_n 0, 1) := by decide +kernel
theorem DX11_broken_17 : decode jX11_broken.2.1 17 = .ok (.getfield 44, 3) := by decide +kernel
theorem DX11_broken_20 : decode jX11_broken.2.1 20 = .ok (.iload_n 1, 1) := by decide +kernel
theorem DX11_broken_21 : decode jX11_broken.2.1 21 = .ok (.invokevirtual 236, 3) := by decide +kernel
theorem DX11_broken_24 : decode jX11_broken.2.1 24 = .ok (.astore_n 3, 1) := by decide +kernel
theorem DX11_broken_25 : decode jX11_broken.2.1 25 = .ok (.aload_n 3, 1) := by decide +kernel
theorem DX11_broken_26 : decode jX11_broken.2.1 26 = .ok (.ifnonnull 6, 3) := by decide +kernel
theorem DX11_broken_29 : decode jX11_broken.2.1 29 = .ok (.bipush (-9), 2) := by decide +kernel
theorem DX11_broken_31 : decode jX11_broken.2.1 31 = .ok (.ireturn, 1) := by decide +kernel
theorem DX11_broken_32 : decode jX11_broken.2.1 32 = .ok (.iload_n 2, 1) := by decide +kernel
theorem DX11_broken_33 : decode jX11_broken.2.1 33 = .ok (.ifCond .ne 13, 3) := by decide +kernel
theorem DX11_broken_36 : decode jX11_broken.2.1 36 = .ok (.aload_n 3, 1) := by decide +kernel
theorem DX11_broken_37 : decode jX11_broken.2.1 37 = .ok (.getfield 239, 3) := by decide +kernel
theorem DX11_broken_40 : decode jX11_broken.2.1 40 = .ok (.getfield 223, 3) := by decide +kernel
theorem DX11_broken_43 : decode jX11_broken.2.1 43 = .ok (.goto 19, 3) := by decide +kernel
theorem DX11_broken_46 : decode jX11_broken.2.1 46 = .ok (.iload_n 2, 1) := by decide +kernel
theorem DX11_broken_47 : decode jX11_broken.2.1 47 = .ok (.iconst 1, 1) := by decide +kernel
theorem DX11_broken_48 : decode jX11_broken.2.1 48 = .ok (.if_icmp .ne 10, 3) := by decide +kernel
theorem DX11_broken_51 : decode jX11_broken.2.1 51 = .ok (.aload_n 3, 1) := by decide +kernel
theorem DX11_broken_52 : decode jX11_broken.2.1 52 = .ok (.getfield 245, 3) := by decide +kernel
theorem DX11_broken_55 : decode jX11_broken.2.1 55 = .ok (.goto 7, 3) := by decide +kernel
theorem DX11_broken_58 : decode jX11_broken.2.1 58 = .ok (.aload_n 3, 1) := by decide +kernel
theorem DX11_broken_59 : decode jX11_broken.2.1 59 = .ok (.getfield 246, 3) := by decide +kernel
theorem DX11_broken_62 : decode jX11_broken.2.1 62 = .ok (.ireturn, 1) := by decide +kernel
theorem DX11_blame_0 : decode jX11_blame.2.1 0 = .ok (.aload_n 0, 1) := by decide +kernel
theorem DX11_blame_1 : decode jX11_blame.2.1 1 = .ok (.getfield 44, 3) := by decide +kernel
theorem DX11_blame_4 : decode jX11_blame.2.1 4 = .ok (.iload_n 1, 1) := by decide +kernel
theorem DX11_blame_5 : decode jX11_blame.2.1 5 = .ok (.invokevirtual 236, 3) := by decide +kernel
theorem DX11_blame_8 : decode jX11_blame.2.1 8 = .ok (.astore_n 3, 1) := by decide +kernel
theorem DX11_blame_9 : decode jX11_blame.2.1 9 = .ok (.aload_n 3, 1) := by decide +kernel
theorem DX11_blame_10 : decode jX11_blame.2.1 10 = .ok (.ifnull 14, 3) := by decide +kernel
theorem DX11_blame_13 : decode jX11_blame.2.1 13 = .ok (.aload_n 0, 1) := by decide +kernel
theorem DX11_blame_14 : decode jX11_blame.2.1 14 = .ok (.getfield 23, 3) := by decide +kernel
theorem DX11_blame_17 : decode jX11_blame.2.1 17 = .ok (.iload_n 2, 1) := by decide +kernel
theorem DX11_blame_18 : decode jX11_blame.2.1 18 = .ok (.invokevirtual 139, 3) := by decide +kernel
theorem DX11_blame_21 : decode jX11_blame.2.1 21 = .ok (.ifnonnull 11, 3) := by decide +kernel
theorem DX11_blame_24 : decode jX11_blame.2.1 24 = .ok (.aload_n 0, 1) := by decide +kernel
theorem DX11_blame_25 : decode jX11_blame.2.1 25 = .ok (.iconst (-1), 1) := by decide +kernel
theorem DX11_blame_26 : decode jX11_blame.2.1 26 = .ok (.invokevirtual 72, 3) := by decide +kernel
theorem DX11_blame_29 : decode jX11_blame.2.1 29 = .ok (.goto 11, 3) := by decide +kernel
theorem DX11_blame_32 : decode jX11_blame.2.1 32 = .ok (.aload_n 3, 1) := by decide +kernel
theorem DX11_blame_33 : decode jX11_blame.2.1 33 = .ok (.getfield 239, 3) := by decide +kernel
theorem DX11_blame_36 : decode jX11_blame.2.1 36 = .ok (.iload_n 2, 1) := by decide +kernel
theorem DX11_blame_37 : decode jX11_blame.2.1 37 = .ok (.invokevirtual 247, 3) := by decide +kernel
theorem DX11_blame_40 : decode jX11_blame.2.1 40 = .ok (.ireturn, 1) := by decide +kernel
theorem DX11_step_0 : decode jX11_step.2.1 0 = .ok (.iload_n 1, 1) := by decide +kernel
theorem DX11_step_1 : decode jX11_step.2.1 1 = .ok (.ifCond .lt 8, 3) := by decide +kernel
theorem DX11_step_4 : decode jX11_step.2.1 4 = .ok (.iload_n 1, 1) := by decide +kernel
theorem DX11_step_5 : decode jX11_step.2.1 5 = .ok (.iconst 2, 1) := by decide +kernel
theorem DX11_step_6 : decode jX11_step.2.1 6 = .ok (.if_icmp .le 10, 3) := by decide +kernel
theorem DX11_step_9 : decode jX11_step.2.1 9 = .ok (.aload_n 0, 1) := by decide +kernel
theorem DX11_step_10 : decode jX11_step.2.1 10 = .ok (.bipush (-2), 2) := by decide +kernel
theorem DX11_step_12 : decode jX11_step.2.1 12 = .ok (.invokevirtual 72, 3) := by decide +kernel
theorem DX11_step_15 : decode jX11_step.2.1 15 = .ok (.ireturn, 1) := by decide +kernel
theorem DX11_step_16 : decode jX11_step.2.1 16 = .ok (.iload_n 1, 1) := by decide +kernel
theorem DX11_step_17 : decode jX11_step.2.1 17 = .ok (.iconst 2, 1) := by decide +kernel
theorem DX11_step_18 : decode jX11_step.2.1 18 = .ok (.if_icmp .ne 12, 3) := by decide +kernel
theorem DX11_step_21 : decode jX11_step.2.1 21 = .ok (.iload_n 2, 1) := by decide +kernel
theorem DX11_step_22 : decode jX11_step.2.1 22 = .ok (.bipush 100, 2) := by decide +kernel
theorem DX11_step_24 : decode jX11_step.2.1 24 = .ok (.invokestatic 250, 3) := by decide +kernel
theorem DX11_step_27 : decode jX11_step.2.1 27 = .ok (.goto 4, 3) := by decide +kernel
theorem DX11_step_30 : decode jX11_step.2.1 30 = .ok (.iload_n 2, 1) := by decide +kernel
theorem DX11_step_31 : decode jX11_step.2.1 31 = .ok (.istore 6, 2) := by decide +kernel
theorem DX11_step_33 : decode jX11_step.2.1 33 = .ok (.iload 6, 2) := by decide +kernel
theorem DX11_step_35 : decode jX11_step.2.1 35 = .ok (.invokestatic 217, 3) := by decide +kernel
theorem DX11_step_38 : decode jX11_step.2.1 38 = .ok (.ifCond .eq 15, 3) := by decide +kernel
theorem DX11_step_41 : decode jX11_step.2.1 41 = .ok (.aload_n 0, 1) := by decide +kernel
theorem DX11_step_42 : decode jX11_step.2.1 42 = .ok (.getfield 51, 3) := by decide +kernel
theorem DX11_step_45 : decode jX11_step.2.1 45 = .ok (.iload 5, 2) := by decide +kernel
theorem DX11_step_47 : decode jX11_step.2.1 47 = .ok (.invokevirtual 255, 3) := by decide +kernel
theorem DX11_step_50 : decode jX11_step.2.1 50 = .ok (.ifCond .ne 9, 3) := by decide +kernel
theorem DX11_step_53 : decode jX11_step.2.1 53 = .ok (.aload_n 0, 1) := by decide +kernel
theorem DX11_step_54 : decode jX11_step.2.1 54 = .ok (.iconst (-1), 1) := by decide +kernel
theorem DX11_step_55 : decode jX11_step.2.1 55 = .ok (.invokevirtual 72, 3) := by decide +kernel
theorem DX11_step_58 : decode jX11_step.2.1 58 = .ok (.ireturn, 1) := by decide +kernel
theorem DX11_step_59 : decode jX11_step.2.1 59 = .ok (.iload_n 3, 1) := by decide +kernel
theorem DX11_step_60 : decode jX11_step.2.1 60 = .ok (.iconst 1, 1) := by decide +kernel
theorem DX11_step_61 : decode jX11_step.2.1 61 = .ok (.bipush 9, 2) := by decide +kernel
theorem DX11_step_63 : decode jX11_step.2.1 63 = .ok (.invokestatic 83, 3) := by decide +kernel
theorem DX11_step_66 : decode jX11_step.2.1 66 = .ok (.iload 4, 2) := by decide +kernel
theorem DX11_step_68 : decode jX11_step.2.1 68 = .ok (.iconst 1, 1) := by decide +kernel
theorem DX11_step_69 : decode jX11_step.2.1 69 = .ok (.bipush 60, 2) := by decide +kernel
theorem DX11_step_71 : decode jX11_step.2.1 71 = .ok (.invokestatic 83, 3) := by decide +kernel
theorem DX11_step_74 : decode jX11_step.2.1 74 = .ok (.invokestatic 153, 3) := by decide +kernel
theorem DX11_step_77 : decode jX11_step.2.1 77 = .ok (.istore 7, 2) := by decide +kernel
theorem DX11_step_79 : decode jX11_step.2.1 79 = .ok (.iload 7, 2) := by decide +kernel
theorem DX11_step_81 : decode jX11_step.2.1 81 = .ok (.ifCond .ne 19, 3) := by decide +kernel
theorem DX11_step_84 : decode jX11_step.2.1 84 = .ok (.aload_n 0, 1) := by decide +kernel
theorem DX11_step_85 : decode jX11_step.2.1 85 = .ok (.getfield 51, 3) := by decide +kernel
theorem DX11_step_88 : decode jX11_step.2.1 88 = .ok (.getfield 258, 3) := by decide +kernel
theorem DX11_step_91 : decode jX11_step.2.1 91 = .ok (.bipush 12, 2) := by decide +kernel
theorem DX11_step_93 : decode jX11_step.2.1 93 = .ok (.if_icmp .lt 7, 3) := by decide +kernel
theorem DX11_step_96 : decode jX11_step.2.1 96 = .ok (.bipush (-6), 2) := by decide +kernel
theorem DX11_step_98 : decode jX11_step.2.1 98 = .ok (.istore 7, 2) := by decide +kernel
theorem DX11_step_100 : decode jX11_step.2.1 100 = .ok (.iload 7, 2) := by decide +kernel
theorem DX11_step_102 : decode jX11_step.2.1 102 = .ok (.ifCond .eq 12, 3) := by decide +kernel
theorem DX11_step_105 : decode jX11_step.2.1 105 = .ok (.aload_n 0, 1) := by decide +kernel
theorem DX11_step_106 : decode jX11_step.2.1 106 = .ok (.iload 7, 2) := by decide +kernel
theorem DX11_step_108 : decode jX11_step.2.1 108 = .ok (.invokevirtual 72, 3) := by decide +kernel
theorem DX11_step_111 : decode jX11_step.2.1 111 = .ok (.goto 18, 3) := by decide +kernel
theorem DX11_step_114 : decode jX11_step.2.1 114 = .ok (.aload_n 0, 1) := by decide +kernel
theorem DX11_step_115 : decode jX11_step.2.1 115 = .ok (.getfield 51, 3) := by decide +kernel
theorem DX11_step_118 : decode jX11_step.2.1 118 = .ok (.iload_n 1, 1) := by decide +kernel
theorem DX11_step_119 : decode jX11_step.2.1 119 = .ok (.iload 6, 2) := by decide +kernel
theorem DX11_step_121 : decode jX11_step.2.1 121 = .ok (.iload_n 3, 1) := by decide +kernel
theorem DX11_step_122 : decode jX11_step.2.1 122 = .ok (.iload 4, 2) := by decide +kernel
theorem DX11_step_124 : decode jX11_step.2.1 124 = .ok (.iload 5, 2) := by decide +kernel
theorem DX11_step_126 : decode jX11_step.2.1 126 = .ok (.invokevirtual 259, 3) := by decide +kernel
theorem DX11_step_129 : decode jX11_step.2.1 129 = .ok (.ireturn, 1) := by decide +kernel
theorem DX11_clear_0 : decode jX11_clear.2.1 0 = .ok (.aload_n 0, 1) := by decide +kernel
theorem DX11_clear_1 : decode jX11_clear.2.1 1 = .ok (.getfield 51, 3) := by decide +kernel
theorem DX11_clear_4 : decode jX11_clear.2.1 4 = .ok (.invokevirtual 262, 3) := by decide +kernel
theorem DX11_clear_7 : decode jX11_clear.2.1 7 = .ok (.ireturn, 1) := by decide +kernel
theorem DX11_plan_0 : decode jX11_plan.2.1 0 = .ok (.aload_n 0, 1) := by decide +kernel
theorem DX11_plan_1 : decode jX11_plan.2.1 1 = .ok (.getfield 51, 3) := by decide +kernel
theorem DX11_plan_4 : decode jX11_plan.2.1 4 = .ok (.getfield 258, 3) := by decide +kernel
theorem DX11_plan_7 : decode jX11_plan.2.1 7 = .ok (.bipush 8, 2) := by decide +kernel
theorem DX11_plan_9 : decode jX11_plan.2.1 9 = .ok (.if_icmp .le 10, 3) := by decide +kernel
theorem DX11_plan_12 : decode jX11_plan.2.1 12 = .ok (.aload_n 0, 1) := by decide +kernel
theorem DX11_plan_13 : decode jX11_plan.2.1 13 = .ok (.bipush (-6), 2) := by decide +kernel
theorem DX11_plan_15 : decode jX11_plan.2.1 15 = .ok (.invokevirtual 72, 3) := by decide +kernel
theorem DX11_plan_18 : decode jX11_plan.2.1 18 = .ok (.ireturn, 1) := by decide +kernel
theorem DX11_plan_19 : decode jX11_plan.2.1 19 = .ok (.aload_n 0, 1) := by decide +kernel
theorem DX11_plan_20 : decode jX11_plan.2.1 20 = .ok (.getfield 60, 3) := by decide +kernel
theorem DX11_plan_23 : decode jX11_plan.2.1 23 = .ok (.aload_n 0, 1) := by decide +kernel
theorem DX11_plan_24 : decode jX11_plan.2.1 24 = .ok (.getfield 37, 3) := by decide +kernel
theorem DX11_plan_27 : decode jX11_plan.2.1 27 = .ok (.invokevirtual 265, 3) := by decide +kernel
theorem DX11_plan_30 : decode jX11_plan.2.1 30 = .ok (.aload_n 0, 1) := by decide +kernel
theorem DX11_plan_31 : decode jX11_plan.2.1 31 = .ok (.getfield 23, 3) := by decide +kernel
theorem DX11_plan_34 : decode jX11_plan.2.1 34 = .ok (.invokevirtual 268, 3) := by decide +kernel
theorem DX11_plan_37 : decode jX11_plan.2.1 37 = .ok (.invokevirtual 271, 3) := by decide +kernel
theorem DX11_plan_40 : decode jX11_plan.2.1 40 = .ok (.aload_n 0, 1) := by decide +kernel
theorem DX11_plan_41 : decode jX11_plan.2.1 41 = .ok (.getfield 60, 3) := by decide +kernel
theorem DX11_plan_44 : decode jX11_plan.2.1 44 = .ok (.invokevirtual 275, 3) := by decide +kernel
theorem DX11_plan_47 : decode jX11_plan.2.1 47 = .ok (.ireturn, 1) := by decide +kernel
theorem DX11_planAt_0 : decode jX11_planAt.2.1 0 = .ok (.aload_n 0, 1) := by decide +kernel
theorem DX11_planAt_1 : decode jX11_planAt.2.1 1 = .ok (.getfield 51, 3) := by decide +kernel
theorem DX11_planAt_4 : decode jX11_planAt.2.1 4 = .ok (.getfield 258, 3) := by decide +kernel
theorem DX11_planAt_7 : decode jX11_planAt.2.1 7 = .ok (.bipush 8, 2) := by decide +kernel
theorem DX11_planAt_9 : decode jX11_planAt.2.1 9 = .ok (.if_icmp .le 10, 3) := by decide +kernel
theorem DX11_planAt_12 : decode jX11_planAt.2.1 12 = .ok (.aload_n 0, 1) := by decide +kernel
theorem DX11_planAt_13 : decode jX11_planAt.2.1 13 = .ok (.bipush (-6), 2) := by decide +kernel
theorem DX11_planAt_15 : decode jX11_planAt.2.1 15 = .ok (.invokevirtual 72, 3) := by decide +kernel
theorem DX11_planAt_18 : decode jX11_planAt.2.1 18 = .ok (.ireturn, 1) := by decide +kernel
theorem DX11_planAt_19 : decode jX11_planAt.2.1 19 = .ok (.aload_n 0, 1) := by decide +kernel
theorem DX11_planAt_20 : decode jX11_planAt.2.1 20 = .ok (.getfield 60, 3) := by decide +kernel
theorem DX11_planAt_23 : decode jX11_planAt.2.1 23 = .ok (.aload_n 0, 1) := by decide +kernel
theorem DX11_planAt_24 : decode jX11_planAt.2.1 24 = .ok (.getfield 37, 3) := by decide +kernel
theorem DX11_planAt_27 : decode jX11_planAt.2.1 27 = .ok (.invokevirtual 265, 3) := by decide +kernel
theorem DX11_planAt_30 : decode jX11_planAt.2.1 30 = .ok (.aload_n 0, 1) := by decide +kernel
theorem DX11_planAt_31 : decode jX11_planAt.2.1 31 = .ok (.getfield 23, 3) := by decide +kernel
theorem DX11_planAt_34 : decode jX11_planAt.2.1 34 = .ok (.invokevirtual 268, 3) := by decide +kernel
theorem DX11_planAt_37 : decode jX11_planAt.2.1 37 = .ok (.invokevirtual 271, 3) := by decide +kernel
theorem DX11_planAt_40 : decode jX11_planAt.2.1 40 = .ok (.aload_n 0, 1) := by decide +kernel
theorem DX11_planAt_41 : decode jX11_planAt.2.1 41 = .ok (.getfield 60, 3) := by decide +kernel
theorem DX11_planAt_44 : decode jX11_planAt.2.1 44 = .ok (.iload_n 1, 1) := by decide +kernel
theorem DX11_planAt_45 : decode jX11_planAt.2.1 45 = .ok (.invokevirtual 278, 3) := by decide +kernel
theorem DX11_planAt_48 : decode jX11_planAt.2.1 48 = .ok (.ireturn, 1) := by decide +kernel
theorem DX11_person_0 : decode jX11_person.2.1 0 = .ok (.iload_n 1, 1) := by decide +kernel
theorem DX11_person_1 : decode jX11_person.2.1 1 = .ok (.iconst (-1), 1) := by decide +kernel
theorem DX11_person_2 : decode jX11_person.2.1 2 = .ok (.if_icmp .eq 20, 3) := by decide +kernel
theorem DX11_person_5 : decode jX11_person.2.1 5 = .ok (.aload_n 0, 1) := by decide +kernel
theorem DX11_person_6 : decode jX11_person.2.1 6 = .ok (.getfield 67, 3) := by decide +kernel
theorem DX11_person_9 : decode jX11_person.2.1 9 = .ok (.iload_n 1, 1) := by decide +kernel
theorem DX11_person_10 : decode jX11_person.2.1 10 = .ok (.invokevirtual 281, 3) := by decide +kernel
theorem DX11_person_13 : decode jX11_person.2.1 13 = .ok (.ifCond .ne 9, 3) := by decide +kernel
theorem DX11_person_16 : decode jX11_person.2.1 16 = .ok (.aload_n 0, 1) := by decide +kernel
theorem DX11_person_17 : decode jX11_person.2.1 17 = .ok (.iconst (-1), 1) := by decide +kernel
theorem DX11_person_18 : decode jX11_person.2.1 18 = .ok (.invokevirtual 72, 3) := by decide +kernel
theorem DX11_person_21 : decode jX11_person.2.1 21 = .ok (.ireturn, 1) := by decide +kernel
theorem DX11_person_22 : decode jX11_person.2.1 22 = .ok (.iload_n 2, 1) := by decide +kernel
theorem DX11_person_23 : decode jX11_person.2.1 23 = .ok (.bipush (-60), 2) := by decide +kernel
theorem DX11_person_25 : decode jX11_person.2.1 25 = .ok (.bipush 60, 2) := by decide +kernel
theorem DX11_person_27 : decode jX11_person.2.1 27 = .ok (.invokestatic 83, 3) := by decide +kernel
theorem DX11_person_30 : decode jX11_person.2.1 30 = .ok (.istore_n 3, 1) := by decide +kernel
theorem DX11_person_31 : decode jX11_person.2.1 31 = .ok (.iload_n 3, 1) := by decide +kernel
theorem DX11_person_32 : decode jX11_person.2.1 32 = .ok (.ifCond .ne 18, 3) := by decide +kernel
theorem DX11_person_35 : decode jX11_person.2.1 35 = .ok (.aload_n 0, 1) := by decide +kernel
theorem DX11_person_36 : decode jX11_person.2.1 36 = .ok (.getfield 67, 3) := by decide +kernel
theorem DX11_person_39 : decode jX11_person.2.1 39 = .ok (.getfield 284, 3) := by decide +kernel
theorem DX11_person_42 : decode jX11_person.2.1 42 = .ok (.bipush 30, 2) := by decide +kernel
theorem DX11_person_44 : decode jX11_person.2.1 44 = .ok (.if_icmp .lt 6, 3) := by decide +kernel
theorem DX11_person_47 : decode jX11_person.2.1 47 = .ok (.bipush (-6), 2) := by decide +kernel
theorem DX11_person_49 : decode jX11_person.2.1 49 = .ok (.istore_n 3, 1) := by decide +kernel
theorem DX11_person_50 : decode jX11_person.2.1 50 = .ok (.iload_n 3, 1) := by decide +kernel
theorem DX11_person_51 : decode jX11_person.2.1 51 = .ok (.ifCond .ne 23, 3) := by decide +kernel
theorem DX11_person_54 : decode jX11_person.2.1 54 = .ok (.iload_n 1, 1) := by decide +kernel
theorem DX11_person_55 : decode jX11_person.2.1 55 = .ok (.iconst (-1), 1) := by decide +kernel
theorem DX11_person_56 : decode jX11_person.2.1 56 = .ok (.if_icmp .eq 18, 3) := by decide +kernel
theorem DX11_person_59 : decode jX11_person.2.1 59 = .ok (.iload_n 2, 1) := by decide +kernel
theorem DX11_person_60 : decode jX11_person.2.1 60 = .ok (.aload_n 0, 1) := by decide +kernel
theorem DX11_person_61 : decode jX11_person.2.1 61 = .ok (.getfield 67, 3) := by decide +kernel
theorem DX11_person_64 : decode jX11_person.2.1 64 = .ok (.iload_n 1, 1) := by decide +kernel
theorem DX11_person_65 : decode jX11_person.2.1 65 = .ok (.invokevirtual 285, 3) := by decide +kernel
theorem DX11_person_68 : decode jX11_person.2.1 68 = .ok (.if_icmp .ge 6, 3) := by decide +kernel
theorem DX11_person_71 : decode jX11_person.2.1 71 = .ok (.bipush (-3), 2) := by decide +kernel
theorem DX11_person_73 : decode jX11_person.2.1 73 = .ok (.istore_n 3, 1) := by decide +kernel
theorem DX11_person_74 : decode jX11_person.2.1 74 = .ok (.iload_n 3, 1) := by decide +kernel
theorem DX11_person_75 : decode jX11_person.2.1 75 = .ok (.ifCond .eq 11, 3) := by decide +kernel
theorem DX11_person_78 : decode jX11_person.2.1 78 = .ok (.aload_n 0, 1) := by decide +kernel
theorem DX11_person_79 : decode jX11_person.2.1 79 = .ok (.iload_n 3, 1) := by decide +kernel
theorem DX11_person_80 : decode jX11_person.2.1 80 = .ok (.invokevirtual 72, 3) := by decide +kernel
theorem DX11_person_83 : decode jX11_person.2.1 83 = .ok (.goto 12, 3) := by decide +kernel
theorem DX11_person_86 : decode jX11_person.2.1 86 = .ok (.aload_n 0, 1) := by decide +kernel
theorem DX11_person_87 : decode jX11_person.2.1 87 = .ok (.getfield 67, 3) := by decide +kernel
theorem DX11_person_90 : decode jX11_person.2.1 90 = .ok (.iload_n 1, 1) := by decide +kernel
theorem DX11_person_91 : decode jX11_person.2.1 91 = .ok (.iload_n 2, 1) := by decide +kernel
theorem DX11_person_92 : decode jX11_person.2.1 92 = .ok (.invokevirtual 288, 3) := by decide +kernel
theorem DX11_person_95 : decode jX11_person.2.1 95 = .ok (.ireturn, 1) := by decide +kernel
theorem DX11_alive_0 : decode jX11_alive.2.1 0 = .ok (.aload_n 0, 1) := by decide +kernel
theorem DX11_alive_1 : decode jX11_alive.2.1 1 = .ok (.getfield 67, 3) := by decide +kernel
theorem DX11_alive_4 : decode jX11_alive.2.1 4 = .ok (.iload_n 1, 1) := by decide +kernel
theorem DX11_alive_5 : decode jX11_alive.2.1 5 = .ok (.invokevirtual 281, 3) := by decide +kernel
theorem DX11_alive_8 : decode jX11_alive.2.1 8 = .ok (.ifCond .ne 9, 3) := by decide +kernel
theorem DX11_alive_11 : decode jX11_alive.2.1 11 = .ok (.aload_n 0, 1) := by decide +kernel
theorem DX11_alive_12 : decode jX11_alive.2.1 12 = .ok (.iconst (-1), 1) := by decide +kernel
theorem DX11_alive_13 : decode jX11_alive.2.1 13 = .ok (.invokevirtual 72, 3) := by decide +kernel
theorem DX11_alive_16 : decode jX11_alive.2.1 16 = .ok (.ireturn, 1) := by decide +kernel
theorem DX11_alive_17 : decode jX11_alive.2.1 17 = .ok (.aload_n 0, 1) := by decide +kernel
theorem DX11_alive_18 : decode jX11_alive.2.1 18 = .ok (.getfield 67, 3) := by decide +kernel
theorem DX11_alive_21 : decode jX11_alive.2.1 21 = .ok (.iload_n 1, 1) := by decide +kernel
theorem DX11_alive_22 : decode jX11_alive.2.1 22 = .ok (.iload_n 2, 1) := by decide +kernel
theorem DX11_alive_23 : decode jX11_alive.2.1 23 = .ok (.invokevirtual 291, 3) := by decide +kernel
theorem DX11_alive_26 : decode jX11_alive.2.1 26 = .ok (.ifCond .eq 7, 3) := by decide +kernel
theorem DX11_alive_29 : decode jX11_alive.2.1 29 = .ok (.iconst 1, 1) := by decide +kernel
theorem DX11_alive_30 : decode jX11_alive.2.1 30 = .ok (.goto 4, 3) := by decide +kernel
theorem DX11_alive_33 : decode jX11_alive.2.1 33 = .ok (.iconst 0, 1) := by decide +kernel
theorem DX11_alive_34 : decode jX11_alive.2.1 34 = .ok (.ireturn, 1) := by decide +kernel
theorem DX11_master_0 : decode jX11_master.2.1 0 = .ok (.aload_n 0, 1) := by decide +kernel
theorem DX11_master_1 : decode jX11_master.2.1 1 = .ok (.getfield 67, 3) := by decide +kernel
theorem DX11_master_4 : decode jX11_master.2.1 4 = .ok (.aload_n 0, 1) := by decide +kernel
theorem DX11_master_5 : decode jX11_master.2.1 5 = .ok (.getfield 16, 3) := by decide +kernel
theorem DX11_master_8 : decode jX11_master.2.1 8 = .ok (.getfield 94, 3) := by decide +kernel
theorem DX11_master_11 : decode jX11_master.2.1 11 = .ok (.invokevirtual 294, 3) := by decide +kernel
theorem DX11_master_14 : decode jX11_master.2.1 14 = .ok (.ireturn, 1) := by decide +kernel
theorem DX11_count_0 : decode jX11_count.2.1 0 = .ok (.iload_n 1, 1) := by decide +kernel
theorem DX11_count_1 : decode jX11_count.2.1 1 = .ok (.tableswitch 111 0 7 #[47, 55, 63, 71, 79, 87, 95, 103], 47) := by decide +kernel
theorem DX11_count_48 : decode jX11_count.2.1 48 = .ok (.aload_n 0, 1) := by decide +kernel
theorem DX11_count_49 : decode jX11_count.2.1 49 = .ok (.getfield 16, 3) := by decide +kernel
theorem DX11_count_52 : decode jX11_count.2.1 52 = .ok (.getfield 94, 3) := by decide +kernel
theorem DX11_count_55 : decode jX11_count.2.1 55 = .ok (.ireturn, 1) := by decide +kernel
theorem DX11_count_56 : decode jX11_count.2.1 56 = .ok (.aload_n 0, 1) := by decide +kernel
theorem DX11_count_57 : decode jX11_count.2.1 57 = .ok (.getfield 16, 3) := by decide +kernel
theorem DX11_count_60 : decode jX11_count.2.1 60 = .ok (.getfield 104, 3) := by decide +kernel
theorem DX11_count_63 : decode jX11_count.2.1 63 = .ok (.ireturn, 1) := by decide +kernel
theorem DX11_count_64 : decode jX11_count.2.1 64 = .ok (.aload_n 0, 1) := by decide +kernel
theorem DX11_count_65 : decode jX11_count.2.1 65 = .ok (.getfield 23, 3) := by decide +kernel
theorem DX11_count_68 : decode jX11_count.2.1 68 = .ok (.getfield 133, 3) := by decide +kernel
theorem DX11_count_71 : decode jX11_count.2.1 71 = .ok (.ireturn, 1) := by decide +kernel
theorem DX11_count_72 : decode jX11_count.2.1 72 = .ok (.aload_n 0, 1) := by decide +kernel
theorem DX11_count_73 : decode jX11_count.2.1 73 = .ok (.getfield 30, 3) := by decide +kernel
theorem DX11_count_76 : decode jX11_count.2.1 76 = .ok (.getfield 297, 3) := by decide +kernel
theorem DX11_count_79 : decode jX11_count.2.1 79 = .ok (.ireturn, 1) := by decide +kernel
theorem DX11_count_80 : decode jX11_count.2.1 80 = .ok (.aload_n 0, 1) := by decide +kernel
theorem DX11_count_81 : decode jX11_count.2.1 81 = .ok (.getfield 23, 3) := by decide +kernel
theorem DX11_count_84 : decode jX11_count.2.1 84 = .ok (.invokevirtual 268, 3) := by decide +kernel
theorem DX11_count_87 : decode jX11_count.2.1 87 = .ok (.ireturn, 1) := by decide +kernel
theorem DX11_count_88 : decode jX11_count.2.1 88 = .ok (.aload_n 0, 1) := by decide +kernel
theorem DX11_count_89 : decode jX11_count.2.1 89 = .ok (.getfield 44, 3) := by decide +kernel
theorem DX11_count_92 : decode jX11_count.2.1 92 = .ok (.getfield 298, 3) := by decide +kernel
theorem DX11_count_95 : decode jX11_count.2.1 95 = .ok (.ireturn, 1) := by decide +kernel
theorem DX11_count_96 : decode jX11_count.2.1 96 = .ok (.aload_n 0, 1) := by decide +kernel
theorem DX11_count_97 : decode jX11_count.2.1 97 = .ok (.getfield 51, 3) := by decide +kernel
theorem DX11_count_100 : decode jX11_count.2.1 100 = .ok (.getfield 258, 3) := by decide +kernel
theorem DX11_count_103 : decode jX11_count.2.1 103 = .ok (.ireturn, 1) := by decide +kernel
theorem DX11_count_104 : decode jX11_count.2.1 104 = .ok (.aload_n 0, 1) := by decide +kernel
theorem DX11_count_105 : decode jX11_count.2.1 105 = .ok (.getfield 67, 3) := by decide +kernel
theorem DX11_count_108 : decode jX11_count.2.1 108 = .ok (.getfield 284, 3) := by decide +kernel
theorem DX11_count_111 : decode jX11_count.2.1 111 = .ok (.ireturn, 1) := by decide +kernel
theorem DX11_count_112 : decode jX11_count.2.1 112 = .ok (.iload_n 1, 1) := by decide +kernel
theorem DX11_count_113 : decode jX11_count.2.1 113 = .ok (.bipush 11, 2) := by decide +kernel
theorem DX11_count_115 : decode jX11_count.2.1 115 = .ok (.if_icmp .lt 21, 3) := by decide +kernel
theorem DX11_count_118 : decode jX11_count.2.1 118 = .ok (.iload_n 1, 1) := by decide +kernel
theorem DX11_count_119 : decode jX11_count.2.1 119 = .ok (.bipush 16, 2) := by decide +kernel
theorem DX11_count_121 : decode jX11_count.2.1 121 = .ok (.if_icmp .gt 15, 3) := by decide +kernel
theorem DX11_count_124 : decode jX11_count.2.1 124 = .ok (.aload_n 0, 1) := by decide +kernel
theorem DX11_count_125 : decode jX11_count.2.1 125 = .ok (.getfield 7, 3) := by decide +kernel
theorem DX11_count_128 : decode jX11_count.2.1 128 = .ok (.iload_n 1, 1) := by decide +kernel
theorem DX11_count_129 : decode jX11_count.2.1 129 = .ok (.bipush 10, 2) := by decide +kernel
theorem DX11_count_131 : decode jX11_count.2.1 131 = .ok (.isub, 1) := by decide +kernel
theorem DX11_count_132 : decode jX11_count.2.1 132 = .ok (.iaload, 1) := by decide +kernel
theorem DX11_count_133 : decode jX11_count.2.1 133 = .ok (.goto 5, 3) := by decide +kernel
theorem DX11_count_136 : decode jX11_count.2.1 136 = .ok (.bipush (-9), 2) := by decide +kernel
theorem DX11_count_138 : decode jX11_count.2.1 138 = .ok (.ireturn, 1) := by decide +kernel
theorem DJ6_bitCount_0f7a4_0 : decode jJ6_bitCount_0f7a4.2.1 0 = .ok (.iload_n 0, 1) := by decide +kernel
theorem DJ6_bitCount_0f7a4_1 : decode jJ6_bitCount_0f7a4.2.1 1 = .ok (.iload_n 0, 1) := by decide +kernel
theorem DJ6_bitCount_0f7a4_2 : decode jJ6_bitCount_0f7a4.2.1 2 = .ok (.iconst 1, 1) := by decide +kernel
theorem DJ6_bitCount_0f7a4_3 : decode jJ6_bitCount_0f7a4.2.1 3 = .ok (.iushr, 1) := by decide +kernel
theorem DJ6_bitCount_0f7a4_4 : decode jJ6_bitCount_0f7a4.2.1 4 = .ok (.ldc_w 265, 3) := by decide +kernel
theorem DJ6_bitCount_0f7a4_7 : decode jJ6_bitCount_0f7a4.2.1 7 = .ok (.iand, 1) := by decide +kernel
theorem DJ6_bitCount_0f7a4_8 : decode jJ6_bitCount_0f7a4.2.1 8 = .ok (.isub, 1) := by decide +kernel
theorem DJ6_bitCount_0f7a4_9 : decode jJ6_bitCount_0f7a4.2.1 9 = .ok (.istore_n 0, 1) := by decide +kernel
theorem DJ6_bitCount_0f7a4_10 : decode jJ6_bitCount_0f7a4.2.1 10 = .ok (.iload_n 0, 1) := by decide +kernel
theorem DJ6_bitCount_0f7a4_11 : decode jJ6_bitCount_0f7a4.2.1 11 = .ok (.ldc_w 266, 3) := by decide +kernel
theorem DJ6_bitCount_0f7a4_14 : decode jJ6_bitCount_0f7a4.2.1 14 = .ok (.iand, 1) := by decide +kernel
theorem DJ6_bitCount_0f7a4_15 : decode jJ6_bitCount_0f7a4.2.1 15 = .ok (.iload_n 0, 1) := by decide +kernel
theorem DJ6_bitCount_0f7a4_16 : decode jJ6_bitCount_0f7a4.2.1 16 = .ok (.iconst 2, 1) := by decide +kernel
theorem DJ6_bitCount_0f7a4_17 : decode jJ6_bitCount_0f7a4.2.1 17 = .ok (.iushr, 1) := by decide +kernel
theorem DJ6_bitCount_0f7a4_18 : decode jJ6_bitCount_0f7a4.2.1 18 = .ok (.ldc_w 266, 3) := by decide +kernel
theorem DJ6_bitCount_0f7a4_21 : decode jJ6_bitCount_0f7a4.2.1 21 = .ok (.iand, 1) := by decide +kernel
theorem DJ6_bitCount_0f7a4_22 : decode jJ6_bitCount_0f7a4.2.1 22 = .ok (.iadd, 1) := by decide +kernel
theorem DJ6_bitCount_0f7a4_23 : decode jJ6_bitCount_0f7a4.2.1 23 = .ok (.istore_n 0, 1) := by decide +kernel
theorem DJ6_bitCount_0f7a4_24 : decode jJ6_bitCount_0f7a4.2.1 24 = .ok (.iload_n 0, 1) := by decide +kernel
theorem DJ6_bitCount_0f7a4_25 : decode jJ6_bitCount_0f7a4.2.1 25 = .ok (.iload_n 0, 1) := by decide +kernel
theorem DJ6_bitCount_0f7a4_26 : decode jJ6_bitCount_0f7a4.2.1 26 = .ok (.iconst 4, 1) := by decide +kernel
theorem DJ6_bitCount_0f7a4_27 : decode jJ6_bitCount_0f7a4.2.1 27 = .ok (.iushr, 1) := by decide +kernel
theorem DJ6_bitCount_0f7a4_28 : decode jJ6_bitCount_0f7a4.2.1 28 = .ok (.iadd, 1) := by decide +kernel
theorem DJ6_bitCount_0f7a4_29 : decode jJ6_bitCount_0f7a4.2.1 29 = .ok (.ldc_w 267, 3) := by decide +kernel
theorem DJ6_bitCount_0f7a4_32 : decode jJ6_bitCount_0f7a4.2.1 32 = .ok (.iand, 1) := by decide +kernel
theorem DJ6_bitCount_0f7a4_33 : decode jJ6_bitCount_0f7a4.2.1 33 = .ok (.istore_n 0, 1) := by decide +kernel
theorem DJ6_bitCount_0f7a4_34 : decode jJ6_bitCount_0f7a4.2.1 34 = .ok (.iload_n 0, 1) := by decide +kernel
theorem DJ6_bitCount_0f7a4_35 : decode jJ6_bitCount_0f7a4.2.1 35 = .ok (.iload_n 0, 1) := by decide +kernel
theorem DJ6_bitCount_0f7a4_36 : decode jJ6_bitCount_0f7a4.2.1 36 = .ok (.bipush 8, 2) := by decide +kernel
theorem DJ6_bitCount_0f7a4_38 : decode jJ6_bitCount_0f7a4.2.1 38 = .ok (.iushr, 1) := by decide +kernel
theorem DJ6_bitCount_0f7a4_39 : decode jJ6_bitCount_0f7a4.2.1 39 = .ok (.iadd, 1) := by decide +kernel
theorem DJ6_bitCount_0f7a4_40 : decode jJ6_bitCount_0f7a4.2.1 40 = .ok (.istore_n 0, 1) := by decide +kernel
theorem DJ6_bitCount_0f7a4_41 : decode jJ6_bitCount_0f7a4.2.1 41 = .ok (.iload_n 0, 1) := by decide +kernel
theorem DJ6_bitCount_0f7a4_42 : decode jJ6_bitCount_0f7a4.2.1 42 = .ok (.iload_n 0, 1) := by decide +kernel
theorem DJ6_bitCount_0f7a4_43 : decode jJ6_bitCount_0f7a4.2.1 43 = .ok (.bipush 16, 2) := by decide +kernel
theorem DJ6_bitCount_0f7a4_45 : decode jJ6_bitCount_0f7a4.2.1 45 = .ok (.iushr, 1) := by decide +kernel
theorem DJ6_bitCount_0f7a4_46 : decode jJ6_bitCount_0f7a4.2.1 46 = .ok (.iadd, 1) := by decide +kernel
theorem DJ6_bitCount_0f7a4_47 : decode jJ6_bitCount_0f7a4.2.1 47 = .ok (.istore_n 0, 1) := by decide +kernel
theorem DJ6_bitCount_0f7a4_48 : decode jJ6_bitCount_0f7a4.2.1 48 = .ok (.iload_n 0, 1) := by decide +kernel
theorem DJ6_bitCount_0f7a4_49 : decode jJ6_bitCount_0f7a4.2.1 49 = .ok (.bipush 63, 2) := by decide +kernel
theorem DJ6_bitCount_0f7a4_51 : decode jJ6_bitCount_0f7a4.2.1 51 = .ok (.iand, 1) := by decide +kernel
theorem DJ6_bitCount_0f7a4_52 : decode jJ6_bitCount_0f7a4.2.1 52 = .ok (.ireturn, 1) := by decide +kernel
theorem DJ9_floorDiv_7cf53_0 : decode jJ9_floorDiv_7cf53.2.1 0 = .ok (.iload_n 0, 1) := by decide +kernel
theorem DJ9_floorDiv_7cf53_1 : decode jJ9_floorDiv_7cf53.2.1 1 = .ok (.iload_n 1, 1) := by decide +kernel
theorem DJ9_floorDiv_7cf53_2 : decode jJ9_floorDiv_7cf53.2.1 2 = .ok (.idiv, 1) := by decide +kernel
theorem DJ9_floorDiv_7cf53_3 : decode jJ9_floorDiv_7cf53.2.1 3 = .ok (.istore_n 2, 1) := by decide +kernel
theorem DJ9_floorDiv_7cf53_4 : decode jJ9_floorDiv_7cf53.2.1 4 = .ok (.iload_n 0, 1) := by decide +kernel
theorem DJ9_floorDiv_7cf53_5 : decode jJ9_floorDiv_7cf53.2.1 5 = .ok (.iload_n 1, 1) := by decide +kernel
theorem DJ9_floorDiv_7cf53_6 : decode jJ9_floorDiv_7cf53.2.1 6 = .ok (.ixor, 1) := by decide +kernel
theorem DJ9_floorDiv_7cf53_7 : decode jJ9_floorDiv_7cf53.2.1 7 = .ok (.ifCond .ge 14, 3) := by decide +kernel
theorem DJ9_floorDiv_7cf53_10 : decode jJ9_floorDiv_7cf53.2.1 10 = .ok (.iload_n 2, 1) := by decide +kernel
theorem DJ9_floorDiv_7cf53_11 : decode jJ9_floorDiv_7cf53.2.1 11 = .ok (.iload_n 1, 1) := by decide +kernel
theorem DJ9_floorDiv_7cf53_12 : decode jJ9_floorDiv_7cf53.2.1 12 = .ok (.imul, 1) := by decide +kernel
theorem DJ9_floorDiv_7cf53_13 : decode jJ9_floorDiv_7cf53.2.1 13 = .ok (.iload_n 0, 1) := by decide +kernel
theorem DJ9_floorDiv_7cf53_14 : decode jJ9_floorDiv_7cf53.2.1 14 = .ok (.if_icmp .eq 7, 3) := by decide +kernel
theorem DJ9_floorDiv_7cf53_17 : decode jJ9_floorDiv_7cf53.2.1 17 = .ok (.iload_n 2, 1) := by decide +kernel
theorem DJ9_floorDiv_7cf53_18 : decode jJ9_floorDiv_7cf53.2.1 18 = .ok (.iconst 1, 1) := by decide +kernel
theorem DJ9_floorDiv_7cf53_19 : decode jJ9_floorDiv_7cf53.2.1 19 = .ok (.isub, 1) := by decide +kernel
theorem DJ9_floorDiv_7cf53_20 : decode jJ9_floorDiv_7cf53.2.1 20 = .ok (.ireturn, 1) := by decide +kernel
theorem DJ9_floorDiv_7cf53_21 : decode jJ9_floorDiv_7cf53.2.1 21 = .ok (.iload_n 2, 1) := by decide +kernel
theorem DJ9_floorDiv_7cf53_22 : decode jJ9_floorDiv_7cf53.2.1 22 = .ok (.ireturn, 1) := by decide +kernel
theorem DJ9_max_7cf53_0 : decode jJ9_max_7cf53.2.1 0 = .ok (.iload_n 0, 1) := by decide +kernel
theorem DJ9_max_7cf53_1 : decode jJ9_max_7cf53.2.1 1 = .ok (.iload_n 1, 1) := by decide +kernel
theorem DJ9_max_7cf53_2 : decode jJ9_max_7cf53.2.1 2 = .ok (.if_icmp .lt 7, 3) := by decide +kernel
theorem DJ9_max_7cf53_5 : decode jJ9_max_7cf53.2.1 5 = .ok (.iload_n 0, 1) := by decide +kernel
theorem DJ9_max_7cf53_6 : decode jJ9_max_7cf53.2.1 6 = .ok (.goto 4, 3) := by decide +kernel
theorem DJ9_max_7cf53_9 : decode jJ9_max_7cf53.2.1 9 = .ok (.iload_n 1, 1) := by decide +kernel
theorem DJ9_max_7cf53_10 : decode jJ9_max_7cf53.2.1 10 = .ok (.ireturn, 1) := by decide +kernel
theorem DJ9_min_7cf53_0 : decode jJ9_min_7cf53.2.1 0 = .ok (.iload_n 0, 1) := by decide +kernel
theorem DJ9_min_7cf53_1 : decode jJ9_min_7cf53.2.1 1 = .ok (.iload_n 1, 1) := by decide +kernel
theorem DJ9_min_7cf53_2 : decode jJ9_min_7cf53.2.1 2 = .ok (.if_icmp .gt 7, 3) := by decide +kernel
theorem DJ9_min_7cf53_5 : decode jJ9_min_7cf53.2.1 5 = .ok (.iload_n 0, 1) := by decide +kernel
theorem DJ9_min_7cf53_6 : decode jJ9_min_7cf53.2.1 6 = .ok (.goto 4, 3) := by decide +kernel
theorem DJ9_min_7cf53_9 : decode jJ9_min_7cf53.2.1 9 = .ok (.iload_n 1, 1) := by decide +kernel
theorem DJ9_min_7cf53_10 : decode jJ9_min_7cf53.2.1 10 = .ok (.ireturn, 1) := by decide +kernel
