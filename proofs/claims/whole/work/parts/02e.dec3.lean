/-! what the bytes decode to -/
theorem DX12_counts_0 : decode jX12_counts.2.1 0 = .ok (.aload_n 0, 1) := by decide +kernel
theorem DX12_counts_1 : decode jX12_counts.2.1 1 = .ok (.getfield 13, 3) := by decide +kernel
theorem DX12_counts_4 : decode jX12_counts.2.1 4 = .ok (.iload_n 1, 1) := by decide +kernel
theorem DX12_counts_5 : decode jX12_counts.2.1 5 = .ok (.iaload, 1) := by decide +kernel
theorem DX12_counts_6 : decode jX12_counts.2.1 6 = .ok (.ifCond .lt 10, 3) := by decide +kernel
theorem DX12_counts_9 : decode jX12_counts.2.1 9 = .ok (.aload_n 0, 1) := by decide +kernel
theorem DX12_counts_10 : decode jX12_counts.2.1 10 = .ok (.getfield 13, 3) := by decide +kernel
theorem DX12_counts_13 : decode jX12_counts.2.1 13 = .ok (.iload_n 1, 1) := by decide +kernel
theorem DX12_counts_14 : decode jX12_counts.2.1 14 = .ok (.iaload, 1) := by decide +kernel
theorem DX12_counts_15 : decode jX12_counts.2.1 15 = .ok (.ireturn, 1) := by decide +kernel
theorem DX12_counts_16 : decode jX12_counts.2.1 16 = .ok (.iconst (-1), 1) := by decide +kernel
theorem DX12_counts_17 : decode jX12_counts.2.1 17 = .ok (.istore_n 2, 1) := by decide +kernel
theorem DX12_counts_18 : decode jX12_counts.2.1 18 = .ok (.iload_n 1, 1) := by decide +kernel
theorem DX12_counts_19 : decode jX12_counts.2.1 19 = .ok (.bipush 13, 2) := by decide +kernel
theorem DX12_counts_21 : decode jX12_counts.2.1 21 = .ok (.idiv, 1) := by decide +kernel
theorem DX12_counts_22 : decode jX12_counts.2.1 22 = .ok (.bipush 13, 2) := by decide +kernel
theorem DX12_counts_24 : decode jX12_counts.2.1 24 = .ok (.imul, 1) := by decide +kernel
theorem DX12_counts_25 : decode jX12_counts.2.1 25 = .ok (.istore_n 3, 1) := by decide +kernel
theorem DX12_counts_26 : decode jX12_counts.2.1 26 = .ok (.iload_n 3, 1) := by decide +kernel
theorem DX12_counts_27 : decode jX12_counts.2.1 27 = .ok (.iload_n 1, 1) := by decide +kernel
theorem DX12_counts_28 : decode jX12_counts.2.1 28 = .ok (.bipush 13, 2) := by decide +kernel
theorem DX12_counts_30 : decode jX12_counts.2.1 30 = .ok (.idiv, 1) := by decide +kernel
theorem DX12_counts_31 : decode jX12_counts.2.1 31 = .ok (.bipush 13, 2) := by decide +kernel
theorem DX12_counts_33 : decode jX12_counts.2.1 33 = .ok (.imul, 1) := by decide +kernel
theorem DX12_counts_34 : decode jX12_counts.2.1 34 = .ok (.bipush 13, 2) := by decide +kernel
theorem DX12_counts_36 : decode jX12_counts.2.1 36 = .ok (.iadd, 1) := by decide +kernel
theorem DX12_counts_37 : decode jX12_counts.2.1 37 = .ok (.if_icmp .ge 20, 3) := by decide +kernel
theorem DX12_counts_40 : decode jX12_counts.2.1 40 = .ok (.iload_n 2, 1) := by decide +kernel
theorem DX12_counts_41 : decode jX12_counts.2.1 41 = .ok (.aload_n 0, 1) := by decide +kernel
theorem DX12_counts_42 : decode jX12_counts.2.1 42 = .ok (.getfield 13, 3) := by decide +kernel
theorem DX12_counts_45 : decode jX12_counts.2.1 45 = .ok (.iload_n 3, 1) := by decide +kernel
theorem DX12_counts_46 : decode jX12_counts.2.1 46 = .ok (.iaload, 1) := by decide +kernel
theorem DX12_counts_47 : decode jX12_counts.2.1 47 = .ok (.invokestatic 135, 3) := by decide +kernel
theorem DX12_counts_50 : decode jX12_counts.2.1 50 = .ok (.istore_n 2, 1) := by decide +kernel
theorem DX12_counts_51 : decode jX12_counts.2.1 51 = .ok (.iinc 3 1, 3) := by decide +kernel
theorem DX12_counts_54 : decode jX12_counts.2.1 54 = .ok (.goto (-28), 3) := by decide +kernel
theorem DX12_counts_57 : decode jX12_counts.2.1 57 = .ok (.iload_n 2, 1) := by decide +kernel
theorem DX12_counts_58 : decode jX12_counts.2.1 58 = .ok (.ifCond .ge 7, 3) := by decide +kernel
theorem DX12_counts_61 : decode jX12_counts.2.1 61 = .ok (.iconst 5, 1) := by decide +kernel
theorem DX12_counts_62 : decode jX12_counts.2.1 62 = .ok (.goto 4, 3) := by decide +kernel
theorem DX12_counts_65 : decode jX12_counts.2.1 65 = .ok (.iload_n 2, 1) := by decide +kernel
theorem DX12_counts_66 : decode jX12_counts.2.1 66 = .ok (.ireturn, 1) := by decide +kernel
theorem DX12_bring_0 : decode jX12_bring.2.1 0 = .ok (.aload_n 0, 1) := by decide +kernel
theorem DX12_bring_1 : decode jX12_bring.2.1 1 = .ok (.iload_n 1, 1) := by decide +kernel
theorem DX12_bring_2 : decode jX12_bring.2.1 2 = .ok (.invokevirtual 148, 3) := by decide +kernel
theorem DX12_bring_5 : decode jX12_bring.2.1 5 = .ok (.ifCond .ne 9, 3) := by decide +kernel
theorem DX12_bring_8 : decode jX12_bring.2.1 8 = .ok (.aload_n 0, 1) := by decide +kernel
theorem DX12_bring_9 : decode jX12_bring.2.1 9 = .ok (.iconst (-1), 1) := by decide +kernel
theorem DX12_bring_10 : decode jX12_bring.2.1 10 = .ok (.invokevirtual 120, 3) := by decide +kernel
theorem DX12_bring_13 : decode jX12_bring.2.1 13 = .ok (.ireturn, 1) := by decide +kernel
theorem DX12_bring_14 : decode jX12_bring.2.1 14 = .ok (.aload_n 0, 1) := by decide +kernel
theorem DX12_bring_15 : decode jX12_bring.2.1 15 = .ok (.getfield 37, 3) := by decide +kernel
theorem DX12_bring_18 : decode jX12_bring.2.1 18 = .ok (.iload_n 1, 1) := by decide +kernel
theorem DX12_bring_19 : decode jX12_bring.2.1 19 = .ok (.baload, 1) := by decide +kernel
theorem DX12_bring_20 : decode jX12_bring.2.1 20 = .ok (.ifCond .eq 12, 3) := by decide +kernel
theorem DX12_bring_23 : decode jX12_bring.2.1 23 = .ok (.aload_n 0, 1) := by decide +kernel
theorem DX12_bring_24 : decode jX12_bring.2.1 24 = .ok (.getfield 31, 3) := by decide +kernel
theorem DX12_bring_27 : decode jX12_bring.2.1 27 = .ok (.iload_n 1, 1) := by decide +kernel
theorem DX12_bring_28 : decode jX12_bring.2.1 28 = .ok (.iaload, 1) := by decide +kernel
theorem DX12_bring_29 : decode jX12_bring.2.1 29 = .ok (.ifCond .le 10, 3) := by decide +kernel
theorem DX12_bring_32 : decode jX12_bring.2.1 32 = .ok (.aload_n 0, 1) := by decide +kernel
theorem DX12_bring_33 : decode jX12_bring.2.1 33 = .ok (.bipush (-3), 2) := by decide +kernel
theorem DX12_bring_35 : decode jX12_bring.2.1 35 = .ok (.invokevirtual 120, 3) := by decide +kernel
theorem DX12_bring_38 : decode jX12_bring.2.1 38 = .ok (.ireturn, 1) := by decide +kernel
theorem DX12_bring_39 : decode jX12_bring.2.1 39 = .ok (.iload_n 2, 1) := by decide +kernel
theorem DX12_bring_40 : decode jX12_bring.2.1 40 = .ok (.ifCond .lt 7, 3) := by decide +kernel
theorem DX12_bring_43 : decode jX12_bring.2.1 43 = .ok (.iload_n 3, 1) := by decide +kernel
theorem DX12_bring_44 : decode jX12_bring.2.1 44 = .ok (.ifCond .ge 10, 3) := by decide +kernel
theorem DX12_bring_47 : decode jX12_bring.2.1 47 = .ok (.aload_n 0, 1) := by decide +kernel
theorem DX12_bring_48 : decode jX12_bring.2.1 48 = .ok (.bipush (-4), 2) := by decide +kernel
theorem DX12_bring_50 : decode jX12_bring.2.1 50 = .ok (.invokevirtual 120, 3) := by decide +kernel
theorem DX12_bring_53 : decode jX12_bring.2.1 53 = .ok (.ireturn, 1) := by decide +kernel
theorem DX12_bring_54 : decode jX12_bring.2.1 54 = .ok (.iload_n 2, 1) := by decide +kernel
theorem DX12_bring_55 : decode jX12_bring.2.1 55 = .ok (.sipush 2000, 3) := by decide +kernel
theorem DX12_bring_58 : decode jX12_bring.2.1 58 = .ok (.if_icmp .gt 9, 3) := by decide +kernel
theorem DX12_bring_61 : decode jX12_bring.2.1 61 = .ok (.iload_n 3, 1) := by decide +kernel
theorem DX12_bring_62 : decode jX12_bring.2.1 62 = .ok (.bipush 20, 2) := by decide +kernel
theorem DX12_bring_64 : decode jX12_bring.2.1 64 = .ok (.if_icmp .le 10, 3) := by decide +kernel
theorem DX12_bring_67 : decode jX12_bring.2.1 67 = .ok (.aload_n 0, 1) := by decide +kernel
theorem DX12_bring_68 : decode jX12_bring.2.1 68 = .ok (.bipush (-6), 2) := by decide +kernel
theorem DX12_bring_70 : decode jX12_bring.2.1 70 = .ok (.invokevirtual 120, 3) := by decide +kernel
theorem DX12_bring_73 : decode jX12_bring.2.1 73 = .ok (.ireturn, 1) := by decide +kernel
theorem DX12_bring_74 : decode jX12_bring.2.1 74 = .ok (.aload_n 0, 1) := by decide +kernel
theorem DX12_bring_75 : decode jX12_bring.2.1 75 = .ok (.getfield 41, 3) := by decide +kernel
theorem DX12_bring_78 : decode jX12_bring.2.1 78 = .ok (.iload_n 1, 1) := by decide +kernel
theorem DX12_bring_79 : decode jX12_bring.2.1 79 = .ok (.iconst 1, 1) := by decide +kernel
theorem DX12_bring_80 : decode jX12_bring.2.1 80 = .ok (.bastore, 1) := by decide +kernel
theorem DX12_bring_81 : decode jX12_bring.2.1 81 = .ok (.aload_n 0, 1) := by decide +kernel
theorem DX12_bring_82 : decode jX12_bring.2.1 82 = .ok (.getfield 25, 3) := by decide +kernel
theorem DX12_bring_85 : decode jX12_bring.2.1 85 = .ok (.iload_n 1, 1) := by decide +kernel
theorem DX12_bring_86 : decode jX12_bring.2.1 86 = .ok (.iload_n 2, 1) := by decide +kernel
theorem DX12_bring_87 : decode jX12_bring.2.1 87 = .ok (.iastore, 1) := by decide +kernel
theorem DX12_bring_88 : decode jX12_bring.2.1 88 = .ok (.aload_n 0, 1) := by decide +kernel
theorem DX12_bring_89 : decode jX12_bring.2.1 89 = .ok (.getfield 28, 3) := by decide +kernel
theorem DX12_bring_92 : decode jX12_bring.2.1 92 = .ok (.iload_n 1, 1) := by decide +kernel
theorem DX12_bring_93 : decode jX12_bring.2.1 93 = .ok (.iload_n 3, 1) := by decide +kernel
theorem DX12_bring_94 : decode jX12_bring.2.1 94 = .ok (.iastore, 1) := by decide +kernel
theorem DX12_bring_95 : decode jX12_bring.2.1 95 = .ok (.iload_n 2, 1) := by decide +kernel
theorem DX12_bring_96 : decode jX12_bring.2.1 96 = .ok (.bipush 10, 2) := by decide +kernel
theorem DX12_bring_98 : decode jX12_bring.2.1 98 = .ok (.idiv, 1) := by decide +kernel
theorem DX12_bring_99 : decode jX12_bring.2.1 99 = .ok (.ireturn, 1) := by decide +kernel
theorem DX12_brought_0 : decode jX12_brought.2.1 0 = .ok (.iload_n 1, 1) := by decide +kernel
theorem DX12_brought_1 : decode jX12_brought.2.1 1 = .ok (.iconst (-1), 1) := by decide +kernel
theorem DX12_brought_2 : decode jX12_brought.2.1 2 = .ok (.if_icmp .eq 17, 3) := by decide +kernel
theorem DX12_brought_5 : decode jX12_brought.2.1 5 = .ok (.iload_n 1, 1) := by decide +kernel
theorem DX12_brought_6 : decode jX12_brought.2.1 6 = .ok (.iconst 4, 1) := by decide +kernel
theorem DX12_brought_7 : decode jX12_brought.2.1 7 = .ok (.invokestatic 124, 3) := by decide +kernel
theorem DX12_brought_10 : decode jX12_brought.2.1 10 = .ok (.ifCond .ne 9, 3) := by decide +kernel
theorem DX12_brought_13 : decode jX12_brought.2.1 13 = .ok (.aload_n 0, 1) := by decide +kernel
theorem DX12_brought_14 : decode jX12_brought.2.1 14 = .ok (.iconst (-1), 1) := by decide +kernel
theorem DX12_brought_15 : decode jX12_brought.2.1 15 = .ok (.invokevirtual 120, 3) := by decide +kernel
theorem DX12_brought_18 : decode jX12_brought.2.1 18 = .ok (.ireturn, 1) := by decide +kernel
theorem DX12_brought_19 : decode jX12_brought.2.1 19 = .ok (.iload_n 2, 1) := by decide +kernel
theorem DX12_brought_20 : decode jX12_brought.2.1 20 = .ok (.iconst 3, 1) := by decide +kernel
theorem DX12_brought_21 : decode jX12_brought.2.1 21 = .ok (.invokestatic 124, 3) := by decide +kernel
theorem DX12_brought_24 : decode jX12_brought.2.1 24 = .ok (.ifCond .ne 10, 3) := by decide +kernel
theorem DX12_brought_27 : decode jX12_brought.2.1 27 = .ok (.aload_n 0, 1) := by decide +kernel
theorem DX12_brought_28 : decode jX12_brought.2.1 28 = .ok (.bipush (-2), 2) := by decide +kernel
theorem DX12_brought_30 : decode jX12_brought.2.1 30 = .ok (.invokevirtual 120, 3) := by decide +kernel
theorem DX12_brought_33 : decode jX12_brought.2.1 33 = .ok (.ireturn, 1) := by decide +kernel
theorem DX12_brought_34 : decode jX12_brought.2.1 34 = .ok (.iconst 0, 1) := by decide +kernel
theorem DX12_brought_35 : decode jX12_brought.2.1 35 = .ok (.istore_n 3, 1) := by decide +kernel
theorem DX12_brought_36 : decode jX12_brought.2.1 36 = .ok (.iconst 0, 1) := by decide +kernel
theorem DX12_brought_37 : decode jX12_brought.2.1 37 = .ok (.istore 4, 2) := by decide +kernel
theorem DX12_brought_39 : decode jX12_brought.2.1 39 = .ok (.iload 4, 2) := by decide +kernel
theorem DX12_brought_41 : decode jX12_brought.2.1 41 = .ok (.aload_n 0, 1) := by decide +kernel
theorem DX12_brought_42 : decode jX12_brought.2.1 42 = .ok (.getfield 144, 3) := by decide +kernel
theorem DX12_brought_45 : decode jX12_brought.2.1 45 = .ok (.if_icmp .ge 96, 3) := by decide +kernel
theorem DX12_brought_48 : decode jX12_brought.2.1 48 = .ok (.aload_n 0, 1) := by decide +kernel
theorem DX12_brought_49 : decode jX12_brought.2.1 49 = .ok (.getfield 41, 3) := by decide +kernel
theorem DX12_brought_52 : decode jX12_brought.2.1 52 = .ok (.iload 4, 2) := by decide +kernel
theorem DX12_brought_54 : decode jX12_brought.2.1 54 = .ok (.baload, 1) := by decide +kernel
theorem DX12_brought_55 : decode jX12_brought.2.1 55 = .ok (.ifCond .eq 80, 3) := by decide +kernel
theorem DX12_brought_58 : decode jX12_brought.2.1 58 = .ok (.iload_n 1, 1) := by decide +kernel
theorem DX12_brought_59 : decode jX12_brought.2.1 59 = .ok (.ifCond .lt 17, 3) := by decide +kernel
theorem DX12_brought_62 : decode jX12_brought.2.1 62 = .ok (.aload_n 0, 1) := by decide +kernel
theorem DX12_brought_63 : decode jX12_brought.2.1 63 = .ok (.getfield 16, 3) := by decide +kernel
theorem DX12_brought_66 : decode jX12_brought.2.1 66 = .ok (.iload 4, 2) := by decide +kernel
theorem DX12_brought_68 : decode jX12_brought.2.1 68 = .ok (.iaload, 1) := by decide +kernel
theorem DX12_brought_69 : decode jX12_brought.2.1 69 = .ok (.iload_n 1, 1) := by decide +kernel
theorem DX12_brought_70 : decode jX12_brought.2.1 70 = .ok (.if_icmp .eq 6, 3) := by decide +kernel
theorem DX12_brought_73 : decode jX12_brought.2.1 73 = .ok (.goto 62, 3) := by decide +kernel
theorem DX12_brought_76 : decode jX12_brought.2.1 76 = .ok (.iload_n 3, 1) := by decide +kernel
theorem DX12_brought_77 : decode jX12_brought.2.1 77 = .ok (.iload_n 2, 1) := by decide +kernel
theorem DX12_brought_78 : decode jX12_brought.2.1 78 = .ok (.ifCond .ne 25, 3) := by decide +kernel
theorem DX12_brought_81 : decode jX12_brought.2.1 81 = .ok (.iconst 0, 1) := by decide +kernel
theorem DX12_brought_82 : decode jX12_brought.2.1 82 = .ok (.aload_n 0, 1) := by decide +kernel
theorem DX12_brought_83 : decode jX12_brought.2.1 83 = .ok (.getfield 25, 3) := by decide +kernel
theorem DX12_brought_86 : decode jX12_brought.2.1 86 = .ok (.iload 4, 2) := by decide +kernel
theorem DX12_brought_88 : decode jX12_brought.2.1 88 = .ok (.iaload, 1) := by decide +kernel
theorem DX12_brought_89 : decode jX12_brought.2.1 89 = .ok (.aload_n 0, 1) := by decide +kernel
theorem DX12_brought_90 : decode jX12_brought.2.1 90 = .ok (.getfield 28, 3) := by decide +kernel
theorem DX12_brought_93 : decode jX12_brought.2.1 93 = .ok (.iload 4, 2) := by decide +kernel
theorem DX12_brought_95 : decode jX12_brought.2.1 95 = .ok (.iaload, 1) := by decide +kernel
theorem DX12_brought_96 : decode jX12_brought.2.1 96 = .ok (.isub, 1) := by decide +kernel
theorem DX12_brought_97 : decode jX12_brought.2.1 97 = .ok (.invokestatic 135, 3) := by decide +kernel
theorem DX12_brought_100 : decode jX12_brought.2.1 100 = .ok (.goto 33, 3) := by decide +kernel
theorem DX12_brought_103 : decode jX12_brought.2.1 103 = .ok (.iload_n 2, 1) := by decide +kernel
theorem DX12_brought_104 : decode jX12_brought.2.1 104 = .ok (.iconst 1, 1) := by decide +kernel
theorem DX12_brought_105 : decode jX12_brought.2.1 105 = .ok (.if_icmp .ne 13, 3) := by decide +kernel
theorem DX12_brought_108 : decode jX12_brought.2.1 108 = .ok (.aload_n 0, 1) := by decide +kernel
theorem DX12_brought_109 : decode jX12_brought.2.1 109 = .ok (.getfield 25, 3) := by decide +kernel
theorem DX12_brought_112 : decode jX12_brought.2.1 112 = .ok (.iload 4, 2) := by decide +kernel
theorem DX12_brought_114 : decode jX12_brought.2.1 114 = .ok (.iaload, 1) := by decide +kernel
theorem DX12_brought_115 : decode jX12_brought.2.1 115 = .ok (.goto 18, 3) := by decide +kernel
theorem DX12_brought_118 : decode jX12_brought.2.1 118 = .ok (.aload_n 0, 1) := by decide +kernel
theorem DX12_brought_119 : decode jX12_brought.2.1 119 = .ok (.getfield 25, 3) := by decide +kernel
theorem DX12_brought_122 : decode jX12_brought.2.1 122 = .ok (.iload 4, 2) := by decide +kernel
theorem DX12_brought_124 : decode jX12_brought.2.1 124 = .ok (.iaload, 1) := by decide +kernel
theorem DX12_brought_125 : decode jX12_brought.2.1 125 = .ok (.aload_n 0, 1) := by decide +kernel
theorem DX12_brought_126 : decode jX12_brought.2.1 126 = .ok (.getfield 28, 3) := by decide +kernel
theorem DX12_brought_129 : decode jX12_brought.2.1 129 = .ok (.iload 4, 2) := by decide +kernel
theorem DX12_brought_131 : decode jX12_brought.2.1 131 = .ok (.iaload, 1) := by decide +kernel
theorem DX12_brought_132 : decode jX12_brought.2.1 132 = .ok (.iadd, 1) := by decide +kernel
theorem DX12_brought_133 : decode jX12_brought.2.1 133 = .ok (.iadd, 1) := by decide +kernel
theorem DX12_brought_134 : decode jX12_brought.2.1 134 = .ok (.istore_n 3, 1) := by decide +kernel
theorem DX12_brought_135 : decode jX12_brought.2.1 135 = .ok (.iinc 4 1, 3) := by decide +kernel
theorem DX12_brought_138 : decode jX12_brought.2.1 138 = .ok (.goto (-99), 3) := by decide +kernel
theorem DX12_brought_141 : decode jX12_brought.2.1 141 = .ok (.iload_n 3, 1) := by decide +kernel
theorem DX12_brought_142 : decode jX12_brought.2.1 142 = .ok (.ireturn, 1) := by decide +kernel
theorem DX12_ask_0 : decode jX12_ask.2.1 0 = .ok (.iload_n 1, 1) := by decide +kernel
theorem DX12_ask_1 : decode jX12_ask.2.1 1 = .ok (.iconst 0, 1) := by decide +kernel
theorem DX12_ask_2 : decode jX12_ask.2.1 2 = .ok (.sipush 10000, 3) := by decide +kernel
theorem DX12_ask_5 : decode jX12_ask.2.1 5 = .ok (.invokestatic 128, 3) := by decide +kernel
theorem DX12_ask_8 : decode jX12_ask.2.1 8 = .ok (.istore_n 2, 1) := by decide +kernel
theorem DX12_ask_9 : decode jX12_ask.2.1 9 = .ok (.iload_n 2, 1) := by decide +kernel
theorem DX12_ask_10 : decode jX12_ask.2.1 10 = .ok (.ifCond .eq 9, 3) := by decide +kernel
theorem DX12_ask_13 : decode jX12_ask.2.1 13 = .ok (.aload_n 0, 1) := by decide +kernel
theorem DX12_ask_14 : decode jX12_ask.2.1 14 = .ok (.iload_n 2, 1) := by decide +kernel
theorem DX12_ask_15 : decode jX12_ask.2.1 15 = .ok (.invokevirtual 120, 3) := by decide +kernel
theorem DX12_ask_18 : decode jX12_ask.2.1 18 = .ok (.ireturn, 1) := by decide +kernel
theorem DX12_ask_19 : decode jX12_ask.2.1 19 = .ok (.aload_n 0, 1) := by decide +kernel
theorem DX12_ask_20 : decode jX12_ask.2.1 20 = .ok (.getfield 152, 3) := by decide +kernel
theorem DX12_ask_23 : decode jX12_ask.2.1 23 = .ok (.istore_n 3, 1) := by decide +kernel
theorem DX12_ask_24 : decode jX12_ask.2.1 24 = .ok (.aload_n 0, 1) := by decide +kernel
theorem DX12_ask_25 : decode jX12_ask.2.1 25 = .ok (.iload_n 1, 1) := by decide +kernel
theorem DX12_ask_26 : decode jX12_ask.2.1 26 = .ok (.putfield 152, 3) := by decide +kernel
theorem DX12_ask_29 : decode jX12_ask.2.1 29 = .ok (.iload_n 3, 1) := by decide +kernel
theorem DX12_ask_30 : decode jX12_ask.2.1 30 = .ok (.ireturn, 1) := by decide +kernel
theorem DX12_allHands_0 : decode jX12_allHands.2.1 0 = .ok (.iconst 0, 1) := by decide +kernel
theorem DX12_allHands_1 : decode jX12_allHands.2.1 1 = .ok (.istore_n 1, 1) := by decide +kernel
theorem DX12_allHands_2 : decode jX12_allHands.2.1 2 = .ok (.iconst 0, 1) := by decide +kernel
theorem DX12_allHands_3 : decode jX12_allHands.2.1 3 = .ok (.istore_n 2, 1) := by decide +kernel
theorem DX12_allHands_4 : decode jX12_allHands.2.1 4 = .ok (.iload_n 2, 1) := by decide +kernel
theorem DX12_allHands_5 : decode jX12_allHands.2.1 5 = .ok (.aload_n 0, 1) := by decide +kernel
theorem DX12_allHands_6 : decode jX12_allHands.2.1 6 = .ok (.getfield 144, 3) := by decide +kernel
theorem DX12_allHands_9 : decode jX12_allHands.2.1 9 = .ok (.if_icmp .ge 31, 3) := by decide +kernel
theorem DX12_allHands_12 : decode jX12_allHands.2.1 12 = .ok (.iload_n 1, 1) := by decide +kernel
theorem DX12_allHands_13 : decode jX12_allHands.2.1 13 = .ok (.aload_n 0, 1) := by decide +kernel
theorem DX12_allHands_14 : decode jX12_allHands.2.1 14 = .ok (.getfield 37, 3) := by decide +kernel
theorem DX12_allHands_17 : decode jX12_allHands.2.1 17 = .ok (.iload_n 2, 1) := by decide +kernel
theorem DX12_allHands_18 : decode jX12_allHands.2.1 18 = .ok (.baload, 1) := by decide +kernel
theorem DX12_allHands_19 : decode jX12_allHands.2.1 19 = .ok (.ifCond .eq 12, 3) := by decide +kernel
theorem DX12_allHands_22 : decode jX12_allHands.2.1 22 = .ok (.aload_n 0, 1) := by decide +kernel
theorem DX12_allHands_23 : decode jX12_allHands.2.1 23 = .ok (.getfield 19, 3) := by decide +kernel
theorem DX12_allHands_26 : decode jX12_allHands.2.1 26 = .ok (.iload_n 2, 1) := by decide +kernel
theorem DX12_allHands_27 : decode jX12_allHands.2.1 27 = .ok (.iaload, 1) := by decide +kernel
theorem DX12_allHands_28 : decode jX12_allHands.2.1 28 = .ok (.goto 4, 3) := by decide +kernel
theorem DX12_allHands_31 : decode jX12_allHands.2.1 31 = .ok (.iconst 0, 1) := by decide +kernel
theorem DX12_allHands_32 : decode jX12_allHands.2.1 32 = .ok (.iadd, 1) := by decide +kernel
theorem DX12_allHands_33 : decode jX12_allHands.2.1 33 = .ok (.istore_n 1, 1) := by decide +kernel
theorem DX12_allHands_34 : decode jX12_allHands.2.1 34 = .ok (.iinc 2 1, 3) := by decide +kernel
theorem DX12_allHands_37 : decode jX12_allHands.2.1 37 = .ok (.goto (-33), 3) := by decide +kernel
theorem DX12_allHands_40 : decode jX12_allHands.2.1 40 = .ok (.iload_n 1, 1) := by decide +kernel
theorem DX12_allHands_41 : decode jX12_allHands.2.1 41 = .ok (.ireturn, 1) := by decide +kernel
theorem DX12_close_0 : decode jX12_close.2.1 0 = .ok (.aload_n 0, 1) := by decide +kernel
theorem DX12_close_1 : decode jX12_close.2.1 1 = .ok (.getfield 162, 3) := by decide +kernel
theorem DX12_close_4 : decode jX12_close.2.1 4 = .ok (.bipush 60, 2) := by decide +kernel
theorem DX12_close_6 : decode jX12_close.2.1 6 = .ok (.if_icmp .ne 10, 3) := by decide +kernel
theorem DX12_close_9 : decode jX12_close.2.1 9 = .ok (.aload_n 0, 1) := by decide +kernel
theorem DX12_close_10 : decode jX12_close.2.1 10 = .ok (.bipush (-6), 2) := by decide +kernel
theorem DX12_close_12 : decode jX12_close.2.1 12 = .ok (.invokevirtual 120, 3) := by decide +kernel
theorem DX12_close_15 : decode jX12_close.2.1 15 = .ok (.ireturn, 1) := by decide +kernel
theorem DX12_close_16 : decode jX12_close.2.1 16 = .ok (.iconst 0, 1) := by decide +kernel
theorem DX12_close_17 : decode jX12_close.2.1 17 = .ok (.istore_n 1, 1) := by decide +kernel
theorem DX12_close_18 : decode jX12_close.2.1 18 = .ok (.iload_n 1, 1) := by decide +kernel
theorem DX12_close_19 : decode jX12_close.2.1 19 = .ok (.aload_n 0, 1) := by decide +kernel
theorem DX12_close_20 : decode jX12_close.2.1 20 = .ok (.getfield 144, 3) := by decide +kernel
theorem DX12_close_23 : decode jX12_close.2.1 23 = .ok (.if_icmp .ge 20, 3) := by decide +kernel
theorem DX12_close_26 : decode jX12_close.2.1 26 = .ok (.aload_n 0, 1) := by decide +kernel
theorem DX12_close_27 : decode jX12_close.2.1 27 = .ok (.getfield 80, 3) := by decide +kernel
theorem DX12_close_30 : decode jX12_close.2.1 30 = .ok (.iload_n 1, 1) := by decide +kernel
theorem DX12_close_31 : decode jX12_close.2.1 31 = .ok (.aload_n 0, 1) := by decide +kernel
theorem DX12_close_32 : decode jX12_close.2.1 32 = .ok (.iload_n 1, 1) := by decide +kernel
theorem DX12_close_33 : decode jX12_close.2.1 33 = .ok (.invokevirtual 159, 3) := by decide +kernel
theorem DX12_close_36 : decode jX12_close.2.1 36 = .ok (.iastore, 1) := by decide +kernel
theorem DX12_close_37 : decode jX12_close.2.1 37 = .ok (.iinc 1 1, 3) := by decide +kernel
theorem DX12_close_40 : decode jX12_close.2.1 40 = .ok (.goto (-22), 3) := by decide +kernel
theorem DX12_close_43 : decode jX12_close.2.1 43 = .ok (.iconst 0, 1) := by decide +kernel
theorem DX12_close_44 : decode jX12_close.2.1 44 = .ok (.istore_n 1, 1) := by decide +kernel
theorem DX12_close_45 : decode jX12_close.2.1 45 = .ok (.iload_n 1, 1) := by decide +kernel
theorem DX12_close_46 : decode jX12_close.2.1 46 = .ok (.aload_n 0, 1) := by decide +kernel
theorem DX12_close_47 : decode jX12_close.2.1 47 = .ok (.getfield 144, 3) := by decide +kernel
theorem DX12_close_50 : decode jX12_close.2.1 50 = .ok (.if_icmp .ge 65, 3) := by decide +kernel
theorem DX12_close_53 : decode jX12_close.2.1 53 = .ok (.aload_n 0, 1) := by decide +kernel
theorem DX12_close_54 : decode jX12_close.2.1 54 = .ok (.getfield 34, 3) := by decide +kernel
theorem DX12_close_57 : decode jX12_close.2.1 57 = .ok (.iload_n 1, 1) := by decide +kernel
theorem DX12_close_58 : decode jX12_close.2.1 58 = .ok (.dup2, 1) := by decide +kernel
theorem DX12_close_59 : decode jX12_close.2.1 59 = .ok (.iaload, 1) := by decide +kernel
theorem DX12_close_60 : decode jX12_close.2.1 60 = .ok (.aload_n 0, 1) := by decide +kernel
theorem DX12_close_61 : decode jX12_close.2.1 61 = .ok (.getfield 80, 3) := by decide +kernel
theorem DX12_close_64 : decode jX12_close.2.1 64 = .ok (.iload_n 1, 1) := by decide +kernel
theorem DX12_close_65 : decode jX12_close.2.1 65 = .ok (.iaload, 1) := by decide +kernel
theorem DX12_close_66 : decode jX12_close.2.1 66 = .ok (.aload_n 0, 1) := by decide +kernel
theorem DX12_close_67 : decode jX12_close.2.1 67 = .ok (.getfield 41, 3) := by decide +kernel
theorem DX12_close_70 : decode jX12_close.2.1 70 = .ok (.iload_n 1, 1) := by decide +kernel
theorem DX12_close_71 : decode jX12_close.2.1 71 = .ok (.baload, 1) := by decide +kernel
theorem DX12_close_72 : decode jX12_close.2.1 72 = .ok (.ifCond .eq 12, 3) := by decide +kernel
theorem DX12_close_75 : decode jX12_close.2.1 75 = .ok (.aload_n 0, 1) := by decide +kernel
theorem DX12_close_76 : decode jX12_close.2.1 76 = .ok (.getfield 25, 3) := by decide +kernel
theorem DX12_close_79 : decode jX12_close.2.1 79 = .ok (.iload_n 1, 1) := by decide +kernel
theorem DX12_close_80 : decode jX12_close.2.1 80 = .ok (.iaload, 1) := by decide +kernel
theorem DX12_close_81 : decode jX12_close.2.1 81 = .ok (.goto 4, 3) := by decide +kernel
theorem DX12_close_84 : decode jX12_close.2.1 84 = .ok (.iconst 0, 1) := by decide +kernel
theorem DX12_close_85 : decode jX12_close.2.1 85 = .ok (.isub, 1) := by decide +kernel
theorem DX12_close_86 : decode jX12_close.2.1 86 = .ok (.iadd, 1) := by decide +kernel
theorem DX12_close_87 : decode jX12_close.2.1 87 = .ok (.iastore, 1) := by decide +kernel
theorem DX12_close_88 : decode jX12_close.2.1 88 = .ok (.aload_n 0, 1) := by decide +kernel
theorem DX12_close_89 : decode jX12_close.2.1 89 = .ok (.getfield 41, 3) := by decide +kernel
theorem DX12_close_92 : decode jX12_close.2.1 92 = .ok (.iload_n 1, 1) := by decide +kernel
theorem DX12_close_93 : decode jX12_close.2.1 93 = .ok (.iconst 0, 1) := by decide +kernel
theorem DX12_close_94 : decode jX12_close.2.1 94 = .ok (.bastore, 1) := by decide +kernel
theorem DX12_close_95 : decode jX12_close.2.1 95 = .ok (.aload_n 0, 1) := by decide +kernel
theorem DX12_close_96 : decode jX12_close.2.1 96 = .ok (.getfield 25, 3) := by decide +kernel
theorem DX12_close_99 : decode jX12_close.2.1 99 = .ok (.iload_n 1, 1) := by decide +kernel
theorem DX12_close_100 : decode jX12_close.2.1 100 = .ok (.iconst 0, 1) := by decide +kernel
theorem DX12_close_101 : decode jX12_close.2.1 101 = .ok (.iastore, 1) := by decide +kernel
theorem DX12_close_102 : decode jX12_close.2.1 102 = .ok (.aload_n 0, 1) := by decide +kernel
theorem DX12_close_103 : decode jX12_close.2.1 103 = .ok (.getfield 31, 3) := by decide +kernel
theorem DX12_close_106 : decode jX12_close.2.1 106 = .ok (.iload_n 1, 1) := by decide +kernel
theorem DX12_close_107 : decode jX12_close.2.1 107 = .ok (.iconst 0, 1) := by decide +kernel
theorem DX12_close_108 : decode jX12_close.2.1 108 = .ok (.iastore, 1) := by decide +kernel
theorem DX12_close_109 : decode jX12_close.2.1 109 = .ok (.iinc 1 1, 3) := by decide +kernel
theorem DX12_close_112 : decode jX12_close.2.1 112 = .ok (.goto (-67), 3) := by decide +kernel
theorem DX12_close_115 : decode jX12_close.2.1 115 = .ok (.iconst 0, 1) := by decide +kernel
theorem DX12_close_116 : decode jX12_close.2.1 116 = .ok (.istore_n 1, 1) := by decide +kernel
theorem DX12_close_117 : decode jX12_close.2.1 117 = .ok (.iload_n 1, 1) := by decide +kernel
theorem DX12_close_118 : decode jX12_close.2.1 118 = .ok (.bipush 52, 2) := by decide +kernel
theorem DX12_close_120 : decode jX12_close.2.1 120 = .ok (.if_icmp .ge 16, 3) := by decide +kernel
theorem DX12_close_123 : decode jX12_close.2.1 123 = .ok (.aload_n 0, 1) := by decide +kernel
theorem DX12_close_124 : decode jX12_close.2.1 124 = .ok (.getfield 13, 3) := by decide +kernel
theorem DX12_close_127 : decode jX12_close.2.1 127 = .ok (.iload_n 1, 1) := by decide +kernel
theorem DX12_close_128 : decode jX12_close.2.1 128 = .ok (.iconst (-1), 1) := by decide +kernel
theorem DX12_close_129 : decode jX12_close.2.1 129 = .ok (.iastore, 1) := by decide +kernel
theorem DX12_close_130 : decode jX12_close.2.1 130 = .ok (.iinc 1 1, 3) := by decide +kernel
theorem DX12_close_133 : decode jX12_close.2.1 133 = .ok (.goto (-16), 3) := by decide +kernel
theorem DX12_close_136 : decode jX12_close.2.1 136 = .ok (.iconst 0, 1) := by decide +kernel
theorem DX12_close_137 : decode jX12_close.2.1 137 = .ok (.istore_n 1, 1) := by decide +kernel
theorem DX12_close_138 : decode jX12_close.2.1 138 = .ok (.iload_n 1, 1) := by decide +kernel
theorem DX12_close_139 : decode jX12_close.2.1 139 = .ok (.bipush 6, 2) := by decide +kernel
theorem DX12_close_141 : decode jX12_close.2.1 141 = .ok (.if_icmp .ge 19, 3) := by decide +kernel
theorem DX12_close_144 : decode jX12_close.2.1 144 = .ok (.aload_n 0, 1) := by decide +kernel
theorem DX12_close_145 : decode jX12_close.2.1 145 = .ok (.getfield 74, 3) := by decide +kernel
theorem DX12_close_148 : decode jX12_close.2.1 148 = .ok (.iload_n 1, 1) := by decide +kernel
theorem DX12_close_149 : decode jX12_close.2.1 149 = .ok (.dup2, 1) := by decide +kernel
theorem DX12_close_150 : decode jX12_close.2.1 150 = .ok (.iaload, 1) := by decide +kernel
theorem DX12_close_151 : decode jX12_close.2.1 151 = .ok (.iconst 1, 1) := by decide +kernel
theorem DX12_close_152 : decode jX12_close.2.1 152 = .ok (.iadd, 1) := by decide +kernel
theorem DX12_close_153 : decode jX12_close.2.1 153 = .ok (.iastore, 1) := by decide +kernel
theorem DX12_close_154 : decode jX12_close.2.1 154 = .ok (.iinc 1 1, 3) := by decide +kernel
theorem DX12_close_157 : decode jX12_close.2.1 157 = .ok (.goto (-19), 3) := by decide +kernel
theorem DX12_close_160 : decode jX12_close.2.1 160 = .ok (.aload_n 0, 1) := by decide +kernel
theorem DX12_close_161 : decode jX12_close.2.1 161 = .ok (.dup, 1) := by decide +kernel
theorem DX12_close_162 : decode jX12_close.2.1 162 = .ok (.getfield 162, 3) := by decide +kernel
theorem DX12_close_165 : decode jX12_close.2.1 165 = .ok (.iconst 1, 1) := by decide +kernel
theorem DX12_close_166 : decode jX12_close.2.1 166 = .ok (.iadd, 1) := by decide +kernel
theorem DX12_close_167 : decode jX12_close.2.1 167 = .ok (.putfield 162, 3) := by decide +kernel
theorem DX12_close_170 : decode jX12_close.2.1 170 = .ok (.aload_n 0, 1) := by decide +kernel
theorem DX12_close_171 : decode jX12_close.2.1 171 = .ok (.iconst 0, 1) := by decide +kernel
theorem DX12_close_172 : decode jX12_close.2.1 172 = .ok (.putfield 165, 3) := by decide +kernel
theorem DX12_close_175 : decode jX12_close.2.1 175 = .ok (.aload_n 0, 1) := by decide +kernel
theorem DX12_close_176 : decode jX12_close.2.1 176 = .ok (.getfield 162, 3) := by decide +kernel
theorem DX12_close_179 : decode jX12_close.2.1 179 = .ok (.ireturn, 1) := by decide +kernel
theorem DX12_cordsLeft_0 : decode jX12_cordsLeft.2.1 0 = .ok (.aload_n 0, 1) := by decide +kernel
theorem DX12_cordsLeft_1 : decode jX12_cordsLeft.2.1 1 = .ok (.getfield 41, 3) := by decide +kernel
theorem DX12_cordsLeft_4 : decode jX12_cordsLeft.2.1 4 = .ok (.iload_n 1, 1) := by decide +kernel
theorem DX12_cordsLeft_5 : decode jX12_cordsLeft.2.1 5 = .ok (.baload, 1) := by decide +kernel
theorem DX12_cordsLeft_6 : decode jX12_cordsLeft.2.1 6 = .ok (.ifCond .eq 22, 3) := by decide +kernel
theorem DX12_cordsLeft_9 : decode jX12_cordsLeft.2.1 9 = .ok (.aload_n 0, 1) := by decide +kernel
theorem DX12_cordsLeft_10 : decode jX12_cordsLeft.2.1 10 = .ok (.getfield 25, 3) := by decide +kernel
theorem DX12_cordsLeft_13 : decode jX12_cordsLeft.2.1 13 = .ok (.iload_n 1, 1) := by decide +kernel
theorem DX12_cordsLeft_14 : decode jX12_cordsLeft.2.1 14 = .ok (.iaload, 1) := by decide +kernel
theorem DX12_cordsLeft_15 : decode jX12_cordsLeft.2.1 15 = .ok (.bipush 10, 2) := by decide +kernel
theorem DX12_cordsLeft_17 : decode jX12_cordsLeft.2.1 17 = .ok (.idiv, 1) := by decide +kernel
theorem DX12_cordsLeft_18 : decode jX12_cordsLeft.2.1 18 = .ok (.aload_n 0, 1) := by decide +kernel
theorem DX12_cordsLeft_19 : decode jX12_cordsLeft.2.1 19 = .ok (.getfield 31, 3) := by decide +kernel
theorem DX12_cordsLeft_22 : decode jX12_cordsLeft.2.1 22 = .ok (.iload_n 1, 1) := by decide +kernel
theorem DX12_cordsLeft_23 : decode jX12_cordsLeft.2.1 23 = .ok (.iaload, 1) := by decide +kernel
theorem DX12_cordsLeft_24 : decode jX12_cordsLeft.2.1 24 = .ok (.isub, 1) := by decide +kernel
theorem DX12_cordsLeft_25 : decode jX12_cordsLeft.2.1 25 = .ok (.goto 4, 3) := by decide +kernel
theorem DX12_cordsLeft_28 : decode jX12_cordsLeft.2.1 28 = .ok (.iconst 0, 1) := by decide +kernel
theorem DX12_cordsLeft_29 : decode jX12_cordsLeft.2.1 29 = .ok (.ireturn, 1) := by decide +kernel
theorem DX12_adds_0 : decode jX12_adds.2.1 0 = .ok (.aload_n 0, 1) := by decide +kernel
theorem DX12_adds_1 : decode jX12_adds.2.1 1 = .ok (.getfield 44, 3) := by decide +kernel
theorem DX12_adds_4 : decode jX12_adds.2.1 4 = .ok (.aload_n 0, 1) := by decide +kernel
theorem DX12_adds_5 : decode jX12_adds.2.1 5 = .ok (.getfield 168, 3) := by decide +kernel
theorem DX12_adds_8 : decode jX12_adds.2.1 8 = .ok (.iload_n 1, 1) := by decide +kernel
theorem DX12_adds_9 : decode jX12_adds.2.1 9 = .ok (.iastore, 1) := by decide +kernel
theorem DX12_adds_10 : decode jX12_adds.2.1 10 = .ok (.aload_n 0, 1) := by decide +kernel
theorem DX12_adds_11 : decode jX12_adds.2.1 11 = .ok (.getfield 47, 3) := by decide +kernel
theorem DX12_adds_14 : decode jX12_adds.2.1 14 = .ok (.aload_n 0, 1) := by decide +kernel
theorem DX12_adds_15 : decode jX12_adds.2.1 15 = .ok (.getfield 168, 3) := by decide +kernel
theorem DX12_adds_18 : decode jX12_adds.2.1 18 = .ok (.iload_n 2, 1) := by decide +kernel
theorem DX12_adds_19 : decode jX12_adds.2.1 19 = .ok (.iastore, 1) := by decide +kernel
theorem DX12_adds_20 : decode jX12_adds.2.1 20 = .ok (.aload_n 0, 1) := by decide +kernel
theorem DX12_adds_21 : decode jX12_adds.2.1 21 = .ok (.getfield 50, 3) := by decide +kernel
theorem DX12_adds_24 : decode jX12_adds.2.1 24 = .ok (.aload_n 0, 1) := by decide +kernel
theorem DX12_adds_25 : decode jX12_adds.2.1 25 = .ok (.getfield 168, 3) := by decide +kernel
theorem DX12_adds_28 : decode jX12_adds.2.1 28 = .ok (.aload_n 0, 1) := by decide +kernel
theorem DX12_adds_29 : decode jX12_adds.2.1 29 = .ok (.getfield 162, 3) := by decide +kernel
theorem DX12_adds_32 : decode jX12_adds.2.1 32 = .ok (.iastore, 1) := by decide +kernel
theorem DX12_adds_33 : decode jX12_adds.2.1 33 = .ok (.aload_n 0, 1) := by decide +kernel
theorem DX12_adds_34 : decode jX12_adds.2.1 34 = .ok (.getfield 53, 3) := by decide +kernel
theorem DX12_adds_37 : decode jX12_adds.2.1 37 = .ok (.aload_n 0, 1) := by decide +kernel
theorem DX12_adds_38 : decode jX12_adds.2.1 38 = .ok (.getfield 168, 3) := by decide +kernel
theorem DX12_adds_41 : decode jX12_adds.2.1 41 = .ok (.bipush (-9), 2) := by decide +kernel
theorem DX12_adds_43 : decode jX12_adds.2.1 43 = .ok (.iastore, 1) := by decide +kernel
theorem DX12_adds_44 : decode jX12_adds.2.1 44 = .ok (.aload_n 0, 1) := by decide +kernel
theorem DX12_adds_45 : decode jX12_adds.2.1 45 = .ok (.getfield 56, 3) := by decide +kernel
theorem DX12_adds_48 : decode jX12_adds.2.1 48 = .ok (.iconst 3, 1) := by decide +kernel
theorem DX12_adds_49 : decode jX12_adds.2.1 49 = .ok (.aload_n 0, 1) := by decide +kernel
theorem DX12_adds_50 : decode jX12_adds.2.1 50 = .ok (.getfield 168, 3) := by decide +kernel
theorem DX12_adds_53 : decode jX12_adds.2.1 53 = .ok (.imul, 1) := by decide +kernel
theorem DX12_adds_54 : decode jX12_adds.2.1 54 = .ok (.iload_n 3, 1) := by decide +kernel
theorem DX12_adds_55 : decode jX12_adds.2.1 55 = .ok (.iastore, 1) := by decide +kernel
theorem DX12_adds_56 : decode jX12_adds.2.1 56 = .ok (.aload_n 0, 1) := by decide +kernel
theorem DX12_adds_57 : decode jX12_adds.2.1 57 = .ok (.getfield 56, 3) := by decide +kernel
theorem DX12_adds_60 : decode jX12_adds.2.1 60 = .ok (.iconst 3, 1) := by decide +kernel
theorem DX12_adds_61 : decode jX12_adds.2.1 61 = .ok (.aload_n 0, 1) := by decide +kernel
theorem DX12_adds_62 : decode jX12_adds.2.1 62 = .ok (.getfield 168, 3) := by decide +kernel
theorem DX12_adds_65 : decode jX12_adds.2.1 65 = .ok (.imul, 1) := by decide +kernel
theorem DX12_adds_66 : decode jX12_adds.2.1 66 = .ok (.iconst 1, 1) := by decide +kernel
theorem DX12_adds_67 : decode jX12_adds.2.1 67 = .ok (.iadd, 1) := by decide +kernel
theorem DX12_adds_68 : decode jX12_adds.2.1 68 = .ok (.iload 4, 2) := by decide +kernel
theorem DX12_adds_70 : decode jX12_adds.2.1 70 = .ok (.iastore, 1) := by decide +kernel
theorem DX12_adds_71 : decode jX12_adds.2.1 71 = .ok (.aload_n 0, 1) := by decide +kernel
theorem DX12_adds_72 : decode jX12_adds.2.1 72 = .ok (.getfield 56, 3) := by decide +kernel
theorem DX12_adds_75 : decode jX12_adds.2.1 75 = .ok (.iconst 3, 1) := by decide +kernel
theorem DX12_adds_76 : decode jX12_adds.2.1 76 = .ok (.aload_n 0, 1) := by decide +kernel
theorem DX12_adds_77 : decode jX12_adds.2.1 77 = .ok (.getfield 168, 3) := by decide +kernel
theorem DX12_adds_80 : decode jX12_adds.2.1 80 = .ok (.imul, 1) := by decide +kernel
theorem DX12_adds_81 : decode jX12_adds.2.1 81 = .ok (.iconst 2, 1) := by decide +kernel
theorem DX12_adds_82 : decode jX12_adds.2.1 82 = .ok (.iadd, 1) := by decide +kernel
theorem DX12_adds_83 : decode jX12_adds.2.1 83 = .ok (.iload 5, 2) := by decide +kernel
theorem DX12_adds_85 : decode jX12_adds.2.1 85 = .ok (.iastore, 1) := by decide +kernel
theorem DX12_adds_86 : decode jX12_adds.2.1 86 = .ok (.aload_n 0, 1) := by decide +kernel
theorem DX12_adds_87 : decode jX12_adds.2.1 87 = .ok (.dup, 1) := by decide +kernel
theorem DX12_adds_88 : decode jX12_adds.2.1 88 = .ok (.getfield 168, 3) := by decide +kernel
theorem DX12_adds_91 : decode jX12_adds.2.1 91 = .ok (.iconst 1, 1) := by decide +kernel
theorem DX12_adds_92 : decode jX12_adds.2.1 92 = .ok (.iadd, 1) := by decide +kernel
theorem DX12_adds_93 : decode jX12_adds.2.1 93 = .ok (.putfield 168, 3) := by decide +kernel
theorem DX12_adds_96 : decode jX12_adds.2.1 96 = .ok (.aload_n 0, 1) := by decide +kernel
theorem DX12_adds_97 : decode jX12_adds.2.1 97 = .ok (.getfield 168, 3) := by decide +kernel
theorem DX12_adds_100 : decode jX12_adds.2.1 100 = .ok (.iconst 1, 1) := by decide +kernel
theorem DX12_adds_101 : decode jX12_adds.2.1 101 = .ok (.isub, 1) := by decide +kernel
theorem DX12_adds_102 : decode jX12_adds.2.1 102 = .ok (.ireturn, 1) := by decide +kernel
theorem DX12_gone_0 : decode jX12_gone.2.1 0 = .ok (.aload_n 0, 1) := by decide +kernel
theorem DX12_gone_1 : decode jX12_gone.2.1 1 = .ok (.getfield 65, 3) := by decide +kernel
theorem DX12_gone_4 : decode jX12_gone.2.1 4 = .ok (.iload_n 1, 1) := by decide +kernel
theorem DX12_gone_5 : decode jX12_gone.2.1 5 = .ok (.iaload, 1) := by decide +kernel
theorem DX12_gone_6 : decode jX12_gone.2.1 6 = .ok (.istore_n 2, 1) := by decide +kernel
theorem DX12_gone_7 : decode jX12_gone.2.1 7 = .ok (.aload_n 0, 1) := by decide +kernel
theorem DX12_gone_8 : decode jX12_gone.2.1 8 = .ok (.getfield 65, 3) := by decide +kernel
theorem DX12_gone_11 : decode jX12_gone.2.1 11 = .ok (.iload_n 1, 1) := by decide +kernel
theorem DX12_gone_12 : decode jX12_gone.2.1 12 = .ok (.bipush (-9), 2) := by decide +kernel
theorem DX12_gone_14 : decode jX12_gone.2.1 14 = .ok (.iastore, 1) := by decide +kernel
theorem DX12_gone_15 : decode jX12_gone.2.1 15 = .ok (.aload_n 0, 1) := by decide +kernel
theorem DX12_gone_16 : decode jX12_gone.2.1 16 = .ok (.getfield 53, 3) := by decide +kernel
theorem DX12_gone_19 : decode jX12_gone.2.1 19 = .ok (.iload_n 2, 1) := by decide +kernel
theorem DX12_gone_20 : decode jX12_gone.2.1 20 = .ok (.bipush (-9), 2) := by decide +kernel
theorem DX12_gone_22 : decode jX12_gone.2.1 22 = .ok (.iastore, 1) := by decide +kernel
theorem DX12_gone_23 : decode jX12_gone.2.1 23 = .ok (.iload_n 2, 1) := by decide +kernel
theorem DX12_gone_24 : decode jX12_gone.2.1 24 = .ok (.ireturn, 1) := by decide +kernel
theorem DX12_cut_0 : decode jX12_cut.2.1 0 = .ok (.iload_n 1, 1) := by decide +kernel
theorem DX12_cut_1 : decode jX12_cut.2.1 1 = .ok (.bipush 6, 2) := by decide +kernel
theorem DX12_cut_3 : decode jX12_cut.2.1 3 = .ok (.invokestatic 124, 3) := by decide +kernel
theorem DX12_cut_6 : decode jX12_cut.2.1 6 = .ok (.ifCond .ne 9, 3) := by decide +kernel
theorem DX12_cut_9 : decode jX12_cut.2.1 9 = .ok (.aload_n 0, 1) := by decide +kernel
theorem DX12_cut_10 : decode jX12_cut.2.1 10 = .ok (.iconst (-1), 1) := by decide +kernel
theorem DX12_cut_11 : decode jX12_cut.2.1 11 = .ok (.invokevirtual 120, 3) := by decide +kernel
theorem DX12_cut_14 : decode jX12_cut.2.1 14 = .ok (.ireturn, 1) := by decide +kernel
theorem DX12_cut_15 : decode jX12_cut.2.1 15 = .ok (.aload_n 0, 1) := by decide +kernel
theorem DX12_cut_16 : decode jX12_cut.2.1 16 = .ok (.getfield 65, 3) := by decide +kernel
theorem DX12_cut_19 : decode jX12_cut.2.1 19 = .ok (.iload_n 1, 1) := by decide +kernel
theorem DX12_cut_20 : decode jX12_cut.2.1 20 = .ok (.iaload, 1) := by decide +kernel
theorem DX12_cut_21 : decode jX12_cut.2.1 21 = .ok (.ifCond .ge 12, 3) := by decide +kernel
theorem DX12_cut_24 : decode jX12_cut.2.1 24 = .ok (.aload_n 0, 1) := by decide +kernel
theorem DX12_cut_25 : decode jX12_cut.2.1 25 = .ok (.bipush (-3), 2) := by decide +kernel
theorem DX12_cut_27 : decode jX12_cut.2.1 27 = .ok (.invokevirtual 120, 3) := by decide +kernel
theorem DX12_cut_30 : decode jX12_cut.2.1 30 = .ok (.goto 8, 3) := by decide +kernel
theorem DX12_cut_33 : decode jX12_cut.2.1 33 = .ok (.aload_n 0, 1) := by decide +kernel
theorem DX12_cut_34 : decode jX12_cut.2.1 34 = .ok (.iload_n 1, 1) := by decide +kernel
theorem DX12_cut_35 : decode jX12_cut.2.1 35 = .ok (.invokevirtual 194, 3) := by decide +kernel
theorem DX12_cut_38 : decode jX12_cut.2.1 38 = .ok (.ireturn, 1) := by decide +kernel
theorem DX12_bearsWith_0 : decode jX12_bearsWith.2.1 0 = .ok (.iconst (-1), 1) := by decide +kernel
theorem DX12_bearsWith_1 : decode jX12_bearsWith.2.1 1 = .ok (.istore_n 2, 1) := by decide +kernel
theorem DX12_bearsWith_2 : decode jX12_bearsWith.2.1 2 = .ok (.iconst 0, 1) := by decide +kernel
theorem DX12_bearsWith_3 : decode jX12_bearsWith.2.1 3 = .ok (.istore_n 3, 1) := by decide +kernel
theorem DX12_bearsWith_4 : decode jX12_bearsWith.2.1 4 = .ok (.bipush 99, 2) := by decide +kernel
theorem DX12_bearsWith_6 : decode jX12_bearsWith.2.1 6 = .ok (.istore 4, 2) := by decide +kernel
theorem DX12_bearsWith_8 : decode jX12_bearsWith.2.1 8 = .ok (.iconst 0, 1) := by decide +kernel
theorem DX12_bearsWith_9 : decode jX12_bearsWith.2.1 9 = .ok (.istore 5, 2) := by decide +kernel
theorem DX12_bearsWith_11 : decode jX12_bearsWith.2.1 11 = .ok (.iload 5, 2) := by decide +kernel
theorem DX12_bearsWith_13 : decode jX12_bearsWith.2.1 13 = .ok (.iconst 4, 1) := by decide +kernel
theorem DX12_bearsWith_14 : decode jX12_bearsWith.2.1 14 = .ok (.if_icmp .ge 72, 3) := by decide +kernel
theorem DX12_bearsWith_17 : decode jX12_bearsWith.2.1 17 = .ok (.aload_n 0, 1) := by decide +kernel
theorem DX12_bearsWith_18 : decode jX12_bearsWith.2.1 18 = .ok (.getfield 65, 3) := by decide +kernel
theorem DX12_bearsWith_21 : decode jX12_bearsWith.2.1 21 = .ok (.iload 5, 2) := by decide +kernel
theorem DX12_bearsWith_23 : decode jX12_bearsWith.2.1 23 = .ok (.iaload, 1) := by decide +kernel
theorem DX12_bearsWith_24 : decode jX12_bearsWith.2.1 24 = .ok (.ifCond .ge 5, 3) := by decide +kernel
theorem DX12_bearsWith_27 : decode jX12_bearsWith.2.1 27 = .ok (.iconst 0, 1) := by decide +kernel
theorem DX12_bearsWith_28 : decode jX12_bearsWith.2.1 28 = .ok (.ireturn, 1) := by decide +kernel
theorem DX12_bearsWith_29 : decode jX12_bearsWith.2.1 29 = .ok (.aload_n 0, 1) := by decide +kernel
theorem DX12_bearsWith_30 : decode jX12_bearsWith.2.1 30 = .ok (.iload 5, 2) := by decide +kernel
theorem DX12_bearsWith_32 : decode jX12_bearsWith.2.1 32 = .ok (.iload_n 1, 1) := by decide +kernel
theorem DX12_bearsWith_33 : decode jX12_bearsWith.2.1 33 = .ok (.invokevirtual 197, 3) := by decide +kernel
theorem DX12_bearsWith_36 : decode jX12_bearsWith.2.1 36 = .ok (.istore 6, 2) := by decide +kernel
theorem DX12_bearsWith_38 : decode jX12_bearsWith.2.1 38 = .ok (.iload_n 2, 1) := by decide +kernel
theorem DX12_bearsWith_39 : decode jX12_bearsWith.2.1 39 = .ok (.ifCond .ge 8, 3) := by decide +kernel
theorem DX12_bearsWith_42 : decode jX12_bearsWith.2.1 42 = .ok (.iload 6, 2) := by decide +kernel
theorem DX12_bearsWith_44 : decode jX12_bearsWith.2.1 44 = .ok (.goto 9, 3) := by decide +kernel
theorem DX12_bearsWith_47 : decode jX12_bearsWith.2.1 47 = .ok (.iload_n 2, 1) := by decide +kernel
theorem DX12_bearsWith_48 : decode jX12_bearsWith.2.1 48 = .ok (.iload 6, 2) := by decide +kernel
theorem DX12_bearsWith_50 : decode jX12_bearsWith.2.1 50 = .ok (.invokestatic 178, 3) := by decide +kernel
theorem DX12_bearsWith_53 : decode jX12_bearsWith.2.1 53 = .ok (.istore_n 2, 1) := by decide +kernel
theorem DX12_bearsWith_54 : decode jX12_bearsWith.2.1 54 = .ok (.iload_n 3, 1) := by decide +kernel
theorem DX12_bearsWith_55 : decode jX12_bearsWith.2.1 55 = .ok (.aload_n 0, 1) := by decide +kernel
theorem DX12_bearsWith_56 : decode jX12_bearsWith.2.1 56 = .ok (.getfield 68, 3) := by decide +kernel
theorem DX12_bearsWith_59 : decode jX12_bearsWith.2.1 59 = .ok (.iload 5, 2) := by decide +kernel
theorem DX12_bearsWith_61 : decode jX12_bearsWith.2.1 61 = .ok (.iaload, 1) := by decide +kernel
theorem DX12_bearsWith_62 : decode jX12_bearsWith.2.1 62 = .ok (.invokestatic 135, 3) := by decide +kernel
theorem DX12_bearsWith_65 : decode jX12_bearsWith.2.1 65 = .ok (.istore_n 3, 1) := by decide +kernel
theorem DX12_bearsWith_66 : decode jX12_bearsWith.2.1 66 = .ok (.iload 4, 2) := by decide +kernel
theorem DX12_bearsWith_68 : decode jX12_bearsWith.2.1 68 = .ok (.aload_n 0, 1) := by decide +kernel
theorem DX12_bearsWith_69 : decode jX12_bearsWith.2.1 69 = .ok (.getfield 68, 3) := by decide +kernel
theorem DX12_bearsWith_72 : decode jX12_bearsWith.2.1 72 = .ok (.iload 5, 2) := by decide +kernel
theorem DX12_bearsWith_74 : decode jX12_bearsWith.2.1 74 = .ok (.iaload, 1) := by decide +kernel
theorem DX12_bearsWith_75 : decode jX12_bearsWith.2.1 75 = .ok (.invokestatic 178, 3) := by decide +kernel
theorem DX12_bearsWith_78 : decode jX12_bearsWith.2.1 78 = .ok (.istore 4, 2) := by decide +kernel
theorem DX12_bearsWith_80 : decode jX12_bearsWith.2.1 80 = .ok (.iinc 5 1, 3) := by decide +kernel
theorem DX12_bearsWith_83 : decode jX12_bearsWith.2.1 83 = .ok (.goto (-72), 3) := by decide +kernel
theorem DX12_bearsWith_86 : decode jX12_bearsWith.2.1 86 = .ok (.iconst 0, 1) := by decide +kernel
theorem DX12_bearsWith_87 : decode jX12_bearsWith.2.1 87 = .ok (.iconst 4, 1) := by decide +kernel
theorem DX12_bearsWith_88 : decode jX12_bearsWith.2.1 88 = .ok (.iload_n 2, 1) := by decide +kernel
theorem DX12_bearsWith_89 : decode jX12_bearsWith.2.1 89 = .ok (.imul, 1) := by decide +kernel
theorem DX12_bearsWith_90 : decode jX12_bearsWith.2.1 90 = .ok (.iload_n 3, 1) := by decide +kernel
theorem DX12_bearsWith_91 : decode jX12_bearsWith.2.1 91 = .ok (.iload 4, 2) := by decide +kernel
theorem DX12_bearsWith_93 : decode jX12_bearsWith.2.1 93 = .ok (.isub, 1) := by decide +kernel
theorem DX12_bearsWith_94 : decode jX12_bearsWith.2.1 94 = .ok (.isub, 1) := by decide +kernel
theorem DX12_bearsWith_95 : decode jX12_bearsWith.2.1 95 = .ok (.invokestatic 135, 3) := by decide +kernel
theorem DX12_bearsWith_98 : decode jX12_bearsWith.2.1 98 = .ok (.ireturn, 1) := by decide +kernel
theorem DX12_bears_0 : decode jX12_bears.2.1 0 = .ok (.aload_n 0, 1) := by decide +kernel
theorem DX12_bears_1 : decode jX12_bears.2.1 1 = .ok (.iconst 0, 1) := by decide +kernel
theorem DX12_bears_2 : decode jX12_bears.2.1 2 = .ok (.invokevirtual 200, 3) := by decide +kernel
theorem DX12_bears_5 : decode jX12_bears.2.1 5 = .ok (.ireturn, 1) := by decide +kernel
theorem DX12_breaks_0 : decode jX12_breaks.2.1 0 = .ok (.aload_n 0, 1) := by decide +kernel
theorem DX12_breaks_1 : decode jX12_breaks.2.1 1 = .ok (.iload_n 1, 1) := by decide +kernel
theorem DX12_breaks_2 : decode jX12_breaks.2.1 2 = .ok (.invokevirtual 194, 3) := by decide +kernel
theorem DX12_breaks_5 : decode jX12_breaks.2.1 5 = .ok (.istore_n 2, 1) := by decide +kernel
theorem DX12_breaks_6 : decode jX12_breaks.2.1 6 = .ok (.aload_n 0, 1) := by decide +kernel
theorem DX12_breaks_7 : decode jX12_breaks.2.1 7 = .ok (.getfield 213, 3) := by decide +kernel
theorem DX12_breaks_10 : decode jX12_breaks.2.1 10 = .ok (.bipush 40, 2) := by decide +kernel
theorem DX12_breaks_12 : decode jX12_breaks.2.1 12 = .ok (.if_icmp .ne 4, 3) := by decide +kernel
theorem DX12_breaks_15 : decode jX12_breaks.2.1 15 = .ok (.return_, 1) := by decide +kernel
theorem DX12_breaks_16 : decode jX12_breaks.2.1 16 = .ok (.aload_n 0, 1) := by decide +kernel
theorem DX12_breaks_17 : decode jX12_breaks.2.1 17 = .ok (.getfield 77, 3) := by decide +kernel
theorem DX12_breaks_20 : decode jX12_breaks.2.1 20 = .ok (.iconst 3, 1) := by decide +kernel
theorem DX12_breaks_21 : decode jX12_breaks.2.1 21 = .ok (.aload_n 0, 1) := by decide +kernel
theorem DX12_breaks_22 : decode jX12_breaks.2.1 22 = .ok (.getfield 213, 3) := by decide +kernel
theorem DX12_breaks_25 : decode jX12_breaks.2.1 25 = .ok (.imul, 1) := by decide +kernel
theorem DX12_breaks_26 : decode jX12_breaks.2.1 26 = .ok (.iload_n 2, 1) := by decide +kernel
theorem DX12_breaks_27 : decode jX12_breaks.2.1 27 = .ok (.iastore, 1) := by decide +kernel
theorem DX12_breaks_28 : decode jX12_breaks.2.1 28 = .ok (.aload_n 0, 1) := by decide +kernel
theorem DX12_breaks_29 : decode jX12_breaks.2.1 29 = .ok (.getfield 77, 3) := by decide +kernel
theorem DX12_breaks_32 : decode jX12_breaks.2.1 32 = .ok (.iconst 3, 1) := by decide +kernel
theorem DX12_breaks_33 : decode jX12_breaks.2.1 33 = .ok (.aload_n 0, 1) := by decide +kernel
theorem DX12_breaks_34 : decode jX12_breaks.2.1 34 = .ok (.getfield 213, 3) := by decide +kernel
theorem DX12_breaks_37 : decode jX12_breaks.2.1 37 = .ok (.imul, 1) := by decide +kernel
theorem DX12_breaks_38 : decode jX12_breaks.2.1 38 = .ok (.iconst 1, 1) := by decide +kernel
theorem DX12_breaks_39 : decode jX12_breaks.2.1 39 = .ok (.iadd, 1) := by decide +kernel
theorem DX12_breaks_40 : decode jX12_breaks.2.1 40 = .ok (.aload_n 0, 1) := by decide +kernel
theorem DX12_breaks_41 : decode jX12_breaks.2.1 41 = .ok (.getfield 162, 3) := by decide +kernel
theorem DX12_breaks_44 : decode jX12_breaks.2.1 44 = .ok (.iastore, 1) := by decide +kernel
theorem DX12_breaks_45 : decode jX12_breaks.2.1 45 = .ok (.aload_n 0, 1) := by decide +kernel
theorem DX12_breaks_46 : decode jX12_breaks.2.1 46 = .ok (.getfield 77, 3) := by decide +kernel
theorem DX12_breaks_49 : decode jX12_breaks.2.1 49 = .ok (.iconst 3, 1) := by decide +kernel
theorem DX12_breaks_50 : decode jX12_breaks.2.1 50 = .ok (.aload_n 0, 1) := by decide +kernel
theorem DX12_breaks_51 : decode jX12_breaks.2.1 51 = .ok (.getfield 213, 3) := by decide +kernel
theorem DX12_breaks_54 : decode jX12_breaks.2.1 54 = .ok (.imul, 1) := by decide +kernel
theorem DX12_breaks_55 : decode jX12_breaks.2.1 55 = .ok (.iconst 2, 1) := by decide +kernel
theorem DX12_breaks_56 : decode jX12_breaks.2.1 56 = .ok (.iadd, 1) := by decide +kernel
theorem DX12_breaks_57 : decode jX12_breaks.2.1 57 = .ok (.aload_n 0, 1) := by decide +kernel
theorem DX12_breaks_58 : decode jX12_breaks.2.1 58 = .ok (.getfield 165, 3) := by decide +kernel
theorem DX12_breaks_61 : decode jX12_breaks.2.1 61 = .ok (.iastore, 1) := by decide +kernel
theorem DX12_breaks_62 : decode jX12_breaks.2.1 62 = .ok (.aload_n 0, 1) := by decide +kernel
theorem DX12_breaks_63 : decode jX12_breaks.2.1 63 = .ok (.dup, 1) := by decide +kernel
theorem DX12_breaks_64 : decode jX12_breaks.2.1 64 = .ok (.getfield 213, 3) := by decide +kernel
theorem DX12_breaks_67 : decode jX12_breaks.2.1 67 = .ok (.iconst 1, 1) := by decide +kernel
theorem DX12_breaks_68 : decode jX12_breaks.2.1 68 = .ok (.iadd, 1) := by decide +kernel
theorem DX12_breaks_69 : decode jX12_breaks.2.1 69 = .ok (.putfield 213, 3) := by decide +kernel
theorem DX12_breaks_72 : decode jX12_breaks.2.1 72 = .ok (.return_, 1) := by decide +kernel
theorem DX12_broken_0 : decode jX12_broken.2.1 0 = .ok (.iload_n 2, 1) := by decide +kernel
theorem DX12_broken_1 : decode jX12_broken.2.1 1 = .ok (.iconst 3, 1) := by decide +kernel
theorem DX12_broken_2 : decode jX12_broken.2.1 2 = .ok (.invokestatic 124, 3) := by decide +kernel
theorem DX12_broken_5 : decode jX12_broken.2.1 5 = .ok (.ifCond .ne 10, 3) := by decide +kernel
theorem DX12_broken_8 : decode jX12_broken.2.1 8 = .ok (.aload_n 0, 1) := by decide +kernel
theorem DX12_broken_9 : decode jX12_broken.2.1 9 = .ok (.bipush (-2), 2) := by decide +kernel
theorem DX12_broken_11 : decode jX12_broken.2.1 11 = .ok (.invokevirtual 120, 3) := by decide +kernel
theorem DX12_broken_14 : decode jX12_broken.2.1 14 = .ok (.ireturn, 1) := by decide +kernel
theorem DX12_broken_15 : decode jX12_broken.2.1 15 = .ok (.iload_n 1, 1) := by decide +kernel
theorem DX12_broken_16 : decode jX12_broken.2.1 16 = .ok (.aload_n 0, 1) := by decide +kernel
theorem DX12_broken_17 : decode jX12_broken.2.1 17 = .ok (.getfield 213, 3) := by decide +kernel
theorem DX12_broken_20 : decode jX12_broken.2.1 20 = .ok (.invokestatic 124, 3) := by decide +kernel
theorem DX12_broken_23 : decode jX12_broken.2.1 23 = .ok (.ifCond .eq 16, 3) := by decide +kernel
theorem DX12_broken_26 : decode jX12_broken.2.1 26 = .ok (.aload_n 0, 1) := by decide +kernel
theorem DX12_broken_27 : decode jX12_broken.2.1 27 = .ok (.getfield 77, 3) := by decide +kernel
theorem DX12_broken_30 : decode jX12_broken.2.1 30 = .ok (.iconst 3, 1) := by decide +kernel
theorem DX12_broken_31 : decode jX12_broken.2.1 31 = .ok (.iload_n 1, 1) := by decide +kernel
theorem DX12_broken_32 : decode jX12_broken.2.1 32 = .ok (.imul, 1) := by decide +kernel
theorem DX12_broken_33 : decode jX12_broken.2.1 33 = .ok (.iload_n 2, 1) := by decide +kernel
theorem DX12_broken_34 : decode jX12_broken.2.1 34 = .ok (.iadd, 1) := by decide +kernel
theorem DX12_broken_35 : decode jX12_broken.2.1 35 = .ok (.iaload, 1) := by decide +kernel
theorem DX12_broken_36 : decode jX12_broken.2.1 36 = .ok (.goto 5, 3) := by decide +kernel
theorem DX12_broken_39 : decode jX12_broken.2.1 39 = .ok (.bipush (-9), 2) := by decide +kernel
theorem DX12_broken_41 : decode jX12_broken.2.1 41 = .ok (.ireturn, 1) := by decide +kernel
theorem DX12_blame_0 : decode jX12_blame.2.1 0 = .ok (.iload_n 1, 1) := by decide +kernel
theorem DX12_blame_1 : decode jX12_blame.2.1 1 = .ok (.aload_n 0, 1) := by decide +kernel
theorem DX12_blame_2 : decode jX12_blame.2.1 2 = .ok (.getfield 213, 3) := by decide +kernel
theorem DX12_blame_5 : decode jX12_blame.2.1 5 = .ok (.invokestatic 124, 3) := by decide +kernel
theorem DX12_blame_8 : decode jX12_blame.2.1 8 = .ok (.ifCond .eq 11, 3) := by decide +kernel
theorem DX12_blame_11 : decode jX12_blame.2.1 11 = .ok (.aload_n 0, 1) := by decide +kernel
theorem DX12_blame_12 : decode jX12_blame.2.1 12 = .ok (.iload_n 2, 1) := by decide +kernel
theorem DX12_blame_13 : decode jX12_blame.2.1 13 = .ok (.invokevirtual 148, 3) := by decide +kernel
theorem DX12_blame_16 : decode jX12_blame.2.1 16 = .ok (.ifCond .ne 9, 3) := by decide +kernel
theorem DX12_blame_19 : decode jX12_blame.2.1 19 = .ok (.aload_n 0, 1) := by decide +kernel
theorem DX12_blame_20 : decode jX12_blame.2.1 20 = .ok (.iconst (-1), 1) := by decide +kernel
theorem DX12_blame_21 : decode jX12_blame.2.1 21 = .ok (.invokevirtual 120, 3) := by decide +kernel
theorem DX12_blame_24 : decode jX12_blame.2.1 24 = .ok (.ireturn, 1) := by decide +kernel
theorem DX12_blame_25 : decode jX12_blame.2.1 25 = .ok (.aload_n 0, 1) := by decide +kernel
theorem DX12_blame_26 : decode jX12_blame.2.1 26 = .ok (.getfield 77, 3) := by decide +kernel
theorem DX12_blame_29 : decode jX12_blame.2.1 29 = .ok (.iconst 3, 1) := by decide +kernel
theorem DX12_blame_30 : decode jX12_blame.2.1 30 = .ok (.iload_n 1, 1) := by decide +kernel
theorem DX12_blame_31 : decode jX12_blame.2.1 31 = .ok (.imul, 1) := by decide +kernel
theorem DX12_blame_32 : decode jX12_blame.2.1 32 = .ok (.iaload, 1) := by decide +kernel
theorem DX12_blame_33 : decode jX12_blame.2.1 33 = .ok (.istore_n 3, 1) := by decide +kernel
theorem DX12_blame_34 : decode jX12_blame.2.1 34 = .ok (.bipush 9, 2) := by decide +kernel
theorem DX12_blame_36 : decode jX12_blame.2.1 36 = .ok (.istore 4, 2) := by decide +kernel
theorem DX12_blame_38 : decode jX12_blame.2.1 38 = .ok (.iconst 0, 1) := by decide +kernel
theorem DX12_blame_39 : decode jX12_blame.2.1 39 = .ok (.istore 5, 2) := by decide +kernel
theorem DX12_blame_41 : decode jX12_blame.2.1 41 = .ok (.iload 5, 2) := by decide +kernel
theorem DX12_blame_43 : decode jX12_blame.2.1 43 = .ok (.bipush 9, 2) := by decide +kernel
theorem DX12_blame_45 : decode jX12_blame.2.1 45 = .ok (.if_icmp .ge 60, 3) := by decide +kernel
theorem DX12_blame_48 : decode jX12_blame.2.1 48 = .ok (.aload_n 0, 1) := by decide +kernel
theorem DX12_blame_49 : decode jX12_blame.2.1 49 = .ok (.getfield 83, 3) := by decide +kernel
theorem DX12_blame_52 : decode jX12_blame.2.1 52 = .ok (.iload 5, 2) := by decide +kernel
theorem DX12_blame_54 : decode jX12_blame.2.1 54 = .ok (.aload_n 0, 1) := by decide +kernel
theorem DX12_blame_55 : decode jX12_blame.2.1 55 = .ok (.getfield 56, 3) := by decide +kernel
theorem DX12_blame_58 : decode jX12_blame.2.1 58 = .ok (.iconst 3, 1) := by decide +kernel
theorem DX12_blame_59 : decode jX12_blame.2.1 59 = .ok (.aload_n 0, 1) := by decide +kernel
theorem DX12_blame_60 : decode jX12_blame.2.1 60 = .ok (.getfield 56, 3) := by decide +kernel
theorem DX12_blame_63 : decode jX12_blame.2.1 63 = .ok (.iconst 3, 1) := by decide +kernel
theorem DX12_blame_64 : decode jX12_blame.2.1 64 = .ok (.iload_n 3, 1) := by decide +kernel
theorem DX12_blame_65 : decode jX12_blame.2.1 65 = .ok (.imul, 1) := by decide +kernel
theorem DX12_blame_66 : decode jX12_blame.2.1 66 = .ok (.iload 5, 2) := by decide +kernel
theorem DX12_blame_68 : decode jX12_blame.2.1 68 = .ok (.iconst 3, 1) := by decide +kernel
theorem DX12_blame_69 : decode jX12_blame.2.1 69 = .ok (.idiv, 1) := by decide +kernel
theorem DX12_blame_70 : decode jX12_blame.2.1 70 = .ok (.iadd, 1) := by decide +kernel
theorem DX12_blame_71 : decode jX12_blame.2.1 71 = .ok (.iaload, 1) := by decide +kernel
theorem DX12_blame_72 : decode jX12_blame.2.1 72 = .ok (.imul, 1) := by decide +kernel
theorem DX12_blame_73 : decode jX12_blame.2.1 73 = .ok (.iload 5, 2) := by decide +kernel
theorem DX12_blame_75 : decode jX12_blame.2.1 75 = .ok (.iconst 3, 1) := by decide +kernel
theorem DX12_blame_76 : decode jX12_blame.2.1 76 = .ok (.irem, 1) := by decide +kernel
theorem DX12_blame_77 : decode jX12_blame.2.1 77 = .ok (.iadd, 1) := by decide +kernel
theorem DX12_blame_78 : decode jX12_blame.2.1 78 = .ok (.iaload, 1) := by decide +kernel
theorem DX12_blame_79 : decode jX12_blame.2.1 79 = .ok (.iastore, 1) := by decide +kernel
theorem DX12_blame_80 : decode jX12_blame.2.1 80 = .ok (.iload 4, 2) := by decide +kernel
theorem DX12_blame_82 : decode jX12_blame.2.1 82 = .ok (.aload_n 0, 1) := by decide +kernel
theorem DX12_blame_83 : decode jX12_blame.2.1 83 = .ok (.getfield 47, 3) := by decide +kernel
theorem DX12_blame_86 : decode jX12_blame.2.1 86 = .ok (.aload_n 0, 1) := by decide +kernel
theorem DX12_blame_87 : decode jX12_blame.2.1 87 = .ok (.getfield 83, 3) := by decide +kernel
theorem DX12_blame_90 : decode jX12_blame.2.1 90 = .ok (.iload 5, 2) := by decide +kernel
theorem DX12_blame_92 : decode jX12_blame.2.1 92 = .ok (.iaload, 1) := by decide +kernel
theorem DX12_blame_93 : decode jX12_blame.2.1 93 = .ok (.iaload, 1) := by decide +kernel
theorem DX12_blame_94 : decode jX12_blame.2.1 94 = .ok (.invokestatic 178, 3) := by decide +kernel
theorem DX12_blame_97 : decode jX12_blame.2.1 97 = .ok (.istore 4, 2) := by decide +kernel
theorem DX12_blame_99 : decode jX12_blame.2.1 99 = .ok (.iinc 5 1, 3) := by decide +kernel
theorem DX12_blame_102 : decode jX12_blame.2.1 102 = .ok (.goto (-61), 3) := by decide +kernel
theorem DX12_blame_105 : decode jX12_blame.2.1 105 = .ok (.iconst 0, 1) := by decide +kernel
theorem DX12_blame_106 : decode jX12_blame.2.1 106 = .ok (.istore 5, 2) := by decide +kernel
theorem DX12_blame_108 : decode jX12_blame.2.1 108 = .ok (.iconst 0, 1) := by decide +kernel
theorem DX12_blame_109 : decode jX12_blame.2.1 109 = .ok (.istore 6, 2) := by decide +kernel
theorem DX12_blame_111 : decode jX12_blame.2.1 111 = .ok (.iload 6, 2) := by decide +kernel
theorem DX12_blame_113 : decode jX12_blame.2.1 113 = .ok (.bipush 9, 2) := by decide +kernel
theorem DX12_blame_115 : decode jX12_blame.2.1 115 = .ok (.if_icmp .ge 94, 3) := by decide +kernel
theorem DX12_blame_118 : decode jX12_blame.2.1 118 = .ok (.iconst 0, 1) := by decide +kernel
theorem DX12_blame_119 : decode jX12_blame.2.1 119 = .ok (.istore 7, 2) := by decide +kernel
theorem DX12_blame_121 : decode jX12_blame.2.1 121 = .ok (.iload 7, 2) := by decide +kernel
theorem DX12_blame_123 : decode jX12_blame.2.1 123 = .ok (.iconst 3, 1) := by decide +kernel
theorem DX12_blame_124 : decode jX12_blame.2.1 124 = .ok (.if_icmp .ge 79, 3) := by decide +kernel
theorem DX12_blame_127 : decode jX12_blame.2.1 127 = .ok (.iload 5, 2) := by decide +kernel
theorem DX12_blame_129 : decode jX12_blame.2.1 129 = .ok (.aload_n 0, 1) := by decide +kernel
theorem DX12_blame_130 : decode jX12_blame.2.1 130 = .ok (.getfield 47, 3) := by decide +kernel
theorem DX12_blame_133 : decode jX12_blame.2.1 133 = .ok (.aload_n 0, 1) := by decide +kernel
theorem DX12_blame_134 : decode jX12_blame.2.1 134 = .ok (.getfield 83, 3) := by decide +kernel
theorem DX12_blame_137 : decode jX12_blame.2.1 137 = .ok (.iload 6, 2) := by decide +kernel
theorem DX12_blame_139 : decode jX12_blame.2.1 139 = .ok (.iaload, 1) := by decide +kernel
theorem DX12_blame_140 : decode jX12_blame.2.1 140 = .ok (.iaload, 1) := by decide +kernel
theorem DX12_blame_141 : decode jX12_blame.2.1 141 = .ok (.iload 4, 2) := by decide +kernel
theorem DX12_blame_143 : decode jX12_blame.2.1 143 = .ok (.if_icmp .ne 50, 3) := by decide +kernel
theorem DX12_blame_146 : decode jX12_blame.2.1 146 = .ok (.aload_n 0, 1) := by decide +kernel
theorem DX12_blame_147 : decode jX12_blame.2.1 147 = .ok (.getfield 56, 3) := by decide +kernel
theorem DX12_blame_150 : decode jX12_blame.2.1 150 = .ok (.iconst 3, 1) := by decide +kernel
theorem DX12_blame_151 : decode jX12_blame.2.1 151 = .ok (.aload_n 0, 1) := by decide +kernel
theorem DX12_blame_152 : decode jX12_blame.2.1 152 = .ok (.getfield 83, 3) := by decide +kernel
theorem DX12_blame_155 : decode jX12_blame.2.1 155 = .ok (.iload 6, 2) := by decide +kernel
theorem DX12_blame_157 : decode jX12_blame.2.1 157 = .ok (.iaload, 1) := by decide +kernel
theorem DX12_blame_158 : decode jX12_blame.2.1 158 = .ok (.imul, 1) := by decide +kernel
theorem DX12_blame_159 : decode jX12_blame.2.1 159 = .ok (.iload 7, 2) := by decide +kernel
theorem DX12_blame_161 : decode jX12_blame.2.1 161 = .ok (.iadd, 1) := by decide +kernel
theorem DX12_blame_162 : decode jX12_blame.2.1 162 = .ok (.iaload, 1) := by decide +kernel
theorem DX12_blame_163 : decode jX12_blame.2.1 163 = .ok (.iload_n 2, 1) := by decide +kernel
theorem DX12_blame_164 : decode jX12_blame.2.1 164 = .ok (.if_icmp .ne 29, 3) := by decide +kernel
theorem DX12_blame_167 : decode jX12_blame.2.1 167 = .ok (.aload_n 0, 1) := by decide +kernel
theorem DX12_blame_168 : decode jX12_blame.2.1 168 = .ok (.getfield 59, 3) := by decide +kernel
theorem DX12_blame_171 : decode jX12_blame.2.1 171 = .ok (.iconst 3, 1) := by decide +kernel
theorem DX12_blame_172 : decode jX12_blame.2.1 172 = .ok (.aload_n 0, 1) := by decide +kernel
theorem DX12_blame_173 : decode jX12_blame.2.1 173 = .ok (.getfield 83, 3) := by decide +kernel
theorem DX12_blame_176 : decode jX12_blame.2.1 176 = .ok (.iload 6, 2) := by decide +kernel
theorem DX12_blame_178 : decode jX12_blame.2.1 178 = .ok (.iaload, 1) := by decide +kernel
theorem DX12_blame_179 : decode jX12_blame.2.1 179 = .ok (.imul, 1) := by decide +kernel
theorem DX12_blame_180 : decode jX12_blame.2.1 180 = .ok (.iload 7, 2) := by decide +kernel
theorem DX12_blame_182 : decode jX12_blame.2.1 182 = .ok (.iadd, 1) := by decide +kernel
theorem DX12_blame_183 : decode jX12_blame.2.1 183 = .ok (.iaload, 1) := by decide +kernel
theorem DX12_blame_184 : decode jX12_blame.2.1 184 = .ok (.iload 4, 2) := by decide +kernel
theorem DX12_blame_186 : decode jX12_blame.2.1 186 = .ok (.if_icmp .ne 7, 3) := by decide +kernel
theorem DX12_blame_189 : decode jX12_blame.2.1 189 = .ok (.iconst 1, 1) := by decide +kernel
theorem DX12_blame_190 : decode jX12_blame.2.1 190 = .ok (.goto 4, 3) := by decide +kernel
theorem DX12_blame_193 : decode jX12_blame.2.1 193 = .ok (.iconst 0, 1) := by decide +kernel
theorem DX12_blame_194 : decode jX12_blame.2.1 194 = .ok (.iadd, 1) := by decide +kernel
theorem DX12_blame_195 : decode jX12_blame.2.1 195 = .ok (.istore 5, 2) := by decide +kernel
theorem DX12_blame_197 : decode jX12_blame.2.1 197 = .ok (.iinc 7 1, 3) := by decide +kernel
theorem DX12_blame_200 : decode jX12_blame.2.1 200 = .ok (.goto (-79), 3) := by decide +kernel
theorem DX12_blame_203 : decode jX12_blame.2.1 203 = .ok (.iinc 6 1, 3) := by decide +kernel
theorem DX12_blame_206 : decode jX12_blame.2.1 206 = .ok (.goto (-95), 3) := by decide +kernel
theorem DX12_blame_209 : decode jX12_blame.2.1 209 = .ok (.iload 5, 2) := by decide +kernel
theorem DX12_blame_211 : decode jX12_blame.2.1 211 = .ok (.ireturn, 1) := by decide +kernel
theorem DX12_clear_0 : decode jX12_clear.2.1 0 = .ok (.aload_n 0, 1) := by decide +kernel
theorem DX12_clear_1 : decode jX12_clear.2.1 1 = .ok (.getfield 216, 3) := by decide +kernel
theorem DX12_clear_4 : decode jX12_clear.2.1 4 = .ok (.istore_n 1, 1) := by decide +kernel
theorem DX12_clear_5 : decode jX12_clear.2.1 5 = .ok (.aload_n 0, 1) := by decide +kernel
theorem DX12_clear_6 : decode jX12_clear.2.1 6 = .ok (.iconst 0, 1) := by decide +kernel
theorem DX12_clear_7 : decode jX12_clear.2.1 7 = .ok (.putfield 216, 3) := by decide +kernel
theorem DX12_clear_10 : decode jX12_clear.2.1 10 = .ok (.iload_n 1, 1) := by decide +kernel
theorem DX12_clear_11 : decode jX12_clear.2.1 11 = .ok (.ireturn, 1) := by decide +kernel
theorem DX12_floors_0 : decode jX12_floors.2.1 0 = .ok (.iload_n 0, 1) := by decide +kernel
theorem DX12_floors_1 : decode jX12_floors.2.1 1 = .ok (.iconst 1, 1) := by decide +kernel
theorem DX12_floors_2 : decode jX12_floors.2.1 2 = .ok (.iand, 1) := by decide +kernel
theorem DX12_floors_3 : decode jX12_floors.2.1 3 = .ok (.iload_n 0, 1) := by decide +kernel
theorem DX12_floors_4 : decode jX12_floors.2.1 4 = .ok (.iconst 1, 1) := by decide +kernel
theorem DX12_floors_5 : decode jX12_floors.2.1 5 = .ok (.ishr, 1) := by decide +kernel
theorem DX12_floors_6 : decode jX12_floors.2.1 6 = .ok (.iconst 1, 1) := by decide +kernel
theorem DX12_floors_7 : decode jX12_floors.2.1 7 = .ok (.iand, 1) := by decide +kernel
theorem DX12_floors_8 : decode jX12_floors.2.1 8 = .ok (.iadd, 1) := by decide +kernel
theorem DX12_floors_9 : decode jX12_floors.2.1 9 = .ok (.iload_n 0, 1) := by decide +kernel
theorem DX12_floors_10 : decode jX12_floors.2.1 10 = .ok (.iconst 2, 1) := by decide +kernel
theorem DX12_floors_11 : decode jX12_floors.2.1 11 = .ok (.ishr, 1) := by decide +kernel
theorem DX12_floors_12 : decode jX12_floors.2.1 12 = .ok (.iconst 1, 1) := by decide +kernel
theorem DX12_floors_13 : decode jX12_floors.2.1 13 = .ok (.iand, 1) := by decide +kernel
theorem DX12_floors_14 : decode jX12_floors.2.1 14 = .ok (.iadd, 1) := by decide +kernel
theorem DX12_floors_15 : decode jX12_floors.2.1 15 = .ok (.iload_n 0, 1) := by decide +kernel
theorem DX12_floors_16 : decode jX12_floors.2.1 16 = .ok (.iconst 3, 1) := by decide +kernel
theorem DX12_floors_17 : decode jX12_floors.2.1 17 = .ok (.ishr, 1) := by decide +kernel
theorem DX12_floors_18 : decode jX12_floors.2.1 18 = .ok (.iconst 1, 1) := by decide +kernel
theorem DX12_floors_19 : decode jX12_floors.2.1 19 = .ok (.iand, 1) := by decide +kernel
theorem DX12_floors_20 : decode jX12_floors.2.1 20 = .ok (.iadd, 1) := by decide +kernel
theorem DX12_floors_21 : decode jX12_floors.2.1 21 = .ok (.ireturn, 1) := by decide +kernel
theorem DX12_daysOf_0 : decode jX12_daysOf.2.1 0 = .ok (.aload_n 0, 1) := by decide +kernel
theorem DX12_daysOf_1 : decode jX12_daysOf.2.1 1 = .ok (.invokevirtual 155, 3) := by decide +kernel
theorem DX12_daysOf_4 : decode jX12_daysOf.2.1 4 = .ok (.istore_n 1, 1) := by decide +kernel
theorem DX12_daysOf_5 : decode jX12_daysOf.2.1 5 = .ok (.aload_n 0, 1) := by decide +kernel
theorem DX12_daysOf_6 : decode jX12_daysOf.2.1 6 = .ok (.getfield 107, 3) := by decide +kernel
theorem DX12_daysOf_9 : decode jX12_daysOf.2.1 9 = .ok (.iconst 0, 1) := by decide +kernel
theorem DX12_daysOf_10 : decode jX12_daysOf.2.1 10 = .ok (.iconst 0, 1) := by decide +kernel
theorem DX12_daysOf_11 : decode jX12_daysOf.2.1 11 = .ok (.iastore, 1) := by decide +kernel
theorem DX12_daysOf_12 : decode jX12_daysOf.2.1 12 = .ok (.iconst 1, 1) := by decide +kernel
theorem DX12_daysOf_13 : decode jX12_daysOf.2.1 13 = .ok (.istore_n 2, 1) := by decide +kernel
theorem DX12_daysOf_14 : decode jX12_daysOf.2.1 14 = .ok (.iload_n 2, 1) := by decide +kernel
theorem DX12_daysOf_15 : decode jX12_daysOf.2.1 15 = .ok (.aload_n 0, 1) := by decide +kernel
theorem DX12_daysOf_16 : decode jX12_daysOf.2.1 16 = .ok (.getfield 216, 3) := by decide +kernel
theorem DX12_daysOf_19 : decode jX12_daysOf.2.1 19 = .ok (.if_icmp .gt 207, 3) := by decide +kernel
theorem DX12_daysOf_22 : decode jX12_daysOf.2.1 22 = .ok (.aload_n 0, 1) := by decide +kernel
theorem DX12_daysOf_23 : decode jX12_daysOf.2.1 23 = .ok (.getfield 107, 3) := by decide +kernel
theorem DX12_daysOf_26 : decode jX12_daysOf.2.1 26 = .ok (.iload_n 2, 1) := by decide +kernel
theorem DX12_daysOf_27 : decode jX12_daysOf.2.1 27 = .ok (.aload_n 0, 1) := by decide +kernel
theorem DX12_daysOf_28 : decode jX12_daysOf.2.1 28 = .ok (.getfield 107, 3) := by decide +kernel
theorem DX12_daysOf_31 : decode jX12_daysOf.2.1 31 = .ok (.iload_n 2, 1) := by decide +kernel
theorem DX12_daysOf_32 : decode jX12_daysOf.2.1 32 = .ok (.iconst 1, 1) := by decide +kernel
theorem DX12_daysOf_33 : decode jX12_daysOf.2.1 33 = .ok (.isub, 1) := by decide +kernel
theorem DX12_daysOf_34 : decode jX12_daysOf.2.1 34 = .ok (.iaload, 1) := by decide +kernel
theorem DX12_daysOf_35 : decode jX12_daysOf.2.1 35 = .ok (.aload_n 0, 1) := by decide +kernel
theorem DX12_daysOf_36 : decode jX12_daysOf.2.1 36 = .ok (.getfield 92, 3) := by decide +kernel
theorem DX12_daysOf_39 : decode jX12_daysOf.2.1 39 = .ok (.aload_n 0, 1) := by decide +kernel
theorem DX12_daysOf_40 : decode jX12_daysOf.2.1 40 = .ok (.getfield 101, 3) := by decide +kernel
theorem DX12_daysOf_43 : decode jX12_daysOf.2.1 43 = .ok (.iload_n 2, 1) := by decide +kernel
theorem DX12_daysOf_44 : decode jX12_daysOf.2.1 44 = .ok (.iconst 1, 1) := by decide +kernel
theorem DX12_daysOf_45 : decode jX12_daysOf.2.1 45 = .ok (.isub, 1) := by decide +kernel
theorem DX12_daysOf_46 : decode jX12_daysOf.2.1 46 = .ok (.iaload, 1) := by decide +kernel
theorem DX12_daysOf_47 : decode jX12_daysOf.2.1 47 = .ok (.iaload, 1) := by decide +kernel
theorem DX12_daysOf_48 : decode jX12_daysOf.2.1 48 = .ok (.iadd, 1) := by decide +kernel
theorem DX12_daysOf_49 : decode jX12_daysOf.2.1 49 = .ok (.iastore, 1) := by decide +kernel
theorem DX12_daysOf_50 : decode jX12_daysOf.2.1 50 = .ok (.iconst 0, 1) := by decide +kernel
theorem DX12_daysOf_51 : decode jX12_daysOf.2.1 51 = .ok (.istore_n 3, 1) := by decide +kernel
theorem DX12_daysOf_52 : decode jX12_daysOf.2.1 52 = .ok (.iconst 0, 1) := by decide +kernel
theorem DX12_daysOf_53 : decode jX12_daysOf.2.1 53 = .ok (.istore 4, 2) := by decide +kernel
theorem DX12_daysOf_55 : decode jX12_daysOf.2.1 55 = .ok (.iconst 1, 1) := by decide +kernel
theorem DX12_daysOf_56 : decode jX12_daysOf.2.1 56 = .ok (.istore 5, 2) := by decide +kernel
theorem DX12_daysOf_58 : decode jX12_daysOf.2.1 58 = .ok (.iload_n 2, 1) := by decide +kernel
theorem DX12_daysOf_59 : decode jX12_daysOf.2.1 59 = .ok (.iconst 1, 1) := by decide +kernel
theorem DX12_daysOf_60 : decode jX12_daysOf.2.1 60 = .ok (.isub, 1) := by decide +kernel
theorem DX12_daysOf_61 : decode jX12_daysOf.2.1 61 = .ok (.istore 6, 2) := by decide +kernel
theorem DX12_daysOf_63 : decode jX12_daysOf.2.1 63 = .ok (.iload 6, 2) := by decide +kernel
theorem DX12_daysOf_65 : decode jX12_daysOf.2.1 65 = .ok (.ifCond .lt 155, 3) := by decide +kernel
theorem DX12_daysOf_68 : decode jX12_daysOf.2.1 68 = .ok (.iload 5, 2) := by decide +kernel
theorem DX12_daysOf_70 : decode jX12_daysOf.2.1 70 = .ok (.ifCond .eq 150, 3) := by decide +kernel
theorem DX12_daysOf_73 : decode jX12_daysOf.2.1 73 = .ok (.aload_n 0, 1) := by decide +kernel
theorem DX12_daysOf_74 : decode jX12_daysOf.2.1 74 = .ok (.getfield 101, 3) := by decide +kernel
theorem DX12_daysOf_77 : decode jX12_daysOf.2.1 77 = .ok (.iload 6, 2) := by decide +kernel
theorem DX12_daysOf_79 : decode jX12_daysOf.2.1 79 = .ok (.iaload, 1) := by decide +kernel
theorem DX12_daysOf_80 : decode jX12_daysOf.2.1 80 = .ok (.istore 7, 2) := by decide +kernel
theorem DX12_daysOf_82 : decode jX12_daysOf.2.1 82 = .ok (.iload_n 3, 1) := by decide +kernel
theorem DX12_daysOf_83 : decode jX12_daysOf.2.1 83 = .ok (.aload_n 0, 1) := by decide +kernel
theorem DX12_daysOf_84 : decode jX12_daysOf.2.1 84 = .ok (.getfield 95, 3) := by decide +kernel
theorem DX12_daysOf_87 : decode jX12_daysOf.2.1 87 = .ok (.iload 7, 2) := by decide +kernel
theorem DX12_daysOf_89 : decode jX12_daysOf.2.1 89 = .ok (.iaload, 1) := by decide +kernel
theorem DX12_daysOf_90 : decode jX12_daysOf.2.1 90 = .ok (.iadd, 1) := by decide +kernel
theorem DX12_daysOf_91 : decode jX12_daysOf.2.1 91 = .ok (.istore_n 3, 1) := by decide +kernel
theorem DX12_daysOf_92 : decode jX12_daysOf.2.1 92 = .ok (.iload 4, 2) := by decide +kernel
theorem DX12_daysOf_94 : decode jX12_daysOf.2.1 94 = .ok (.aload_n 0, 1) := by decide +kernel
theorem DX12_daysOf_95 : decode jX12_daysOf.2.1 95 = .ok (.getfield 92, 3) := by decide +kernel
theorem DX12_daysOf_98 : decode jX12_daysOf.2.1 98 = .ok (.iload 7, 2) := by decide +kernel
theorem DX12_daysOf_100 : decode jX12_daysOf.2.1 100 = .ok (.iaload, 1) := by decide +kernel
theorem DX12_daysOf_101 : decode jX12_daysOf.2.1 101 = .ok (.invokestatic 135, 3) := by decide +kernel
theorem DX12_daysOf_104 : decode jX12_daysOf.2.1 104 = .ok (.istore 4, 2) := by decide +kernel
theorem DX12_daysOf_106 : decode jX12_daysOf.2.1 106 = .ok (.iload 6, 2) := by decide +kernel
theorem DX12_daysOf_108 : decode jX12_daysOf.2.1 108 = .ok (.iconst 1, 1) := by decide +kernel
theorem DX12_daysOf_109 : decode jX12_daysOf.2.1 109 = .ok (.iadd, 1) := by decide +kernel
theorem DX12_daysOf_110 : decode jX12_daysOf.2.1 110 = .ok (.istore 8, 2) := by decide +kernel
theorem DX12_daysOf_112 : decode jX12_daysOf.2.1 112 = .ok (.iload 8, 2) := by decide +kernel
theorem DX12_daysOf_114 : decode jX12_daysOf.2.1 114 = .ok (.iload_n 2, 1) := by decide +kernel
theorem DX12_daysOf_115 : decode jX12_daysOf.2.1 115 = .ok (.if_icmp .ge 41, 3) := by decide +kernel
theorem DX12_daysOf_118 : decode jX12_daysOf.2.1 118 = .ok (.iload 5, 2) := by decide +kernel
theorem DX12_daysOf_120 : decode jX12_daysOf.2.1 120 = .ok (.ifCond .eq 27, 3) := by decide +kernel
theorem DX12_daysOf_123 : decode jX12_daysOf.2.1 123 = .ok (.aload_n 0, 1) := by decide +kernel
theorem DX12_daysOf_124 : decode jX12_daysOf.2.1 124 = .ok (.getfield 98, 3) := by decide +kernel
theorem DX12_daysOf_127 : decode jX12_daysOf.2.1 127 = .ok (.aload_n 0, 1) := by decide +kernel
theorem DX12_daysOf_128 : decode jX12_daysOf.2.1 128 = .ok (.getfield 101, 3) := by decide +kernel
theorem DX12_daysOf_131 : decode jX12_daysOf.2.1 131 = .ok (.iload 8, 2) := by decide +kernel
theorem DX12_daysOf_133 : decode jX12_daysOf.2.1 133 = .ok (.iaload, 1) := by decide +kernel
theorem DX12_daysOf_134 : decode jX12_daysOf.2.1 134 = .ok (.iaload, 1) := by decide +kernel
theorem DX12_daysOf_135 : decode jX12_daysOf.2.1 135 = .ok (.iload 7, 2) := by decide +kernel
theorem DX12_daysOf_137 : decode jX12_daysOf.2.1 137 = .ok (.ishr, 1) := by decide +kernel
theorem DX12_daysOf_138 : decode jX12_daysOf.2.1 138 = .ok (.iconst 1, 1) := by decide +kernel
theorem DX12_daysOf_139 : decode jX12_daysOf.2.1 139 = .ok (.iand, 1) := by decide +kernel
theorem DX12_daysOf_140 : decode jX12_daysOf.2.1 140 = .ok (.ifCond .ne 7, 3) := by decide +kernel
theorem DX12_daysOf_143 : decode jX12_daysOf.2.1 143 = .ok (.iconst 1, 1) := by decide +kernel
theorem DX12_daysOf_144 : decode jX12_daysOf.2.1 144 = .ok (.goto 4, 3) := by decide +kernel
theorem DX12_daysOf_147 : decode jX12_daysOf.2.1 147 = .ok (.iconst 0, 1) := by decide +kernel
theorem DX12_daysOf_148 : decode jX12_daysOf.2.1 148 = .ok (.istore 5, 2) := by decide +kernel
theorem DX12_daysOf_150 : decode jX12_daysOf.2.1 150 = .ok (.iinc 8 1, 3) := by decide +kernel
theorem DX12_daysOf_153 : decode jX12_daysOf.2.1 153 = .ok (.goto (-41), 3) := by decide +kernel
theorem DX12_daysOf_156 : decode jX12_daysOf.2.1 156 = .ok (.iload 5, 2) := by decide +kernel
theorem DX12_daysOf_158 : decode jX12_daysOf.2.1 158 = .ok (.ifCond .eq 23, 3) := by decide +kernel
theorem DX12_daysOf_161 : decode jX12_daysOf.2.1 161 = .ok (.aload_n 0, 1) := by decide +kernel
theorem DX12_daysOf_162 : decode jX12_daysOf.2.1 162 = .ok (.getfield 86, 3) := by decide +kernel
theorem DX12_daysOf_165 : decode jX12_daysOf.2.1 165 = .ok (.iload 7, 2) := by decide +kernel
theorem DX12_daysOf_167 : decode jX12_daysOf.2.1 167 = .ok (.iaload, 1) := by decide +kernel
theorem DX12_daysOf_168 : decode jX12_daysOf.2.1 168 = .ok (.iconst 2, 1) := by decide +kernel
theorem DX12_daysOf_169 : decode jX12_daysOf.2.1 169 = .ok (.if_icmp .ne 12, 3) := by decide +kernel
theorem DX12_daysOf_172 : decode jX12_daysOf.2.1 172 = .ok (.iload_n 3, 1) := by decide +kernel
theorem DX12_daysOf_173 : decode jX12_daysOf.2.1 173 = .ok (.iload_n 1, 1) := by decide +kernel
theorem DX12_daysOf_174 : decode jX12_daysOf.2.1 174 = .ok (.if_icmp .gt 7, 3) := by decide +kernel
theorem DX12_daysOf_177 : decode jX12_daysOf.2.1 177 = .ok (.iconst 1, 1) := by decide +kernel
theorem DX12_daysOf_178 : decode jX12_daysOf.2.1 178 = .ok (.goto 4, 3) := by decide +kernel
theorem DX12_daysOf_181 : decode jX12_daysOf.2.1 181 = .ok (.iconst 0, 1) := by decide +kernel
theorem DX12_daysOf_182 : decode jX12_daysOf.2.1 182 = .ok (.istore 5, 2) := by decide +kernel
theorem DX12_daysOf_184 : decode jX12_daysOf.2.1 184 = .ok (.iload 5, 2) := by decide +kernel
theorem DX12_daysOf_186 : decode jX12_daysOf.2.1 186 = .ok (.ifCond .eq 28, 3) := by decide +kernel
theorem DX12_daysOf_189 : decode jX12_daysOf.2.1 189 = .ok (.aload_n 0, 1) := by decide +kernel
theorem DX12_daysOf_190 : decode jX12_daysOf.2.1 190 = .ok (.getfield 107, 3) := by decide +kernel
theorem DX12_daysOf_193 : decode jX12_daysOf.2.1 193 = .ok (.iload_n 2, 1) := by decide +kernel
theorem DX12_daysOf_194 : decode jX12_daysOf.2.1 194 = .ok (.aload_n 0, 1) := by decide +kernel
theorem DX12_daysOf_195 : decode jX12_daysOf.2.1 195 = .ok (.getfield 107, 3) := by decide +kernel
theorem DX12_daysOf_198 : decode jX12_daysOf.2.1 198 = .ok (.iload_n 2, 1) := by decide +kernel
theorem DX12_daysOf_199 : decode jX12_daysOf.2.1 199 = .ok (.iaload, 1) := by decide +kernel
theorem DX12_daysOf_200 : decode jX12_daysOf.2.1 200 = .ok (.aload_n 0, 1) := by decide +kernel
theorem DX12_daysOf_201 : decode jX12_daysOf.2.1 201 = .ok (.getfield 107, 3) := by decide +kernel
theorem DX12_daysOf_204 : decode jX12_daysOf.2.1 204 = .ok (.iload 6, 2) := by decide +kernel
theorem DX12_daysOf_206 : decode jX12_daysOf.2.1 206 = .ok (.iaload, 1) := by decide +kernel
theorem DX12_daysOf_207 : decode jX12_daysOf.2.1 207 = .ok (.iload 4, 2) := by decide +kernel
theorem DX12_daysOf_209 : decode jX12_daysOf.2.1 209 = .ok (.iadd, 1) := by decide +kernel
theorem DX12_daysOf_210 : decode jX12_daysOf.2.1 210 = .ok (.invokestatic 178, 3) := by decide +kernel
theorem DX12_daysOf_213 : decode jX12_daysOf.2.1 213 = .ok (.iastore, 1) := by decide +kernel
theorem DX12_daysOf_214 : decode jX12_daysOf.2.1 214 = .ok (.iinc 6 (-1), 3) := by decide +kernel
theorem DX12_daysOf_217 : decode jX12_daysOf.2.1 217 = .ok (.goto (-154), 3) := by decide +kernel
theorem DX12_daysOf_220 : decode jX12_daysOf.2.1 220 = .ok (.iinc 2 1, 3) := by decide +kernel
theorem DX12_daysOf_223 : decode jX12_daysOf.2.1 223 = .ok (.goto (-209), 3) := by decide +kernel
theorem DX12_daysOf_226 : decode jX12_daysOf.2.1 226 = .ok (.aload_n 0, 1) := by decide +kernel
theorem DX12_daysOf_227 : decode jX12_daysOf.2.1 227 = .ok (.getfield 107, 3) := by decide +kernel
theorem DX12_daysOf_230 : decode jX12_daysOf.2.1 230 = .ok (.aload_n 0, 1) := by decide +kernel
theorem DX12_daysOf_231 : decode jX12_daysOf.2.1 231 = .ok (.getfield 216, 3) := by decide +kernel
theorem DX12_daysOf_234 : decode jX12_daysOf.2.1 234 = .ok (.iaload, 1) := by decide +kernel
theorem DX12_daysOf_235 : decode jX12_daysOf.2.1 235 = .ok (.ireturn, 1) := by decide +kernel
theorem DX12_alive_0 : decode jX12_alive.2.1 0 = .ok (.iload_n 1, 1) := by decide +kernel
theorem DX12_alive_1 : decode jX12_alive.2.1 1 = .ok (.aload_n 0, 1) := by decide +kernel
theorem DX12_alive_2 : decode jX12_alive.2.1 2 = .ok (.getfield 235, 3) := by decide +kernel
theorem DX12_alive_5 : decode jX12_alive.2.1 5 = .ok (.invokestatic 124, 3) := by decide +kernel
theorem DX12_alive_8 : decode jX12_alive.2.1 8 = .ok (.ifCond .ne 9, 3) := by decide +kernel
theorem DX12_alive_11 : decode jX12_alive.2.1 11 = .ok (.aload_n 0, 1) := by decide +kernel
theorem DX12_alive_12 : decode jX12_alive.2.1 12 = .ok (.iconst (-1), 1) := by decide +kernel
theorem DX12_alive_13 : decode jX12_alive.2.1 13 = .ok (.invokevirtual 120, 3) := by decide +kernel
theorem DX12_alive_16 : decode jX12_alive.2.1 16 = .ok (.ireturn, 1) := by decide +kernel
theorem DX12_alive_17 : decode jX12_alive.2.1 17 = .ok (.aload_n 0, 1) := by decide +kernel
theorem DX12_alive_18 : decode jX12_alive.2.1 18 = .ok (.getfield 116, 3) := by decide +kernel
theorem DX12_alive_21 : decode jX12_alive.2.1 21 = .ok (.iload_n 1, 1) := by decide +kernel
theorem DX12_alive_22 : decode jX12_alive.2.1 22 = .ok (.baload, 1) := by decide +kernel
theorem DX12_alive_23 : decode jX12_alive.2.1 23 = .ok (.iload_n 2, 1) := by decide +kernel
theorem DX12_alive_24 : decode jX12_alive.2.1 24 = .ok (.if_icmp .ne 5, 3) := by decide +kernel
theorem DX12_alive_27 : decode jX12_alive.2.1 27 = .ok (.iconst 0, 1) := by decide +kernel
theorem DX12_alive_28 : decode jX12_alive.2.1 28 = .ok (.ireturn, 1) := by decide +kernel
theorem DX12_alive_29 : decode jX12_alive.2.1 29 = .ok (.aload_n 0, 1) := by decide +kernel
theorem DX12_alive_30 : decode jX12_alive.2.1 30 = .ok (.getfield 116, 3) := by decide +kernel
theorem DX12_alive_33 : decode jX12_alive.2.1 33 = .ok (.iload_n 1, 1) := by decide +kernel
theorem DX12_alive_34 : decode jX12_alive.2.1 34 = .ok (.iload_n 2, 1) := by decide +kernel
theorem DX12_alive_35 : decode jX12_alive.2.1 35 = .ok (.bastore, 1) := by decide +kernel
theorem DX12_alive_36 : decode jX12_alive.2.1 36 = .ok (.iconst 1, 1) := by decide +kernel
theorem DX12_alive_37 : decode jX12_alive.2.1 37 = .ok (.ireturn, 1) := by decide +kernel
theorem DX12_child_0 : decode jX12_child.2.1 0 = .ok (.bipush (-9), 2) := by decide +kernel
theorem DX12_child_2 : decode jX12_child.2.1 2 = .ok (.istore_n 3, 1) := by decide +kernel
theorem DX12_child_3 : decode jX12_child.2.1 3 = .ok (.iconst 0, 1) := by decide +kernel
theorem DX12_child_4 : decode jX12_child.2.1 4 = .ok (.istore 4, 2) := by decide +kernel
theorem DX12_child_6 : decode jX12_child.2.1 6 = .ok (.iload 4, 2) := by decide +kernel
theorem DX12_child_8 : decode jX12_child.2.1 8 = .ok (.aload_n 0, 1) := by decide +kernel
theorem DX12_child_9 : decode jX12_child.2.1 9 = .ok (.getfield 235, 3) := by decide +kernel
theorem DX12_child_12 : decode jX12_child.2.1 12 = .ok (.if_icmp .ge 54, 3) := by decide +kernel
theorem DX12_child_15 : decode jX12_child.2.1 15 = .ok (.aload_n 0, 1) := by decide +kernel
theorem DX12_child_16 : decode jX12_child.2.1 16 = .ok (.getfield 110, 3) := by decide +kernel
theorem DX12_child_19 : decode jX12_child.2.1 19 = .ok (.iload 4, 2) := by decide +kernel
theorem DX12_child_21 : decode jX12_child.2.1 21 = .ok (.iaload, 1) := by decide +kernel
theorem DX12_child_22 : decode jX12_child.2.1 22 = .ok (.iload_n 1, 1) := by decide +kernel
theorem DX12_child_23 : decode jX12_child.2.1 23 = .ok (.if_icmp .ne 37, 3) := by decide +kernel
theorem DX12_child_26 : decode jX12_child.2.1 26 = .ok (.iload_n 2, 1) := by decide +kernel
theorem DX12_child_27 : decode jX12_child.2.1 27 = .ok (.ifCond .lt 16, 3) := by decide +kernel
theorem DX12_child_30 : decode jX12_child.2.1 30 = .ok (.aload_n 0, 1) := by decide +kernel
theorem DX12_child_31 : decode jX12_child.2.1 31 = .ok (.iload_n 2, 1) := by decide +kernel
theorem DX12_child_32 : decode jX12_child.2.1 32 = .ok (.iload 4, 2) := by decide +kernel
theorem DX12_child_34 : decode jX12_child.2.1 34 = .ok (.invokevirtual 244, 3) := by decide +kernel
theorem DX12_child_37 : decode jX12_child.2.1 37 = .ok (.ifCond .ne 6, 3) := by decide +kernel
theorem DX12_child_40 : decode jX12_child.2.1 40 = .ok (.goto 20, 3) := by decide +kernel
theorem DX12_child_43 : decode jX12_child.2.1 43 = .ok (.iload_n 3, 1) := by decide +kernel
theorem DX12_child_44 : decode jX12_child.2.1 44 = .ok (.ifCond .lt 13, 3) := by decide +kernel
theorem DX12_child_47 : decode jX12_child.2.1 47 = .ok (.aload_n 0, 1) := by decide +kernel
theorem DX12_child_48 : decode jX12_child.2.1 48 = .ok (.iload 4, 2) := by decide +kernel
theorem DX12_child_50 : decode jX12_child.2.1 50 = .ok (.iload_n 3, 1) := by decide +kernel
theorem DX12_child_51 : decode jX12_child.2.1 51 = .ok (.invokevirtual 244, 3) := by decide +kernel
theorem DX12_child_54 : decode jX12_child.2.1 54 = .ok (.ifCond .eq 6, 3) := by decide +kernel
theorem DX12_child_57 : decode jX12_child.2.1 57 = .ok (.iload 4, 2) := by decide +kernel
theorem DX12_child_59 : decode jX12_child.2.1 59 = .ok (.istore_n 3, 1) := by decide +kernel
theorem DX12_child_60 : decode jX12_child.2.1 60 = .ok (.iinc 4 1, 3) := by decide +kernel
theorem DX12_child_63 : decode jX12_child.2.1 63 = .ok (.goto (-57), 3) := by decide +kernel
theorem DX12_child_66 : decode jX12_child.2.1 66 = .ok (.iload_n 3, 1) := by decide +kernel
theorem DX12_child_67 : decode jX12_child.2.1 67 = .ok (.ireturn, 1) := by decide +kernel
theorem DX12_count_0 : decode jX12_count.2.1 0 = .ok (.iload_n 1, 1) := by decide +kernel
theorem DX12_count_1 : decode jX12_count.2.1 1 = .ok (.bipush 10, 2) := by decide +kernel
theorem DX12_count_3 : decode jX12_count.2.1 3 = .ok (.if_icmp .le 19, 3) := by decide +kernel
theorem DX12_count_6 : decode jX12_count.2.1 6 = .ok (.iload_n 1, 1) := by decide +kernel
theorem DX12_count_7 : decode jX12_count.2.1 7 = .ok (.bipush 17, 2) := by decide +kernel
theorem DX12_count_9 : decode jX12_count.2.1 9 = .ok (.if_icmp .ge 13, 3) := by decide +kernel
theorem DX12_count_12 : decode jX12_count.2.1 12 = .ok (.aload_n 0, 1) := by decide +kernel
theorem DX12_count_13 : decode jX12_count.2.1 13 = .ok (.getfield 7, 3) := by decide +kernel
theorem DX12_count_16 : decode jX12_count.2.1 16 = .ok (.iload_n 1, 1) := by decide +kernel
theorem DX12_count_17 : decode jX12_count.2.1 17 = .ok (.bipush 10, 2) := by decide +kernel
theorem DX12_count_19 : decode jX12_count.2.1 19 = .ok (.isub, 1) := by decide +kernel
theorem DX12_count_20 : decode jX12_count.2.1 20 = .ok (.iaload, 1) := by decide +kernel
theorem DX12_count_21 : decode jX12_count.2.1 21 = .ok (.ireturn, 1) := by decide +kernel
theorem DX12_count_22 : decode jX12_count.2.1 22 = .ok (.iload_n 1, 1) := by decide +kernel
theorem DX12_count_23 : decode jX12_count.2.1 23 = .ok (.tableswitch 85 0 7 #[45, 50, 55, 60, 65, 70, 75, 80], 45) := by decide +kernel
theorem DX12_count_68 : decode jX12_count.2.1 68 = .ok (.aload_n 0, 1) := by decide +kernel
theorem DX12_count_69 : decode jX12_count.2.1 69 = .ok (.getfield 162, 3) := by decide +kernel
theorem DX12_count_72 : decode jX12_count.2.1 72 = .ok (.ireturn, 1) := by decide +kernel
theorem DX12_count_73 : decode jX12_count.2.1 73 = .ok (.aload_n 0, 1) := by decide +kernel
theorem DX12_count_74 : decode jX12_count.2.1 74 = .ok (.getfield 165, 3) := by decide +kernel
theorem DX12_count_77 : decode jX12_count.2.1 77 = .ok (.ireturn, 1) := by decide +kernel
theorem DX12_count_78 : decode jX12_count.2.1 78 = .ok (.aload_n 0, 1) := by decide +kernel
theorem DX12_count_79 : decode jX12_count.2.1 79 = .ok (.getfield 144, 3) := by decide +kernel
theorem DX12_count_82 : decode jX12_count.2.1 82 = .ok (.ireturn, 1) := by decide +kernel
theorem DX12_count_83 : decode jX12_count.2.1 83 = .ok (.aload_n 0, 1) := by decide +kernel
theorem DX12_count_84 : decode jX12_count.2.1 84 = .ok (.getfield 168, 3) := by decide +kernel
theorem DX12_count_87 : decode jX12_count.2.1 87 = .ok (.ireturn, 1) := by decide +kernel
theorem DX12_count_88 : decode jX12_count.2.1 88 = .ok (.aload_n 0, 1) := by decide +kernel
theorem DX12_count_89 : decode jX12_count.2.1 89 = .ok (.invokevirtual 155, 3) := by decide +kernel
theorem DX12_count_92 : decode jX12_count.2.1 92 = .ok (.ireturn, 1) := by decide +kernel
theorem DX12_count_93 : decode jX12_count.2.1 93 = .ok (.aload_n 0, 1) := by decide +kernel
theorem DX12_count_94 : decode jX12_count.2.1 94 = .ok (.getfield 213, 3) := by decide +kernel
theorem DX12_count_97 : decode jX12_count.2.1 97 = .ok (.ireturn, 1) := by decide +kernel
theorem DX12_count_98 : decode jX12_count.2.1 98 = .ok (.aload_n 0, 1) := by decide +kernel
theorem DX12_count_99 : decode jX12_count.2.1 99 = .ok (.getfield 216, 3) := by decide +kernel
theorem DX12_count_102 : decode jX12_count.2.1 102 = .ok (.ireturn, 1) := by decide +kernel
theorem DX12_count_103 : decode jX12_count.2.1 103 = .ok (.aload_n 0, 1) := by decide +kernel
theorem DX12_count_104 : decode jX12_count.2.1 104 = .ok (.getfield 235, 3) := by decide +kernel
theorem DX12_count_107 : decode jX12_count.2.1 107 = .ok (.ireturn, 1) := by decide +kernel
theorem DX12_count_108 : decode jX12_count.2.1 108 = .ok (.bipush (-9), 2) := by decide +kernel
theorem DX12_count_110 : decode jX12_count.2.1 110 = .ok (.ireturn, 1) := by decide +kernel
