theorem dX0_init_0 : decode cX0_init 0 = .ok (.aload_n 0, 1) := by decide +kernel
theorem dX0_init_1 : decode cX0_init 1 = .ok (.invokespecial 3, 3) := by decide +kernel
theorem dX0_init_4 : decode cX0_init 4 = .ok (.aload_n 0, 1) := by decide +kernel
theorem dX0_init_5 : decode cX0_init 5 = .ok (.bipush 80, 2) := by decide +kernel
theorem dX0_init_7 : decode cX0_init 7 = .ok (.newarray .int, 2) := by decide +kernel
theorem dX0_init_9 : decode cX0_init 9 = .ok (.putfield 9, 3) := by decide +kernel
theorem dX0_init_12 : decode cX0_init 12 = .ok (.aload_n 0, 1) := by decide +kernel
theorem dX0_init_13 : decode cX0_init 13 = .ok (.bipush 80, 2) := by decide +kernel
theorem dX0_init_15 : decode cX0_init 15 = .ok (.newarray .int, 2) := by decide +kernel
theorem dX0_init_17 : decode cX0_init 17 = .ok (.putfield 15, 3) := by decide +kernel
theorem dX0_init_20 : decode cX0_init 20 = .ok (.aload_n 0, 1) := by decide +kernel
theorem dX0_init_21 : decode cX0_init 21 = .ok (.bipush 80, 2) := by decide +kernel
theorem dX0_init_23 : decode cX0_init 23 = .ok (.newarray .int, 2) := by decide +kernel
theorem dX0_init_25 : decode cX0_init 25 = .ok (.putfield 18, 3) := by decide +kernel
theorem dX0_init_28 : decode cX0_init 28 = .ok (.aload_n 0, 1) := by decide +kernel
theorem dX0_init_29 : decode cX0_init 29 = .ok (.sipush 1640, 3) := by decide +kernel
theorem dX0_init_32 : decode cX0_init 32 = .ok (.newarray .int, 2) := by decide +kernel
theorem dX0_init_34 : decode cX0_init 34 = .ok (.putfield 21, 3) := by decide +kernel
theorem dX0_init_37 : decode cX0_init 37 = .ok (.aload_n 0, 1) := by decide +kernel
theorem dX0_init_38 : decode cX0_init 38 = .ok (.sipush 1640, 3) := by decide +kernel
theorem dX0_init_41 : decode cX0_init 41 = .ok (.newarray .int, 2) := by decide +kernel
theorem dX0_init_43 : decode cX0_init 43 = .ok (.putfield 24, 3) := by decide +kernel
theorem dX0_init_46 : decode cX0_init 46 = .ok (.return_, 1) := by decide +kernel
theorem dX0_measureWords_0 : decode cX0_measureWords 0 = .ok (.iconst 0, 1) := by decide +kernel
theorem dX0_measureWords_1 : decode cX0_measureWords 1 = .ok (.istore_n 2, 1) := by decide +kernel
theorem dX0_measureWords_2 : decode cX0_measureWords 2 = .ok (.iload_n 2, 1) := by decide +kernel
theorem dX0_measureWords_3 : decode cX0_measureWords 3 = .ok (.aload_n 1, 1) := by decide +kernel
theorem dX0_measureWords_4 : decode cX0_measureWords 4 = .ok (.getfield 27, 3) := by decide +kernel
theorem dX0_measureWords_7 : decode cX0_measureWords 7 = .ok (.if_icmp .ge 24, 3) := by decide +kernel
theorem dX0_measureWords_10 : decode cX0_measureWords 10 = .ok (.aload_n 0, 1) := by decide +kernel
theorem dX0_measureWords_11 : decode cX0_measureWords 11 = .ok (.getfield 9, 3) := by decide +kernel
theorem dX0_measureWords_14 : decode cX0_measureWords 14 = .ok (.iload_n 2, 1) := by decide +kernel
theorem dX0_measureWords_15 : decode cX0_measureWords 15 = .ok (.aload_n 1, 1) := by decide +kernel
theorem dX0_measureWords_16 : decode cX0_measureWords 16 = .ok (.getfield 33, 3) := by decide +kernel
theorem dX0_measureWords_19 : decode cX0_measureWords 19 = .ok (.iload_n 2, 1) := by decide +kernel
theorem dX0_measureWords_20 : decode cX0_measureWords 20 = .ok (.iaload, 1) := by decide +kernel
theorem dX0_measureWords_21 : decode cX0_measureWords 21 = .ok (.invokestatic 36, 3) := by decide +kernel
theorem dX0_measureWords_24 : decode cX0_measureWords 24 = .ok (.iastore, 1) := by decide +kernel
theorem dX0_measureWords_25 : decode cX0_measureWords 25 = .ok (.iinc 2 1, 3) := by decide +kernel
theorem dX0_measureWords_28 : decode cX0_measureWords 28 = .ok (.goto (-26), 3) := by decide +kernel
theorem dX0_measureWords_31 : decode cX0_measureWords 31 = .ok (.return_, 1) := by decide +kernel
theorem dX0_breakFirst_0 : decode cX0_breakFirst 0 = .ok (.aload_n 0, 1) := by decide +kernel
theorem dX0_breakFirst_1 : decode cX0_breakFirst 1 = .ok (.iload_n 1, 1) := by decide +kernel
theorem dX0_breakFirst_2 : decode cX0_breakFirst 2 = .ok (.putfield 40, 3) := by decide +kernel
theorem dX0_breakFirst_5 : decode cX0_breakFirst 5 = .ok (.aload_n 0, 1) := by decide +kernel
theorem dX0_breakFirst_6 : decode cX0_breakFirst 6 = .ok (.iload_n 2, 1) := by decide +kernel
theorem dX0_breakFirst_7 : decode cX0_breakFirst 7 = .ok (.putfield 43, 3) := by decide +kernel
theorem dX0_breakFirst_10 : decode cX0_breakFirst 10 = .ok (.aload_n 0, 1) := by decide +kernel
theorem dX0_breakFirst_11 : decode cX0_breakFirst 11 = .ok (.iconst 0, 1) := by decide +kernel
theorem dX0_breakFirst_12 : decode cX0_breakFirst 12 = .ok (.putfield 45, 3) := by decide +kernel
theorem dX0_breakFirst_15 : decode cX0_breakFirst 15 = .ok (.iconst 0, 1) := by decide +kernel
theorem dX0_breakFirst_16 : decode cX0_breakFirst 16 = .ok (.istore_n 3, 1) := by decide +kernel
theorem dX0_breakFirst_17 : decode cX0_breakFirst 17 = .ok (.iconst 0, 1) := by decide +kernel
theorem dX0_breakFirst_18 : decode cX0_breakFirst 18 = .ok (.istore 4, 2) := by decide +kernel
theorem dX0_breakFirst_20 : decode cX0_breakFirst 20 = .ok (.iload 4, 2) := by decide +kernel
theorem dX0_breakFirst_22 : decode cX0_breakFirst 22 = .ok (.iload_n 2, 1) := by decide +kernel
theorem dX0_breakFirst_23 : decode cX0_breakFirst 23 = .ok (.if_icmp .ge 98, 3) := by decide +kernel
theorem dX0_breakFirst_26 : decode cX0_breakFirst 26 = .ok (.aload_n 0, 1) := by decide +kernel
theorem dX0_breakFirst_27 : decode cX0_breakFirst 27 = .ok (.getfield 9, 3) := by decide +kernel
theorem dX0_breakFirst_30 : decode cX0_breakFirst 30 = .ok (.aload_n 0, 1) := by decide +kernel
theorem dX0_breakFirst_31 : decode cX0_breakFirst 31 = .ok (.getfield 40, 3) := by decide +kernel
theorem dX0_breakFirst_34 : decode cX0_breakFirst 34 = .ok (.iload 4, 2) := by decide +kernel
theorem dX0_breakFirst_36 : decode cX0_breakFirst 36 = .ok (.iadd, 1) := by decide +kernel
theorem dX0_breakFirst_37 : decode cX0_breakFirst 37 = .ok (.iaload, 1) := by decide +kernel
theorem dX0_breakFirst_38 : decode cX0_breakFirst 38 = .ok (.istore 5, 2) := by decide +kernel
theorem dX0_breakFirst_40 : decode cX0_breakFirst 40 = .ok (.aload_n 0, 1) := by decide +kernel
theorem dX0_breakFirst_41 : decode cX0_breakFirst 41 = .ok (.getfield 45, 3) := by decide +kernel
theorem dX0_breakFirst_44 : decode cX0_breakFirst 44 = .ok (.ifCond .le 48, 3) := by decide +kernel
theorem dX0_breakFirst_47 : decode cX0_breakFirst 47 = .ok (.iload_n 3, 1) := by decide +kernel
theorem dX0_breakFirst_48 : decode cX0_breakFirst 48 = .ok (.iconst 1, 1) := by decide +kernel
theorem dX0_breakFirst_49 : decode cX0_breakFirst 49 = .ok (.iadd, 1) := by decide +kernel
theorem dX0_breakFirst_50 : decode cX0_breakFirst 50 = .ok (.iload 5, 2) := by decide +kernel
theorem dX0_breakFirst_52 : decode cX0_breakFirst 52 = .ok (.iadd, 1) := by decide +kernel
theorem dX0_breakFirst_53 : decode cX0_breakFirst 53 = .ok (.aload_n 0, 1) := by decide +kernel
theorem dX0_breakFirst_54 : decode cX0_breakFirst 54 = .ok (.getfield 15, 3) := by decide +kernel
theorem dX0_breakFirst_57 : decode cX0_breakFirst 57 = .ok (.aload_n 0, 1) := by decide +kernel
theorem dX0_breakFirst_58 : decode cX0_breakFirst 58 = .ok (.getfield 45, 3) := by decide +kernel
theorem dX0_breakFirst_61 : decode cX0_breakFirst 61 = .ok (.iconst 1, 1) := by decide +kernel
theorem dX0_breakFirst_62 : decode cX0_breakFirst 62 = .ok (.isub, 1) := by decide +kernel
theorem dX0_breakFirst_63 : decode cX0_breakFirst 63 = .ok (.iaload, 1) := by decide +kernel
theorem dX0_breakFirst_64 : decode cX0_breakFirst 64 = .ok (.if_icmp .gt 28, 3) := by decide +kernel
theorem dX0_breakFirst_67 : decode cX0_breakFirst 67 = .ok (.iload_n 3, 1) := by decide +kernel
theorem dX0_breakFirst_68 : decode cX0_breakFirst 68 = .ok (.iconst 1, 1) := by decide +kernel
theorem dX0_breakFirst_69 : decode cX0_breakFirst 69 = .ok (.iload 5, 2) := by decide +kernel
theorem dX0_breakFirst_71 : decode cX0_breakFirst 71 = .ok (.iadd, 1) := by decide +kernel
theorem dX0_breakFirst_72 : decode cX0_breakFirst 72 = .ok (.iadd, 1) := by decide +kernel
theorem dX0_breakFirst_73 : decode cX0_breakFirst 73 = .ok (.istore_n 3, 1) := by decide +kernel
theorem dX0_breakFirst_74 : decode cX0_breakFirst 74 = .ok (.aload_n 0, 1) := by decide +kernel
theorem dX0_breakFirst_75 : decode cX0_breakFirst 75 = .ok (.getfield 18, 3) := by decide +kernel
theorem dX0_breakFirst_78 : decode cX0_breakFirst 78 = .ok (.aload_n 0, 1) := by decide +kernel
theorem dX0_breakFirst_79 : decode cX0_breakFirst 79 = .ok (.getfield 45, 3) := by decide +kernel
theorem dX0_breakFirst_82 : decode cX0_breakFirst 82 = .ok (.iconst 1, 1) := by decide +kernel
theorem dX0_breakFirst_83 : decode cX0_breakFirst 83 = .ok (.isub, 1) := by decide +kernel
theorem dX0_breakFirst_84 : decode cX0_breakFirst 84 = .ok (.dup2, 1) := by decide +kernel
theorem dX0_breakFirst_85 : decode cX0_breakFirst 85 = .ok (.iaload, 1) := by decide +kernel
theorem dX0_breakFirst_86 : decode cX0_breakFirst 86 = .ok (.iconst 1, 1) := by decide +kernel
theorem dX0_breakFirst_87 : decode cX0_breakFirst 87 = .ok (.iadd, 1) := by decide +kernel
theorem dX0_breakFirst_88 : decode cX0_breakFirst 88 = .ok (.iastore, 1) := by decide +kernel
theorem dX0_breakFirst_89 : decode cX0_breakFirst 89 = .ok (.goto 26, 3) := by decide +kernel
theorem dX0_breakFirst_92 : decode cX0_breakFirst 92 = .ok (.aload_n 0, 1) := by decide +kernel
theorem dX0_breakFirst_93 : decode cX0_breakFirst 93 = .ok (.getfield 18, 3) := by decide +kernel
theorem dX0_breakFirst_96 : decode cX0_breakFirst 96 = .ok (.aload_n 0, 1) := by decide +kernel
theorem dX0_breakFirst_97 : decode cX0_breakFirst 97 = .ok (.getfield 45, 3) := by decide +kernel
theorem dX0_breakFirst_100 : decode cX0_breakFirst 100 = .ok (.iconst 1, 1) := by decide +kernel
theorem dX0_breakFirst_101 : decode cX0_breakFirst 101 = .ok (.iastore, 1) := by decide +kernel
theorem dX0_breakFirst_102 : decode cX0_breakFirst 102 = .ok (.aload_n 0, 1) := by decide +kernel
theorem dX0_breakFirst_103 : decode cX0_breakFirst 103 = .ok (.dup, 1) := by decide +kernel
theorem dX0_breakFirst_104 : decode cX0_breakFirst 104 = .ok (.getfield 45, 3) := by decide +kernel
theorem dX0_breakFirst_107 : decode cX0_breakFirst 107 = .ok (.iconst 1, 1) := by decide +kernel
theorem dX0_breakFirst_108 : decode cX0_breakFirst 108 = .ok (.iadd, 1) := by decide +kernel
theorem dX0_breakFirst_109 : decode cX0_breakFirst 109 = .ok (.putfield 45, 3) := by decide +kernel
theorem dX0_breakFirst_112 : decode cX0_breakFirst 112 = .ok (.iload 5, 2) := by decide +kernel
theorem dX0_breakFirst_114 : decode cX0_breakFirst 114 = .ok (.istore_n 3, 1) := by decide +kernel
theorem dX0_breakFirst_115 : decode cX0_breakFirst 115 = .ok (.iinc 4 1, 3) := by decide +kernel
theorem dX0_breakFirst_118 : decode cX0_breakFirst 118 = .ok (.goto (-98), 3) := by decide +kernel
theorem dX0_breakFirst_121 : decode cX0_breakFirst 121 = .ok (.aload_n 0, 1) := by decide +kernel
theorem dX0_breakFirst_122 : decode cX0_breakFirst 122 = .ok (.getfield 45, 3) := by decide +kernel
theorem dX0_breakFirst_125 : decode cX0_breakFirst 125 = .ok (.ireturn, 1) := by decide +kernel
theorem dX0_breakEvenly_0 : decode cX0_breakEvenly 0 = .ok (.aload_n 0, 1) := by decide +kernel
theorem dX0_breakEvenly_1 : decode cX0_breakEvenly 1 = .ok (.getfield 43, 3) := by decide +kernel
theorem dX0_breakEvenly_4 : decode cX0_breakEvenly 4 = .ok (.aload_n 0, 1) := by decide +kernel
theorem dX0_breakEvenly_5 : decode cX0_breakEvenly 5 = .ok (.getfield 45, 3) := by decide +kernel
theorem dX0_breakEvenly_8 : decode cX0_breakEvenly 8 = .ok (.isub, 1) := by decide +kernel
theorem dX0_breakEvenly_9 : decode cX0_breakEvenly 9 = .ok (.iconst 1, 1) := by decide +kernel
theorem dX0_breakEvenly_10 : decode cX0_breakEvenly 10 = .ok (.iadd, 1) := by decide +kernel
theorem dX0_breakEvenly_11 : decode cX0_breakEvenly 11 = .ok (.istore_n 1, 1) := by decide +kernel
theorem dX0_breakEvenly_12 : decode cX0_breakEvenly 12 = .ok (.iload_n 1, 1) := by decide +kernel
theorem dX0_breakEvenly_13 : decode cX0_breakEvenly 13 = .ok (.iconst 1, 1) := by decide +kernel
theorem dX0_breakEvenly_14 : decode cX0_breakEvenly 14 = .ok (.if_icmp .lt 15, 3) := by decide +kernel
theorem dX0_breakEvenly_17 : decode cX0_breakEvenly 17 = .ok (.aload_n 0, 1) := by decide +kernel
theorem dX0_breakEvenly_18 : decode cX0_breakEvenly 18 = .ok (.getfield 45, 3) := by decide +kernel
theorem dX0_breakEvenly_21 : decode cX0_breakEvenly 21 = .ok (.iload_n 1, 1) := by decide +kernel
theorem dX0_breakEvenly_22 : decode cX0_breakEvenly 22 = .ok (.imul, 1) := by decide +kernel
theorem dX0_breakEvenly_23 : decode cX0_breakEvenly 23 = .ok (.sipush 1640, 3) := by decide +kernel
theorem dX0_breakEvenly_26 : decode cX0_breakEvenly 26 = .ok (.if_icmp .le 4, 3) := by decide +kernel
theorem dX0_breakEvenly_29 : decode cX0_breakEvenly 29 = .ok (.return_, 1) := by decide +kernel
theorem dX0_breakEvenly_30 : decode cX0_breakEvenly 30 = .ok (.iload_n 1, 1) := by decide +kernel
theorem dX0_breakEvenly_31 : decode cX0_breakEvenly 31 = .ok (.iconst 1, 1) := by decide +kernel
theorem dX0_breakEvenly_32 : decode cX0_breakEvenly 32 = .ok (.isub, 1) := by decide +kernel
theorem dX0_breakEvenly_33 : decode cX0_breakEvenly 33 = .ok (.istore_n 2, 1) := by decide +kernel
theorem dX0_breakEvenly_34 : decode cX0_breakEvenly 34 = .ok (.aload_n 0, 1) := by decide +kernel
theorem dX0_breakEvenly_35 : decode cX0_breakEvenly 35 = .ok (.getfield 45, 3) := by decide +kernel
theorem dX0_breakEvenly_38 : decode cX0_breakEvenly 38 = .ok (.iconst 1, 1) := by decide +kernel
theorem dX0_breakEvenly_39 : decode cX0_breakEvenly 39 = .ok (.isub, 1) := by decide +kernel
theorem dX0_breakEvenly_40 : decode cX0_breakEvenly 40 = .ok (.istore_n 3, 1) := by decide +kernel
theorem dX0_breakEvenly_41 : decode cX0_breakEvenly 41 = .ok (.iload_n 3, 1) := by decide +kernel
theorem dX0_breakEvenly_42 : decode cX0_breakEvenly 42 = .ok (.ifCond .lt 43, 3) := by decide +kernel
theorem dX0_breakEvenly_45 : decode cX0_breakEvenly 45 = .ok (.iload_n 2, 1) := by decide +kernel
theorem dX0_breakEvenly_46 : decode cX0_breakEvenly 46 = .ok (.aload_n 0, 1) := by decide +kernel
theorem dX0_breakEvenly_47 : decode cX0_breakEvenly 47 = .ok (.getfield 18, 3) := by decide +kernel
theorem dX0_breakEvenly_50 : decode cX0_breakEvenly 50 = .ok (.iload_n 3, 1) := by decide +kernel
theorem dX0_breakEvenly_51 : decode cX0_breakEvenly 51 = .ok (.iaload, 1) := by decide +kernel
theorem dX0_breakEvenly_52 : decode cX0_breakEvenly 52 = .ok (.iconst 1, 1) := by decide +kernel
theorem dX0_breakEvenly_53 : decode cX0_breakEvenly 53 = .ok (.isub, 1) := by decide +kernel
theorem dX0_breakEvenly_54 : decode cX0_breakEvenly 54 = .ok (.isub, 1) := by decide +kernel
theorem dX0_breakEvenly_55 : decode cX0_breakEvenly 55 = .ok (.istore_n 2, 1) := by decide +kernel
theorem dX0_breakEvenly_56 : decode cX0_breakEvenly 56 = .ok (.iconst 0, 1) := by decide +kernel
theorem dX0_breakEvenly_57 : decode cX0_breakEvenly 57 = .ok (.istore 4, 2) := by decide +kernel
theorem dX0_breakEvenly_59 : decode cX0_breakEvenly 59 = .ok (.iload 4, 2) := by decide +kernel
theorem dX0_breakEvenly_61 : decode cX0_breakEvenly 61 = .ok (.iload_n 2, 1) := by decide +kernel
theorem dX0_breakEvenly_62 : decode cX0_breakEvenly 62 = .ok (.if_icmp .gt 17, 3) := by decide +kernel
theorem dX0_breakEvenly_65 : decode cX0_breakEvenly 65 = .ok (.aload_n 0, 1) := by decide +kernel
theorem dX0_breakEvenly_66 : decode cX0_breakEvenly 66 = .ok (.iload_n 3, 1) := by decide +kernel
theorem dX0_breakEvenly_67 : decode cX0_breakEvenly 67 = .ok (.iload 4, 2) := by decide +kernel
theorem dX0_breakEvenly_69 : decode cX0_breakEvenly 69 = .ok (.iload_n 1, 1) := by decide +kernel
theorem dX0_breakEvenly_70 : decode cX0_breakEvenly 70 = .ok (.invokevirtual 48, 3) := by decide +kernel
theorem dX0_breakEvenly_73 : decode cX0_breakEvenly 73 = .ok (.iinc 4 1, 3) := by decide +kernel
theorem dX0_breakEvenly_76 : decode cX0_breakEvenly 76 = .ok (.goto (-17), 3) := by decide +kernel
theorem dX0_breakEvenly_79 : decode cX0_breakEvenly 79 = .ok (.iinc 3 (-1), 3) := by decide +kernel
theorem dX0_breakEvenly_82 : decode cX0_breakEvenly 82 = .ok (.goto (-41), 3) := by decide +kernel
theorem dX0_breakEvenly_85 : decode cX0_breakEvenly 85 = .ok (.iconst 0, 1) := by decide +kernel
theorem dX0_breakEvenly_86 : decode cX0_breakEvenly 86 = .ok (.istore_n 3, 1) := by decide +kernel
theorem dX0_breakEvenly_87 : decode cX0_breakEvenly 87 = .ok (.iconst 0, 1) := by decide +kernel
theorem dX0_breakEvenly_88 : decode cX0_breakEvenly 88 = .ok (.istore 4, 2) := by decide +kernel
theorem dX0_breakEvenly_90 : decode cX0_breakEvenly 90 = .ok (.iload 4, 2) := by decide +kernel
theorem dX0_breakEvenly_92 : decode cX0_breakEvenly 92 = .ok (.aload_n 0, 1) := by decide +kernel
theorem dX0_breakEvenly_93 : decode cX0_breakEvenly 93 = .ok (.getfield 45, 3) := by decide +kernel
theorem dX0_breakEvenly_96 : decode cX0_breakEvenly 96 = .ok (.if_icmp .ge 44, 3) := by decide +kernel
theorem dX0_breakEvenly_99 : decode cX0_breakEvenly 99 = .ok (.iload_n 3, 1) := by decide +kernel
theorem dX0_breakEvenly_100 : decode cX0_breakEvenly 100 = .ok (.iload_n 1, 1) := by decide +kernel
theorem dX0_breakEvenly_101 : decode cX0_breakEvenly 101 = .ok (.if_icmp .ge 39, 3) := by decide +kernel
theorem dX0_breakEvenly_104 : decode cX0_breakEvenly 104 = .ok (.aload_n 0, 1) := by decide +kernel
theorem dX0_breakEvenly_105 : decode cX0_breakEvenly 105 = .ok (.getfield 18, 3) := by decide +kernel
theorem dX0_breakEvenly_108 : decode cX0_breakEvenly 108 = .ok (.iload 4, 2) := by decide +kernel
theorem dX0_breakEvenly_110 : decode cX0_breakEvenly 110 = .ok (.aload_n 0, 1) := by decide +kernel
theorem dX0_breakEvenly_111 : decode cX0_breakEvenly 111 = .ok (.getfield 24, 3) := by decide +kernel
theorem dX0_breakEvenly_114 : decode cX0_breakEvenly 114 = .ok (.iload 4, 2) := by decide +kernel
theorem dX0_breakEvenly_116 : decode cX0_breakEvenly 116 = .ok (.iload_n 1, 1) := by decide +kernel
theorem dX0_breakEvenly_117 : decode cX0_breakEvenly 117 = .ok (.imul, 1) := by decide +kernel
theorem dX0_breakEvenly_118 : decode cX0_breakEvenly 118 = .ok (.iload_n 3, 1) := by decide +kernel
theorem dX0_breakEvenly_119 : decode cX0_breakEvenly 119 = .ok (.iadd, 1) := by decide +kernel
theorem dX0_breakEvenly_120 : decode cX0_breakEvenly 120 = .ok (.iaload, 1) := by decide +kernel
theorem dX0_breakEvenly_121 : decode cX0_breakEvenly 121 = .ok (.iastore, 1) := by decide +kernel
theorem dX0_breakEvenly_122 : decode cX0_breakEvenly 122 = .ok (.iload_n 3, 1) := by decide +kernel
theorem dX0_breakEvenly_123 : decode cX0_breakEvenly 123 = .ok (.aload_n 0, 1) := by decide +kernel
theorem dX0_breakEvenly_124 : decode cX0_breakEvenly 124 = .ok (.getfield 18, 3) := by decide +kernel
theorem dX0_breakEvenly_127 : decode cX0_breakEvenly 127 = .ok (.iload 4, 2) := by decide +kernel
theorem dX0_breakEvenly_129 : decode cX0_breakEvenly 129 = .ok (.iaload, 1) := by decide +kernel
theorem dX0_breakEvenly_130 : decode cX0_breakEvenly 130 = .ok (.iconst 1, 1) := by decide +kernel
theorem dX0_breakEvenly_131 : decode cX0_breakEvenly 131 = .ok (.isub, 1) := by decide +kernel
theorem dX0_breakEvenly_132 : decode cX0_breakEvenly 132 = .ok (.iadd, 1) := by decide +kernel
theorem dX0_breakEvenly_133 : decode cX0_breakEvenly 133 = .ok (.istore_n 3, 1) := by decide +kernel
theorem dX0_breakEvenly_134 : decode cX0_breakEvenly 134 = .ok (.iinc 4 1, 3) := by decide +kernel
theorem dX0_breakEvenly_137 : decode cX0_breakEvenly 137 = .ok (.goto (-47), 3) := by decide +kernel
theorem dX0_breakEvenly_140 : decode cX0_breakEvenly 140 = .ok (.return_, 1) := by decide +kernel
theorem dX0_weigh_0 : decode cX0_weigh 0 = .ok (.iload_n 1, 1) := by decide +kernel
theorem dX0_weigh_1 : decode cX0_weigh 1 = .ok (.iload_n 3, 1) := by decide +kernel
theorem dX0_weigh_2 : decode cX0_weigh 2 = .ok (.imul, 1) := by decide +kernel
theorem dX0_weigh_3 : decode cX0_weigh 3 = .ok (.iload_n 2, 1) := by decide +kernel
theorem dX0_weigh_4 : decode cX0_weigh 4 = .ok (.iadd, 1) := by decide +kernel
theorem dX0_weigh_5 : decode cX0_weigh 5 = .ok (.istore 4, 2) := by decide +kernel
theorem dX0_weigh_7 : decode cX0_weigh 7 = .ok (.iload_n 1, 1) := by decide +kernel
theorem dX0_weigh_8 : decode cX0_weigh 8 = .ok (.aload_n 0, 1) := by decide +kernel
theorem dX0_weigh_9 : decode cX0_weigh 9 = .ok (.getfield 45, 3) := by decide +kernel
theorem dX0_weigh_12 : decode cX0_weigh 12 = .ok (.iconst 1, 1) := by decide +kernel
theorem dX0_weigh_13 : decode cX0_weigh 13 = .ok (.isub, 1) := by decide +kernel
theorem dX0_weigh_14 : decode cX0_weigh 14 = .ok (.if_icmp .ne 7, 3) := by decide +kernel
theorem dX0_weigh_17 : decode cX0_weigh 17 = .ok (.iconst 1, 1) := by decide +kernel
theorem dX0_weigh_18 : decode cX0_weigh 18 = .ok (.goto 4, 3) := by decide +kernel
theorem dX0_weigh_21 : decode cX0_weigh 21 = .ok (.iconst 0, 1) := by decide +kernel
theorem dX0_weigh_22 : decode cX0_weigh 22 = .ok (.istore 5, 2) := by decide +kernel
theorem dX0_weigh_24 : decode cX0_weigh 24 = .ok (.iconst (-1), 1) := by decide +kernel
theorem dX0_weigh_25 : decode cX0_weigh 25 = .ok (.istore 6, 2) := by decide +kernel
theorem dX0_weigh_27 : decode cX0_weigh 27 = .ok (.aload_n 0, 1) := by decide +kernel
theorem dX0_weigh_28 : decode cX0_weigh 28 = .ok (.getfield 21, 3) := by decide +kernel
theorem dX0_weigh_31 : decode cX0_weigh 31 = .ok (.iload 4, 2) := by decide +kernel
theorem dX0_weigh_33 : decode cX0_weigh 33 = .ok (.ldc 52, 2) := by decide +kernel
theorem dX0_weigh_35 : decode cX0_weigh 35 = .ok (.iastore, 1) := by decide +kernel
theorem dX0_weigh_36 : decode cX0_weigh 36 = .ok (.aload_n 0, 1) := by decide +kernel
theorem dX0_weigh_37 : decode cX0_weigh 37 = .ok (.getfield 24, 3) := by decide +kernel
theorem dX0_weigh_40 : decode cX0_weigh 40 = .ok (.iload 4, 2) := by decide +kernel
theorem dX0_weigh_42 : decode cX0_weigh 42 = .ok (.iconst 1, 1) := by decide +kernel
theorem dX0_weigh_43 : decode cX0_weigh 43 = .ok (.iastore, 1) := by decide +kernel
theorem dX0_weigh_44 : decode cX0_weigh 44 = .ok (.iconst 1, 1) := by decide +kernel
theorem dX0_weigh_45 : decode cX0_weigh 45 = .ok (.istore 7, 2) := by decide +kernel
theorem dX0_weigh_47 : decode cX0_weigh 47 = .ok (.iload_n 2, 1) := by decide +kernel
theorem dX0_weigh_48 : decode cX0_weigh 48 = .ok (.iload 7, 2) := by decide +kernel
theorem dX0_weigh_50 : decode cX0_weigh 50 = .ok (.iadd, 1) := by decide +kernel
theorem dX0_weigh_51 : decode cX0_weigh 51 = .ok (.iload_n 3, 1) := by decide +kernel
theorem dX0_weigh_52 : decode cX0_weigh 52 = .ok (.if_icmp .gt 166, 3) := by decide +kernel
theorem dX0_weigh_55 : decode cX0_weigh 55 = .ok (.iload 6, 2) := by decide +kernel
theorem dX0_weigh_57 : decode cX0_weigh 57 = .ok (.iconst 1, 1) := by decide +kernel
theorem dX0_weigh_58 : decode cX0_weigh 58 = .ok (.aload_n 0, 1) := by decide +kernel
theorem dX0_weigh_59 : decode cX0_weigh 59 = .ok (.getfield 9, 3) := by decide +kernel
theorem dX0_weigh_62 : decode cX0_weigh 62 = .ok (.aload_n 0, 1) := by decide +kernel
theorem dX0_weigh_63 : decode cX0_weigh 63 = .ok (.getfield 40, 3) := by decide +kernel
theorem dX0_weigh_66 : decode cX0_weigh 66 = .ok (.iload_n 1, 1) := by decide +kernel
theorem dX0_weigh_67 : decode cX0_weigh 67 = .ok (.iadd, 1) := by decide +kernel
theorem dX0_weigh_68 : decode cX0_weigh 68 = .ok (.iload_n 2, 1) := by decide +kernel
theorem dX0_weigh_69 : decode cX0_weigh 69 = .ok (.iadd, 1) := by decide +kernel
theorem dX0_weigh_70 : decode cX0_weigh 70 = .ok (.iload 7, 2) := by decide +kernel
theorem dX0_weigh_72 : decode cX0_weigh 72 = .ok (.iadd, 1) := by decide +kernel
theorem dX0_weigh_73 : decode cX0_weigh 73 = .ok (.iconst 1, 1) := by decide +kernel
theorem dX0_weigh_74 : decode cX0_weigh 74 = .ok (.isub, 1) := by decide +kernel
theorem dX0_weigh_75 : decode cX0_weigh 75 = .ok (.iaload, 1) := by decide +kernel
theorem dX0_weigh_76 : decode cX0_weigh 76 = .ok (.iadd, 1) := by decide +kernel
theorem dX0_weigh_77 : decode cX0_weigh 77 = .ok (.iadd, 1) := by decide +kernel
theorem dX0_weigh_78 : decode cX0_weigh 78 = .ok (.istore 6, 2) := by decide +kernel
theorem dX0_weigh_80 : decode cX0_weigh 80 = .ok (.aload_n 0, 1) := by decide +kernel
theorem dX0_weigh_81 : decode cX0_weigh 81 = .ok (.getfield 15, 3) := by decide +kernel
theorem dX0_weigh_84 : decode cX0_weigh 84 = .ok (.iload_n 1, 1) := by decide +kernel
theorem dX0_weigh_85 : decode cX0_weigh 85 = .ok (.iaload, 1) := by decide +kernel
theorem dX0_weigh_86 : decode cX0_weigh 86 = .ok (.iload 6, 2) := by decide +kernel
theorem dX0_weigh_88 : decode cX0_weigh 88 = .ok (.isub, 1) := by decide +kernel
theorem dX0_weigh_89 : decode cX0_weigh 89 = .ok (.istore 8, 2) := by decide +kernel
theorem dX0_weigh_91 : decode cX0_weigh 91 = .ok (.iload 8, 2) := by decide +kernel
theorem dX0_weigh_93 : decode cX0_weigh 93 = .ok (.ifCond .ge 12, 3) := by decide +kernel
theorem dX0_weigh_96 : decode cX0_weigh 96 = .ok (.iload 7, 2) := by decide +kernel
theorem dX0_weigh_98 : decode cX0_weigh 98 = .ok (.iconst 1, 1) := by decide +kernel
theorem dX0_weigh_99 : decode cX0_weigh 99 = .ok (.if_icmp .le 6, 3) := by decide +kernel
theorem dX0_weigh_102 : decode cX0_weigh 102 = .ok (.goto 116, 3) := by decide +kernel
theorem dX0_weigh_105 : decode cX0_weigh 105 = .ok (.iload 8, 2) := by decide +kernel
theorem dX0_weigh_107 : decode cX0_weigh 107 = .ok (.ifCond .ge 8, 3) := by decide +kernel
theorem dX0_weigh_110 : decode cX0_weigh 110 = .ok (.ldc 53, 2) := by decide +kernel
theorem dX0_weigh_112 : decode cX0_weigh 112 = .ok (.goto 17, 3) := by decide +kernel
theorem dX0_weigh_115 : decode cX0_weigh 115 = .ok (.iload 5, 2) := by decide +kernel
theorem dX0_weigh_117 : decode cX0_weigh 117 = .ok (.ifCond .eq 7, 3) := by decide +kernel
theorem dX0_weigh_120 : decode cX0_weigh 120 = .ok (.iconst 0, 1) := by decide +kernel
theorem dX0_weigh_121 : decode cX0_weigh 121 = .ok (.goto 8, 3) := by decide +kernel
theorem dX0_weigh_124 : decode cX0_weigh 124 = .ok (.iload 8, 2) := by decide +kernel
theorem dX0_weigh_126 : decode cX0_weigh 126 = .ok (.iload 8, 2) := by decide +kernel
theorem dX0_weigh_128 : decode cX0_weigh 128 = .ok (.imul, 1) := by decide +kernel
theorem dX0_weigh_129 : decode cX0_weigh 129 = .ok (.istore 9, 2) := by decide +kernel
theorem dX0_weigh_131 : decode cX0_weigh 131 = .ok (.iload 5, 2) := by decide +kernel
theorem dX0_weigh_133 : decode cX0_weigh 133 = .ok (.ifCond .eq 20, 3) := by decide +kernel
theorem dX0_weigh_136 : decode cX0_weigh 136 = .ok (.iload_n 2, 1) := by decide +kernel
theorem dX0_weigh_137 : decode cX0_weigh 137 = .ok (.iload 7, 2) := by decide +kernel
theorem dX0_weigh_139 : decode cX0_weigh 139 = .ok (.iadd, 1) := by decide +kernel
theorem dX0_weigh_140 : decode cX0_weigh 140 = .ok (.iload_n 3, 1) := by decide +kernel
theorem dX0_weigh_141 : decode cX0_weigh 141 = .ok (.if_icmp .ne 7, 3) := by decide +kernel
theorem dX0_weigh_144 : decode cX0_weigh 144 = .ok (.iconst 0, 1) := by decide +kernel
theorem dX0_weigh_145 : decode cX0_weigh 145 = .ok (.goto 22, 3) := by decide +kernel
theorem dX0_weigh_148 : decode cX0_weigh 148 = .ok (.ldc 52, 2) := by decide +kernel
theorem dX0_weigh_150 : decode cX0_weigh 150 = .ok (.goto 17, 3) := by decide +kernel
theorem dX0_weigh_153 : decode cX0_weigh 153 = .ok (.aload_n 0, 1) := by decide +kernel
theorem dX0_weigh_154 : decode cX0_weigh 154 = .ok (.getfield 21, 3) := by decide +kernel
theorem dX0_weigh_157 : decode cX0_weigh 157 = .ok (.iload 4, 2) := by decide +kernel
theorem dX0_weigh_159 : decode cX0_weigh 159 = .ok (.iload_n 3, 1) := by decide +kernel
theorem dX0_weigh_160 : decode cX0_weigh 160 = .ok (.iadd, 1) := by decide +kernel
theorem dX0_weigh_161 : decode cX0_weigh 161 = .ok (.iload 7, 2) := by decide +kernel
theorem dX0_weigh_163 : decode cX0_weigh 163 = .ok (.iadd, 1) := by decide +kernel
theorem dX0_weigh_164 : decode cX0_weigh 164 = .ok (.iconst 1, 1) := by decide +kernel
theorem dX0_weigh_165 : decode cX0_weigh 165 = .ok (.isub, 1) := by decide +kernel
theorem dX0_weigh_166 : decode cX0_weigh 166 = .ok (.iaload, 1) := by decide +kernel
theorem dX0_weigh_167 : decode cX0_weigh 167 = .ok (.istore 10, 2) := by decide +kernel
theorem dX0_weigh_169 : decode cX0_weigh 169 = .ok (.iload 10, 2) := by decide +kernel
theorem dX0_weigh_171 : decode cX0_weigh 171 = .ok (.ldc 52, 2) := by decide +kernel
theorem dX0_weigh_173 : decode cX0_weigh 173 = .ok (.if_icmp .ge 39, 3) := by decide +kernel
theorem dX0_weigh_176 : decode cX0_weigh 176 = .ok (.iload 9, 2) := by decide +kernel
theorem dX0_weigh_178 : decode cX0_weigh 178 = .ok (.iload 10, 2) := by decide +kernel
theorem dX0_weigh_180 : decode cX0_weigh 180 = .ok (.iadd, 1) := by decide +kernel
theorem dX0_weigh_181 : decode cX0_weigh 181 = .ok (.aload_n 0, 1) := by decide +kernel
theorem dX0_weigh_182 : decode cX0_weigh 182 = .ok (.getfield 21, 3) := by decide +kernel
theorem dX0_weigh_185 : decode cX0_weigh 185 = .ok (.iload 4, 2) := by decide +kernel
theorem dX0_weigh_187 : decode cX0_weigh 187 = .ok (.iaload, 1) := by decide +kernel
theorem dX0_weigh_188 : decode cX0_weigh 188 = .ok (.if_icmp .gt 24, 3) := by decide +kernel
theorem dX0_weigh_191 : decode cX0_weigh 191 = .ok (.aload_n 0, 1) := by decide +kernel
theorem dX0_weigh_192 : decode cX0_weigh 192 = .ok (.getfield 21, 3) := by decide +kernel
theorem dX0_weigh_195 : decode cX0_weigh 195 = .ok (.iload 4, 2) := by decide +kernel
theorem dX0_weigh_197 : decode cX0_weigh 197 = .ok (.iload 9, 2) := by decide +kernel
theorem dX0_weigh_199 : decode cX0_weigh 199 = .ok (.iload 10, 2) := by decide +kernel
theorem dX0_weigh_201 : decode cX0_weigh 201 = .ok (.iadd, 1) := by decide +kernel
theorem dX0_weigh_202 : decode cX0_weigh 202 = .ok (.iastore, 1) := by decide +kernel
theorem dX0_weigh_203 : decode cX0_weigh 203 = .ok (.aload_n 0, 1) := by decide +kernel
theorem dX0_weigh_204 : decode cX0_weigh 204 = .ok (.getfield 24, 3) := by decide +kernel
theorem dX0_weigh_207 : decode cX0_weigh 207 = .ok (.iload 4, 2) := by decide +kernel
theorem dX0_weigh_209 : decode cX0_weigh 209 = .ok (.iload 7, 2) := by decide +kernel
theorem dX0_weigh_211 : decode cX0_weigh 211 = .ok (.iastore, 1) := by decide +kernel
theorem dX0_weigh_212 : decode cX0_weigh 212 = .ok (.iinc 7 1, 3) := by decide +kernel
theorem dX0_weigh_215 : decode cX0_weigh 215 = .ok (.goto (-168), 3) := by decide +kernel
theorem dX0_weigh_218 : decode cX0_weigh 218 = .ok (.return_, 1) := by decide +kernel
theorem dX1_init_0 : decode cX1_init 0 = .ok (.aload_n 0, 1) := by decide +kernel
theorem dX1_init_1 : decode cX1_init 1 = .ok (.invokespecial 3, 3) := by decide +kernel
theorem dX1_init_4 : decode cX1_init 4 = .ok (.aload_n 0, 1) := by decide +kernel
theorem dX1_init_5 : decode cX1_init 5 = .ok (.bipush 8, 2) := by decide +kernel
theorem dX1_init_7 : decode cX1_init 7 = .ok (.newarray .int, 2) := by decide +kernel
theorem dX1_init_9 : decode cX1_init 9 = .ok (.putfield 9, 3) := by decide +kernel
theorem dX1_init_12 : decode cX1_init 12 = .ok (.aload_n 0, 1) := by decide +kernel
theorem dX1_init_13 : decode cX1_init 13 = .ok (.bipush 8, 2) := by decide +kernel
theorem dX1_init_15 : decode cX1_init 15 = .ok (.newarray .int, 2) := by decide +kernel
theorem dX1_init_17 : decode cX1_init 17 = .ok (.putfield 15, 3) := by decide +kernel
theorem dX1_init_20 : decode cX1_init 20 = .ok (.aload_n 0, 1) := by decide +kernel
theorem dX1_init_21 : decode cX1_init 21 = .ok (.bipush 8, 2) := by decide +kernel
theorem dX1_init_23 : decode cX1_init 23 = .ok (.newarray .int, 2) := by decide +kernel
theorem dX1_init_25 : decode cX1_init 25 = .ok (.putfield 18, 3) := by decide +kernel
theorem dX1_init_28 : decode cX1_init 28 = .ok (.aload_n 0, 1) := by decide +kernel
theorem dX1_init_29 : decode cX1_init 29 = .ok (.aload_n 1, 1) := by decide +kernel
theorem dX1_init_30 : decode cX1_init 30 = .ok (.putfield 21, 3) := by decide +kernel
theorem dX1_init_33 : decode cX1_init 33 = .ok (.aload_n 0, 1) := by decide +kernel
theorem dX1_init_34 : decode cX1_init 34 = .ok (.aload_n 2, 1) := by decide +kernel
theorem dX1_init_35 : decode cX1_init 35 = .ok (.putfield 25, 3) := by decide +kernel
theorem dX1_init_38 : decode cX1_init 38 = .ok (.return_, 1) := by decide +kernel
theorem dX1_draw_0 : decode cX1_draw 0 = .ok (.aload_n 0, 1) := by decide +kernel
theorem dX1_draw_1 : decode cX1_draw 1 = .ok (.getfield 25, 3) := by decide +kernel
theorem dX1_draw_4 : decode cX1_draw 4 = .ok (.getfield 29, 3) := by decide +kernel
theorem dX1_draw_7 : decode cX1_draw 7 = .ok (.iload_n 1, 1) := by decide +kernel
theorem dX1_draw_8 : decode cX1_draw 8 = .ok (.iaload, 1) := by decide +kernel
theorem dX1_draw_9 : decode cX1_draw 9 = .ok (.istore_n 2, 1) := by decide +kernel
theorem dX1_draw_10 : decode cX1_draw 10 = .ok (.aload_n 0, 1) := by decide +kernel
theorem dX1_draw_11 : decode cX1_draw 11 = .ok (.iconst 0, 1) := by decide +kernel
theorem dX1_draw_12 : decode cX1_draw 12 = .ok (.putfield 34, 3) := by decide +kernel
theorem dX1_draw_15 : decode cX1_draw 15 = .ok (.aload_n 0, 1) := by decide +kernel
theorem dX1_draw_16 : decode cX1_draw 16 = .ok (.iconst 0, 1) := by decide +kernel
theorem dX1_draw_17 : decode cX1_draw 17 = .ok (.putfield 38, 3) := by decide +kernel
theorem dX1_draw_20 : decode cX1_draw 20 = .ok (.iload_n 2, 1) := by decide +kernel
theorem dX1_draw_21 : decode cX1_draw 21 = .ok (.ifCond .lt 27, 3) := by decide +kernel
theorem dX1_draw_24 : decode cX1_draw 24 = .ok (.iload_n 2, 1) := by decide +kernel
theorem dX1_draw_25 : decode cX1_draw 25 = .ok (.aload_n 0, 1) := by decide +kernel
theorem dX1_draw_26 : decode cX1_draw 26 = .ok (.getfield 21, 3) := by decide +kernel
theorem dX1_draw_29 : decode cX1_draw 29 = .ok (.getfield 41, 3) := by decide +kernel
theorem dX1_draw_32 : decode cX1_draw 32 = .ok (.if_icmp .ge 16, 3) := by decide +kernel
theorem dX1_draw_35 : decode cX1_draw 35 = .ok (.aload_n 0, 1) := by decide +kernel
theorem dX1_draw_36 : decode cX1_draw 36 = .ok (.getfield 21, 3) := by decide +kernel
theorem dX1_draw_39 : decode cX1_draw 39 = .ok (.getfield 46, 3) := by decide +kernel
theorem dX1_draw_42 : decode cX1_draw 42 = .ok (.iload_n 2, 1) := by decide +kernel
theorem dX1_draw_43 : decode cX1_draw 43 = .ok (.iaload, 1) := by decide +kernel
theorem dX1_draw_44 : decode cX1_draw 44 = .ok (.iconst 1, 1) := by decide +kernel
theorem dX1_draw_45 : decode cX1_draw 45 = .ok (.if_icmp .ge 4, 3) := by decide +kernel
theorem dX1_draw_48 : decode cX1_draw 48 = .ok (.return_, 1) := by decide +kernel
theorem dX1_draw_49 : decode cX1_draw 49 = .ok (.aload_n 0, 1) := by decide +kernel
theorem dX1_draw_50 : decode cX1_draw 50 = .ok (.getfield 21, 3) := by decide +kernel
theorem dX1_draw_53 : decode cX1_draw 53 = .ok (.getfield 46, 3) := by decide +kernel
theorem dX1_draw_56 : decode cX1_draw 56 = .ok (.iload_n 2, 1) := by decide +kernel
theorem dX1_draw_57 : decode cX1_draw 57 = .ok (.iaload, 1) := by decide +kernel
theorem dX1_draw_58 : decode cX1_draw 58 = .ok (.istore_n 3, 1) := by decide +kernel
theorem dX1_draw_59 : decode cX1_draw 59 = .ok (.aload_n 0, 1) := by decide +kernel
theorem dX1_draw_60 : decode cX1_draw 60 = .ok (.aload_n 0, 1) := by decide +kernel
theorem dX1_draw_61 : decode cX1_draw 61 = .ok (.getfield 25, 3) := by decide +kernel
theorem dX1_draw_64 : decode cX1_draw 64 = .ok (.getfield 49, 3) := by decide +kernel
theorem dX1_draw_67 : decode cX1_draw 67 = .ok (.iload_n 1, 1) := by decide +kernel
theorem dX1_draw_68 : decode cX1_draw 68 = .ok (.iaload, 1) := by decide +kernel
theorem dX1_draw_69 : decode cX1_draw 69 = .ok (.iconst 1, 1) := by decide +kernel
theorem dX1_draw_70 : decode cX1_draw 70 = .ok (.isub, 1) := by decide +kernel
theorem dX1_draw_71 : decode cX1_draw 71 = .ok (.aload_n 0, 1) := by decide +kernel
theorem dX1_draw_72 : decode cX1_draw 72 = .ok (.getfield 25, 3) := by decide +kernel
theorem dX1_draw_75 : decode cX1_draw 75 = .ok (.getfield 52, 3) := by decide +kernel
theorem dX1_draw_78 : decode cX1_draw 78 = .ok (.iconst 1, 1) := by decide +kernel
theorem dX1_draw_79 : decode cX1_draw 79 = .ok (.iaload, 1) := by decide +kernel
theorem dX1_draw_80 : decode cX1_draw 80 = .ok (.imul, 1) := by decide +kernel
theorem dX1_draw_81 : decode cX1_draw 81 = .ok (.aload_n 0, 1) := by decide +kernel
theorem dX1_draw_82 : decode cX1_draw 82 = .ok (.getfield 25, 3) := by decide +kernel
theorem dX1_draw_85 : decode cX1_draw 85 = .ok (.getfield 52, 3) := by decide +kernel
theorem dX1_draw_88 : decode cX1_draw 88 = .ok (.iconst 2, 1) := by decide +kernel
theorem dX1_draw_89 : decode cX1_draw 89 = .ok (.iaload, 1) := by decide +kernel
theorem dX1_draw_90 : decode cX1_draw 90 = .ok (.iadd, 1) := by decide +kernel
theorem dX1_draw_91 : decode cX1_draw 91 = .ok (.putfield 34, 3) := by decide +kernel
theorem dX1_draw_94 : decode cX1_draw 94 = .ok (.aload_n 0, 1) := by decide +kernel
theorem dX1_draw_95 : decode cX1_draw 95 = .ok (.aload_n 0, 1) := by decide +kernel
theorem dX1_draw_96 : decode cX1_draw 96 = .ok (.getfield 21, 3) := by decide +kernel
theorem dX1_draw_99 : decode cX1_draw 99 = .ok (.getfield 55, 3) := by decide +kernel
theorem dX1_draw_102 : decode cX1_draw 102 = .ok (.iload_n 2, 1) := by decide +kernel
theorem dX1_draw_103 : decode cX1_draw 103 = .ok (.iaload, 1) := by decide +kernel
theorem dX1_draw_104 : decode cX1_draw 104 = .ok (.putfield 38, 3) := by decide +kernel
theorem dX1_draw_107 : decode cX1_draw 107 = .ok (.aload_n 0, 1) := by decide +kernel
theorem dX1_draw_108 : decode cX1_draw 108 = .ok (.getfield 34, 3) := by decide +kernel
theorem dX1_draw_111 : decode cX1_draw 111 = .ok (.istore 4, 2) := by decide +kernel
theorem dX1_draw_113 : decode cX1_draw 113 = .ok (.aload_n 0, 1) := by decide +kernel
theorem dX1_draw_114 : decode cX1_draw 114 = .ok (.getfield 38, 3) := by decide +kernel
theorem dX1_draw_117 : decode cX1_draw 117 = .ok (.iconst 1, 1) := by decide +kernel
theorem dX1_draw_118 : decode cX1_draw 118 = .ok (.isub, 1) := by decide +kernel
theorem dX1_draw_119 : decode cX1_draw 119 = .ok (.istore 5, 2) := by decide +kernel
theorem dX1_draw_121 : decode cX1_draw 121 = .ok (.iload 5, 2) := by decide +kernel
theorem dX1_draw_123 : decode cX1_draw 123 = .ok (.ifCond .lt 89, 3) := by decide +kernel
theorem dX1_draw_126 : decode cX1_draw 126 = .ok (.aload_n 0, 1) := by decide +kernel
theorem dX1_draw_127 : decode cX1_draw 127 = .ok (.getfield 9, 3) := by decide +kernel
theorem dX1_draw_130 : decode cX1_draw 130 = .ok (.iload 5, 2) := by decide +kernel
theorem dX1_draw_132 : decode cX1_draw 132 = .ok (.aload_n 0, 1) := by decide +kernel
theorem dX1_draw_133 : decode cX1_draw 133 = .ok (.getfield 21, 3) := by decide +kernel
theorem dX1_draw_136 : decode cX1_draw 136 = .ok (.getfield 57, 3) := by decide +kernel
theorem dX1_draw_139 : decode cX1_draw 139 = .ok (.iload_n 2, 1) := by decide +kernel
theorem dX1_draw_140 : decode cX1_draw 140 = .ok (.bipush 8, 2) := by decide +kernel
theorem dX1_draw_142 : decode cX1_draw 142 = .ok (.imul, 1) := by decide +kernel
theorem dX1_draw_143 : decode cX1_draw 143 = .ok (.iload 5, 2) := by decide +kernel
theorem dX1_draw_145 : decode cX1_draw 145 = .ok (.iadd, 1) := by decide +kernel
theorem dX1_draw_146 : decode cX1_draw 146 = .ok (.iaload, 1) := by decide +kernel
theorem dX1_draw_147 : decode cX1_draw 147 = .ok (.aload_n 0, 1) := by decide +kernel
theorem dX1_draw_148 : decode cX1_draw 148 = .ok (.getfield 34, 3) := by decide +kernel
theorem dX1_draw_151 : decode cX1_draw 151 = .ok (.imul, 1) := by decide +kernel
theorem dX1_draw_152 : decode cX1_draw 152 = .ok (.iload_n 3, 1) := by decide +kernel
theorem dX1_draw_153 : decode cX1_draw 153 = .ok (.idiv, 1) := by decide +kernel
theorem dX1_draw_154 : decode cX1_draw 154 = .ok (.iastore, 1) := by decide +kernel
theorem dX1_draw_155 : decode cX1_draw 155 = .ok (.aload_n 0, 1) := by decide +kernel
theorem dX1_draw_156 : decode cX1_draw 156 = .ok (.getfield 15, 3) := by decide +kernel
theorem dX1_draw_159 : decode cX1_draw 159 = .ok (.iload 5, 2) := by decide +kernel
theorem dX1_draw_161 : decode cX1_draw 161 = .ok (.iload 4, 2) := by decide +kernel
theorem dX1_draw_163 : decode cX1_draw 163 = .ok (.iastore, 1) := by decide +kernel
theorem dX1_draw_164 : decode cX1_draw 164 = .ok (.aload_n 0, 1) := by decide +kernel
theorem dX1_draw_165 : decode cX1_draw 165 = .ok (.getfield 18, 3) := by decide +kernel
theorem dX1_draw_168 : decode cX1_draw 168 = .ok (.iload 5, 2) := by decide +kernel
theorem dX1_draw_170 : decode cX1_draw 170 = .ok (.aload_n 0, 1) := by decide +kernel
theorem dX1_draw_171 : decode cX1_draw 171 = .ok (.getfield 21, 3) := by decide +kernel
theorem dX1_draw_174 : decode cX1_draw 174 = .ok (.getfield 60, 3) := by decide +kernel
theorem dX1_draw_177 : decode cX1_draw 177 = .ok (.iload_n 2, 1) := by decide +kernel
theorem dX1_draw_178 : decode cX1_draw 178 = .ok (.bipush 8, 2) := by decide +kernel
theorem dX1_draw_180 : decode cX1_draw 180 = .ok (.imul, 1) := by decide +kernel
theorem dX1_draw_181 : decode cX1_draw 181 = .ok (.iload 5, 2) := by decide +kernel
theorem dX1_draw_183 : decode cX1_draw 183 = .ok (.iadd, 1) := by decide +kernel
theorem dX1_draw_184 : decode cX1_draw 184 = .ok (.iaload, 1) := by decide +kernel
theorem dX1_draw_185 : decode cX1_draw 185 = .ok (.aload_n 0, 1) := by decide +kernel
theorem dX1_draw_186 : decode cX1_draw 186 = .ok (.getfield 34, 3) := by decide +kernel
theorem dX1_draw_189 : decode cX1_draw 189 = .ok (.imul, 1) := by decide +kernel
theorem dX1_draw_190 : decode cX1_draw 190 = .ok (.iload_n 3, 1) := by decide +kernel
theorem dX1_draw_191 : decode cX1_draw 191 = .ok (.iadd, 1) := by decide +kernel
theorem dX1_draw_192 : decode cX1_draw 192 = .ok (.iconst 1, 1) := by decide +kernel
theorem dX1_draw_193 : decode cX1_draw 193 = .ok (.isub, 1) := by decide +kernel
theorem dX1_draw_194 : decode cX1_draw 194 = .ok (.iload_n 3, 1) := by decide +kernel
theorem dX1_draw_195 : decode cX1_draw 195 = .ok (.idiv, 1) := by decide +kernel
theorem dX1_draw_196 : decode cX1_draw 196 = .ok (.iastore, 1) := by decide +kernel
theorem dX1_draw_197 : decode cX1_draw 197 = .ok (.aload_n 0, 1) := by decide +kernel
theorem dX1_draw_198 : decode cX1_draw 198 = .ok (.getfield 9, 3) := by decide +kernel
theorem dX1_draw_201 : decode cX1_draw 201 = .ok (.iload 5, 2) := by decide +kernel
theorem dX1_draw_203 : decode cX1_draw 203 = .ok (.iaload, 1) := by decide +kernel
theorem dX1_draw_204 : decode cX1_draw 204 = .ok (.istore 4, 2) := by decide +kernel
theorem dX1_draw_206 : decode cX1_draw 206 = .ok (.iinc 5 (-1), 3) := by decide +kernel
theorem dX1_draw_209 : decode cX1_draw 209 = .ok (.goto (-88), 3) := by decide +kernel
theorem dX1_draw_212 : decode cX1_draw 212 = .ok (.return_, 1) := by decide +kernel
theorem dX1_reachAt_0 : decode cX1_reachAt 0 = .ok (.iload_n 1, 1) := by decide +kernel
theorem dX1_reachAt_1 : decode cX1_reachAt 1 = .ok (.ifCond .lt 9, 3) := by decide +kernel
theorem dX1_reachAt_4 : decode cX1_reachAt 4 = .ok (.iload_n 1, 1) := by decide +kernel
theorem dX1_reachAt_5 : decode cX1_reachAt 5 = .ok (.bipush 9, 2) := by decide +kernel
theorem dX1_reachAt_7 : decode cX1_reachAt 7 = .ok (.if_icmp .lt 5, 3) := by decide +kernel
theorem dX1_reachAt_10 : decode cX1_reachAt 10 = .ok (.iconst 0, 1) := by decide +kernel
theorem dX1_reachAt_11 : decode cX1_reachAt 11 = .ok (.ireturn, 1) := by decide +kernel
theorem dX1_reachAt_12 : decode cX1_reachAt 12 = .ok (.iload_n 1, 1) := by decide +kernel
theorem dX1_reachAt_13 : decode cX1_reachAt 13 = .ok (.aload_n 0, 1) := by decide +kernel
theorem dX1_reachAt_14 : decode cX1_reachAt 14 = .ok (.getfield 25, 3) := by decide +kernel
theorem dX1_reachAt_17 : decode cX1_reachAt 17 = .ok (.getfield 52, 3) := by decide +kernel
theorem dX1_reachAt_20 : decode cX1_reachAt 20 = .ok (.iconst 1, 1) := by decide +kernel
theorem dX1_reachAt_21 : decode cX1_reachAt 21 = .ok (.iaload, 1) := by decide +kernel
theorem dX1_reachAt_22 : decode cX1_reachAt 22 = .ok (.imul, 1) := by decide +kernel
theorem dX1_reachAt_23 : decode cX1_reachAt 23 = .ok (.istore_n 2, 1) := by decide +kernel
theorem dX1_reachAt_24 : decode cX1_reachAt 24 = .ok (.iload_n 2, 1) := by decide +kernel
theorem dX1_reachAt_25 : decode cX1_reachAt 25 = .ok (.aload_n 0, 1) := by decide +kernel
theorem dX1_reachAt_26 : decode cX1_reachAt 26 = .ok (.getfield 25, 3) := by decide +kernel
theorem dX1_reachAt_29 : decode cX1_reachAt 29 = .ok (.getfield 52, 3) := by decide +kernel
theorem dX1_reachAt_32 : decode cX1_reachAt 32 = .ok (.iconst 1, 1) := by decide +kernel
theorem dX1_reachAt_33 : decode cX1_reachAt 33 = .ok (.iaload, 1) := by decide +kernel
theorem dX1_reachAt_34 : decode cX1_reachAt 34 = .ok (.iadd, 1) := by decide +kernel
theorem dX1_reachAt_35 : decode cX1_reachAt 35 = .ok (.istore_n 3, 1) := by decide +kernel
theorem dX1_reachAt_36 : decode cX1_reachAt 36 = .ok (.bipush (-4), 2) := by decide +kernel
theorem dX1_reachAt_38 : decode cX1_reachAt 38 = .ok (.istore 4, 2) := by decide +kernel
theorem dX1_reachAt_40 : decode cX1_reachAt 40 = .ok (.iconst 0, 1) := by decide +kernel
theorem dX1_reachAt_41 : decode cX1_reachAt 41 = .ok (.istore 5, 2) := by decide +kernel
theorem dX1_reachAt_43 : decode cX1_reachAt 43 = .ok (.iload 5, 2) := by decide +kernel
theorem dX1_reachAt_45 : decode cX1_reachAt 45 = .ok (.aload_n 0, 1) := by decide +kernel
theorem dX1_reachAt_46 : decode cX1_reachAt 46 = .ok (.getfield 38, 3) := by decide +kernel
theorem dX1_reachAt_49 : decode cX1_reachAt 49 = .ok (.if_icmp .ge 81, 3) := by decide +kernel
theorem dX1_reachAt_52 : decode cX1_reachAt 52 = .ok (.aload_n 0, 1) := by decide +kernel
theorem dX1_reachAt_53 : decode cX1_reachAt 53 = .ok (.getfield 9, 3) := by decide +kernel
theorem dX1_reachAt_56 : decode cX1_reachAt 56 = .ok (.iload 5, 2) := by decide +kernel
theorem dX1_reachAt_58 : decode cX1_reachAt 58 = .ok (.iaload, 1) := by decide +kernel
theorem dX1_reachAt_59 : decode cX1_reachAt 59 = .ok (.aload_n 0, 1) := by decide +kernel
theorem dX1_reachAt_60 : decode cX1_reachAt 60 = .ok (.getfield 15, 3) := by decide +kernel
theorem dX1_reachAt_63 : decode cX1_reachAt 63 = .ok (.iload 5, 2) := by decide +kernel
theorem dX1_reachAt_65 : decode cX1_reachAt 65 = .ok (.iaload, 1) := by decide +kernel
theorem dX1_reachAt_66 : decode cX1_reachAt 66 = .ok (.if_icmp .ge 29, 3) := by decide +kernel
theorem dX1_reachAt_69 : decode cX1_reachAt 69 = .ok (.aload_n 0, 1) := by decide +kernel
theorem dX1_reachAt_70 : decode cX1_reachAt 70 = .ok (.getfield 9, 3) := by decide +kernel
theorem dX1_reachAt_73 : decode cX1_reachAt 73 = .ok (.iload 5, 2) := by decide +kernel
theorem dX1_reachAt_75 : decode cX1_reachAt 75 = .ok (.iaload, 1) := by decide +kernel
theorem dX1_reachAt_76 : decode cX1_reachAt 76 = .ok (.iload_n 3, 1) := by decide +kernel
theorem dX1_reachAt_77 : decode cX1_reachAt 77 = .ok (.if_icmp .ge 18, 3) := by decide +kernel
theorem dX1_reachAt_80 : decode cX1_reachAt 80 = .ok (.aload_n 0, 1) := by decide +kernel
theorem dX1_reachAt_81 : decode cX1_reachAt 81 = .ok (.getfield 15, 3) := by decide +kernel
theorem dX1_reachAt_84 : decode cX1_reachAt 84 = .ok (.iload 5, 2) := by decide +kernel
theorem dX1_reachAt_86 : decode cX1_reachAt 86 = .ok (.iaload, 1) := by decide +kernel
theorem dX1_reachAt_87 : decode cX1_reachAt 87 = .ok (.iload_n 2, 1) := by decide +kernel
theorem dX1_reachAt_88 : decode cX1_reachAt 88 = .ok (.if_icmp .le 7, 3) := by decide +kernel
theorem dX1_reachAt_91 : decode cX1_reachAt 91 = .ok (.iconst 1, 1) := by decide +kernel
theorem dX1_reachAt_92 : decode cX1_reachAt 92 = .ok (.goto 4, 3) := by decide +kernel
theorem dX1_reachAt_95 : decode cX1_reachAt 95 = .ok (.iconst 0, 1) := by decide +kernel
theorem dX1_reachAt_96 : decode cX1_reachAt 96 = .ok (.istore 6, 2) := by decide +kernel
theorem dX1_reachAt_98 : decode cX1_reachAt 98 = .ok (.iload 6, 2) := by decide +kernel
theorem dX1_reachAt_100 : decode cX1_reachAt 100 = .ok (.ifCond .eq 24, 3) := by decide +kernel
theorem dX1_reachAt_103 : decode cX1_reachAt 103 = .ok (.aload_n 0, 1) := by decide +kernel
theorem dX1_reachAt_104 : decode cX1_reachAt 104 = .ok (.getfield 18, 3) := by decide +kernel
theorem dX1_reachAt_107 : decode cX1_reachAt 107 = .ok (.iload 5, 2) := by decide +kernel
theorem dX1_reachAt_109 : decode cX1_reachAt 109 = .ok (.iaload, 1) := by decide +kernel
theorem dX1_reachAt_110 : decode cX1_reachAt 110 = .ok (.iload 4, 2) := by decide +kernel
theorem dX1_reachAt_112 : decode cX1_reachAt 112 = .ok (.if_icmp .le 12, 3) := by decide +kernel
theorem dX1_reachAt_115 : decode cX1_reachAt 115 = .ok (.aload_n 0, 1) := by decide +kernel
theorem dX1_reachAt_116 : decode cX1_reachAt 116 = .ok (.getfield 18, 3) := by decide +kernel
theorem dX1_reachAt_119 : decode cX1_reachAt 119 = .ok (.iload 5, 2) := by decide +kernel
theorem dX1_reachAt_121 : decode cX1_reachAt 121 = .ok (.iaload, 1) := by decide +kernel
theorem dX1_reachAt_122 : decode cX1_reachAt 122 = .ok (.istore 4, 2) := by decide +kernel
theorem dX1_reachAt_124 : decode cX1_reachAt 124 = .ok (.iinc 5 1, 3) := by decide +kernel
theorem dX1_reachAt_127 : decode cX1_reachAt 127 = .ok (.goto (-84), 3) := by decide +kernel
theorem dX1_reachAt_130 : decode cX1_reachAt 130 = .ok (.iload 4, 2) := by decide +kernel
theorem dX1_reachAt_132 : decode cX1_reachAt 132 = .ok (.ifCond .ge 7, 3) := by decide +kernel
theorem dX1_reachAt_135 : decode cX1_reachAt 135 = .ok (.iconst 0, 1) := by decide +kernel
theorem dX1_reachAt_136 : decode cX1_reachAt 136 = .ok (.goto 15, 3) := by decide +kernel
theorem dX1_reachAt_139 : decode cX1_reachAt 139 = .ok (.iload 4, 2) := by decide +kernel
theorem dX1_reachAt_141 : decode cX1_reachAt 141 = .ok (.aload_n 0, 1) := by decide +kernel
theorem dX1_reachAt_142 : decode cX1_reachAt 142 = .ok (.getfield 25, 3) := by decide +kernel
theorem dX1_reachAt_145 : decode cX1_reachAt 145 = .ok (.getfield 52, 3) := by decide +kernel
theorem dX1_reachAt_148 : decode cX1_reachAt 148 = .ok (.iconst 3, 1) := by decide +kernel
theorem dX1_reachAt_149 : decode cX1_reachAt 149 = .ok (.iaload, 1) := by decide +kernel
theorem dX1_reachAt_150 : decode cX1_reachAt 150 = .ok (.iadd, 1) := by decide +kernel
theorem dX1_reachAt_151 : decode cX1_reachAt 151 = .ok (.ireturn, 1) := by decide +kernel
theorem dX2_init_0 : decode cX2_init 0 = .ok (.aload_n 0, 1) := by decide +kernel
theorem dX2_init_1 : decode cX2_init 1 = .ok (.invokespecial 3, 3) := by decide +kernel
theorem dX2_init_4 : decode cX2_init 4 = .ok (.aload_n 0, 1) := by decide +kernel
theorem dX2_init_5 : decode cX2_init 5 = .ok (.bipush 8, 2) := by decide +kernel
theorem dX2_init_7 : decode cX2_init 7 = .ok (.newarray .int, 2) := by decide +kernel
theorem dX2_init_9 : decode cX2_init 9 = .ok (.putfield 9, 3) := by decide +kernel
theorem dX2_init_12 : decode cX2_init 12 = .ok (.aload_n 0, 1) := by decide +kernel
theorem dX2_init_13 : decode cX2_init 13 = .ok (.bipush 8, 2) := by decide +kernel
theorem dX2_init_15 : decode cX2_init 15 = .ok (.newarray .int, 2) := by decide +kernel
theorem dX2_init_17 : decode cX2_init 17 = .ok (.putfield 15, 3) := by decide +kernel
theorem dX2_init_20 : decode cX2_init 20 = .ok (.aload_n 0, 1) := by decide +kernel
theorem dX2_init_21 : decode cX2_init 21 = .ok (.bipush 72, 2) := by decide +kernel
theorem dX2_init_23 : decode cX2_init 23 = .ok (.newarray .int, 2) := by decide +kernel
theorem dX2_init_25 : decode cX2_init 25 = .ok (.putfield 18, 3) := by decide +kernel
theorem dX2_init_28 : decode cX2_init 28 = .ok (.aload_n 0, 1) := by decide +kernel
theorem dX2_init_29 : decode cX2_init 29 = .ok (.sipush 152, 3) := by decide +kernel
theorem dX2_init_32 : decode cX2_init 32 = .ok (.newarray .int, 2) := by decide +kernel
theorem dX2_init_34 : decode cX2_init 34 = .ok (.putfield 21, 3) := by decide +kernel
theorem dX2_init_37 : decode cX2_init 37 = .ok (.aload_n 0, 1) := by decide +kernel
theorem dX2_init_38 : decode cX2_init 38 = .ok (.sipush 152, 3) := by decide +kernel
theorem dX2_init_41 : decode cX2_init 41 = .ok (.newarray .int, 2) := by decide +kernel
theorem dX2_init_43 : decode cX2_init 43 = .ok (.putfield 24, 3) := by decide +kernel
theorem dX2_init_46 : decode cX2_init 46 = .ok (.aload_n 0, 1) := by decide +kernel
theorem dX2_init_47 : decode cX2_init 47 = .ok (.sipush 152, 3) := by decide +kernel
theorem dX2_init_50 : decode cX2_init 50 = .ok (.newarray .int, 2) := by decide +kernel
theorem dX2_init_52 : decode cX2_init 52 = .ok (.putfield 27, 3) := by decide +kernel
theorem dX2_init_55 : decode cX2_init 55 = .ok (.aload_n 0, 1) := by decide +kernel
theorem dX2_init_56 : decode cX2_init 56 = .ok (.sipush 152, 3) := by decide +kernel
theorem dX2_init_59 : decode cX2_init 59 = .ok (.newarray .int, 2) := by decide +kernel
theorem dX2_init_61 : decode cX2_init 61 = .ok (.putfield 30, 3) := by decide +kernel
theorem dX2_init_64 : decode cX2_init 64 = .ok (.aload_n 0, 1) := by decide +kernel
theorem dX2_init_65 : decode cX2_init 65 = .ok (.sipush 152, 3) := by decide +kernel
theorem dX2_init_68 : decode cX2_init 68 = .ok (.newarray .int, 2) := by decide +kernel
theorem dX2_init_70 : decode cX2_init 70 = .ok (.putfield 33, 3) := by decide +kernel
theorem dX2_init_73 : decode cX2_init 73 = .ok (.aload_n 0, 1) := by decide +kernel
theorem dX2_init_74 : decode cX2_init 74 = .ok (.sipush 152, 3) := by decide +kernel
theorem dX2_init_77 : decode cX2_init 77 = .ok (.newarray .int, 2) := by decide +kernel
theorem dX2_init_79 : decode cX2_init 79 = .ok (.putfield 36, 3) := by decide +kernel
theorem dX2_init_82 : decode cX2_init 82 = .ok (.aload_n 0, 1) := by decide +kernel
theorem dX2_init_83 : decode cX2_init 83 = .ok (.sipush 152, 3) := by decide +kernel
theorem dX2_init_86 : decode cX2_init 86 = .ok (.newarray .boolean, 2) := by decide +kernel
theorem dX2_init_88 : decode cX2_init 88 = .ok (.putfield 39, 3) := by decide +kernel
theorem dX2_init_91 : decode cX2_init 91 = .ok (.aload_n 0, 1) := by decide +kernel
theorem dX2_init_92 : decode cX2_init 92 = .ok (.aload_n 1, 1) := by decide +kernel
theorem dX2_init_93 : decode cX2_init 93 = .ok (.putfield 43, 3) := by decide +kernel
theorem dX2_init_96 : decode cX2_init 96 = .ok (.aload_n 0, 1) := by decide +kernel
theorem dX2_init_97 : decode cX2_init 97 = .ok (.aload_n 2, 1) := by decide +kernel
theorem dX2_init_98 : decode cX2_init 98 = .ok (.putfield 47, 3) := by decide +kernel
theorem dX2_init_101 : decode cX2_init 101 = .ok (.aload_n 0, 1) := by decide +kernel
theorem dX2_init_102 : decode cX2_init 102 = .ok (.aload_n 3, 1) := by decide +kernel
theorem dX2_init_103 : decode cX2_init 103 = .ok (.putfield 51, 3) := by decide +kernel
theorem dX2_init_106 : decode cX2_init 106 = .ok (.return_, 1) := by decide +kernel
theorem dX2_layAll_0 : decode cX2_layAll 0 = .ok (.aload_n 0, 1) := by decide +kernel
theorem dX2_layAll_1 : decode cX2_layAll 1 = .ok (.iconst 0, 1) := by decide +kernel
theorem dX2_layAll_2 : decode cX2_layAll 2 = .ok (.putfield 55, 3) := by decide +kernel
theorem dX2_layAll_5 : decode cX2_layAll 5 = .ok (.aload_n 0, 1) := by decide +kernel
theorem dX2_layAll_6 : decode cX2_layAll 6 = .ok (.getfield 51, 3) := by decide +kernel
theorem dX2_layAll_9 : decode cX2_layAll 9 = .ok (.aload_n 0, 1) := by decide +kernel
theorem dX2_layAll_10 : decode cX2_layAll 10 = .ok (.getfield 43, 3) := by decide +kernel
theorem dX2_layAll_13 : decode cX2_layAll 13 = .ok (.invokevirtual 59, 3) := by decide +kernel
theorem dX2_layAll_16 : decode cX2_layAll 16 = .ok (.iconst 0, 1) := by decide +kernel
theorem dX2_layAll_17 : decode cX2_layAll 17 = .ok (.istore_n 1, 1) := by decide +kernel
theorem dX2_layAll_18 : decode cX2_layAll 18 = .ok (.iload_n 1, 1) := by decide +kernel
theorem dX2_layAll_19 : decode cX2_layAll 19 = .ok (.aload_n 0, 1) := by decide +kernel
theorem dX2_layAll_20 : decode cX2_layAll 20 = .ok (.getfield 43, 3) := by decide +kernel
theorem dX2_layAll_23 : decode cX2_layAll 23 = .ok (.getfield 65, 3) := by decide +kernel
theorem dX2_layAll_26 : decode cX2_layAll 26 = .ok (.if_icmp .ge 44, 3) := by decide +kernel
theorem dX2_layAll_29 : decode cX2_layAll 29 = .ok (.aload_n 0, 1) := by decide +kernel
theorem dX2_layAll_30 : decode cX2_layAll 30 = .ok (.iload_n 1, 1) := by decide +kernel
theorem dX2_layAll_31 : decode cX2_layAll 31 = .ok (.invokevirtual 70, 3) := by decide +kernel
theorem dX2_layAll_34 : decode cX2_layAll 34 = .ok (.aload_n 0, 1) := by decide +kernel
theorem dX2_layAll_35 : decode cX2_layAll 35 = .ok (.getfield 9, 3) := by decide +kernel
theorem dX2_layAll_38 : decode cX2_layAll 38 = .ok (.iload_n 1, 1) := by decide +kernel
theorem dX2_layAll_39 : decode cX2_layAll 39 = .ok (.aload_n 0, 1) := by decide +kernel
theorem dX2_layAll_40 : decode cX2_layAll 40 = .ok (.getfield 55, 3) := by decide +kernel
theorem dX2_layAll_43 : decode cX2_layAll 43 = .ok (.iastore, 1) := by decide +kernel
theorem dX2_layAll_44 : decode cX2_layAll 44 = .ok (.aload_n 0, 1) := by decide +kernel
theorem dX2_layAll_45 : decode cX2_layAll 45 = .ok (.iload_n 1, 1) := by decide +kernel
theorem dX2_layAll_46 : decode cX2_layAll 46 = .ok (.invokevirtual 74, 3) := by decide +kernel
theorem dX2_layAll_49 : decode cX2_layAll 49 = .ok (.aload_n 0, 1) := by decide +kernel
theorem dX2_layAll_50 : decode cX2_layAll 50 = .ok (.iload_n 1, 1) := by decide +kernel
theorem dX2_layAll_51 : decode cX2_layAll 51 = .ok (.invokevirtual 77, 3) := by decide +kernel
theorem dX2_layAll_54 : decode cX2_layAll 54 = .ok (.aload_n 0, 1) := by decide +kernel
theorem dX2_layAll_55 : decode cX2_layAll 55 = .ok (.getfield 15, 3) := by decide +kernel
theorem dX2_layAll_58 : decode cX2_layAll 58 = .ok (.iload_n 1, 1) := by decide +kernel
theorem dX2_layAll_59 : decode cX2_layAll 59 = .ok (.aload_n 0, 1) := by decide +kernel
theorem dX2_layAll_60 : decode cX2_layAll 60 = .ok (.getfield 55, 3) := by decide +kernel
theorem dX2_layAll_63 : decode cX2_layAll 63 = .ok (.iastore, 1) := by decide +kernel
theorem dX2_layAll_64 : decode cX2_layAll 64 = .ok (.iinc 1 1, 3) := by decide +kernel
theorem dX2_layAll_67 : decode cX2_layAll 67 = .ok (.goto (-49), 3) := by decide +kernel
theorem dX2_layAll_70 : decode cX2_layAll 70 = .ok (.return_, 1) := by decide +kernel
theorem dX2_leaveEmpty_0 : decode cX2_leaveEmpty 0 = .ok (.aload_n 0, 1) := by decide +kernel
theorem dX2_leaveEmpty_1 : decode cX2_leaveEmpty 1 = .ok (.getfield 43, 3) := by decide +kernel
theorem dX2_leaveEmpty_4 : decode cX2_leaveEmpty 4 = .ok (.getfield 80, 3) := by decide +kernel
theorem dX2_leaveEmpty_7 : decode cX2_leaveEmpty 7 = .ok (.iconst 5, 1) := by decide +kernel
theorem dX2_leaveEmpty_8 : decode cX2_leaveEmpty 8 = .ok (.iaload, 1) := by decide +kernel
theorem dX2_leaveEmpty_9 : decode cX2_leaveEmpty 9 = .ok (.istore_n 2, 1) := by decide +kernel
theorem dX2_leaveEmpty_10 : decode cX2_leaveEmpty 10 = .ok (.iload_n 2, 1) := by decide +kernel
theorem dX2_leaveEmpty_11 : decode cX2_leaveEmpty 11 = .ok (.iconst 1, 1) := by decide +kernel
theorem dX2_leaveEmpty_12 : decode cX2_leaveEmpty 12 = .ok (.if_icmp .eq 20, 3) := by decide +kernel
theorem dX2_leaveEmpty_15 : decode cX2_leaveEmpty 15 = .ok (.iload_n 2, 1) := by decide +kernel
theorem dX2_leaveEmpty_16 : decode cX2_leaveEmpty 16 = .ok (.iconst 2, 1) := by decide +kernel
theorem dX2_leaveEmpty_17 : decode cX2_leaveEmpty 17 = .ok (.if_icmp .ne 14, 3) := by decide +kernel
theorem dX2_leaveEmpty_20 : decode cX2_leaveEmpty 20 = .ok (.aload_n 0, 1) := by decide +kernel
theorem dX2_leaveEmpty_21 : decode cX2_leaveEmpty 21 = .ok (.getfield 43, 3) := by decide +kernel
theorem dX2_leaveEmpty_24 : decode cX2_leaveEmpty 24 = .ok (.iload_n 1, 1) := by decide +kernel
theorem dX2_leaveEmpty_25 : decode cX2_leaveEmpty 25 = .ok (.invokevirtual 83, 3) := by decide +kernel
theorem dX2_leaveEmpty_28 : decode cX2_leaveEmpty 28 = .ok (.ifCond .ne 4, 3) := by decide +kernel
theorem dX2_leaveEmpty_31 : decode cX2_leaveEmpty 31 = .ok (.return_, 1) := by decide +kernel
theorem dX2_leaveEmpty_32 : decode cX2_leaveEmpty 32 = .ok (.aload_n 0, 1) := by decide +kernel
theorem dX2_leaveEmpty_33 : decode cX2_leaveEmpty 33 = .ok (.iload_n 1, 1) := by decide +kernel
theorem dX2_leaveEmpty_34 : decode cX2_leaveEmpty 34 = .ok (.invokevirtual 87, 3) := by decide +kernel
theorem dX2_leaveEmpty_37 : decode cX2_leaveEmpty 37 = .ok (.iconst 1, 1) := by decide +kernel
theorem dX2_leaveEmpty_38 : decode cX2_leaveEmpty 38 = .ok (.iadd, 1) := by decide +kernel
theorem dX2_leaveEmpty_39 : decode cX2_leaveEmpty 39 = .ok (.sipush 152, 3) := by decide +kernel
theorem dX2_leaveEmpty_42 : decode cX2_leaveEmpty 42 = .ok (.invokestatic 91, 3) := by decide +kernel
theorem dX2_leaveEmpty_45 : decode cX2_leaveEmpty 45 = .ok (.istore_n 3, 1) := by decide +kernel
theorem dX2_leaveEmpty_46 : decode cX2_leaveEmpty 46 = .ok (.aload_n 0, 1) := by decide +kernel
theorem dX2_leaveEmpty_47 : decode cX2_leaveEmpty 47 = .ok (.getfield 55, 3) := by decide +kernel
theorem dX2_leaveEmpty_50 : decode cX2_leaveEmpty 50 = .ok (.istore 4, 2) := by decide +kernel
theorem dX2_leaveEmpty_52 : decode cX2_leaveEmpty 52 = .ok (.iload 4, 2) := by decide +kernel
theorem dX2_leaveEmpty_54 : decode cX2_leaveEmpty 54 = .ok (.iload_n 3, 1) := by decide +kernel
theorem dX2_leaveEmpty_55 : decode cX2_leaveEmpty 55 = .ok (.if_icmp .ge 26, 3) := by decide +kernel
theorem dX2_leaveEmpty_58 : decode cX2_leaveEmpty 58 = .ok (.aload_n 0, 1) := by decide +kernel
theorem dX2_leaveEmpty_59 : decode cX2_leaveEmpty 59 = .ok (.getfield 21, 3) := by decide +kernel
theorem dX2_leaveEmpty_62 : decode cX2_leaveEmpty 62 = .ok (.iload 4, 2) := by decide +kernel
theorem dX2_leaveEmpty_64 : decode cX2_leaveEmpty 64 = .ok (.bipush (-4), 2) := by decide +kernel
theorem dX2_leaveEmpty_66 : decode cX2_leaveEmpty 66 = .ok (.iastore, 1) := by decide +kernel
theorem dX2_leaveEmpty_67 : decode cX2_leaveEmpty 67 = .ok (.aload_n 0, 1) := by decide +kernel
theorem dX2_leaveEmpty_68 : decode cX2_leaveEmpty 68 = .ok (.getfield 39, 3) := by decide +kernel
theorem dX2_leaveEmpty_71 : decode cX2_leaveEmpty 71 = .ok (.iload 4, 2) := by decide +kernel
theorem dX2_leaveEmpty_73 : decode cX2_leaveEmpty 73 = .ok (.iconst 0, 1) := by decide +kernel
theorem dX2_leaveEmpty_74 : decode cX2_leaveEmpty 74 = .ok (.bastore, 1) := by decide +kernel
theorem dX2_leaveEmpty_75 : decode cX2_leaveEmpty 75 = .ok (.iinc 4 1, 3) := by decide +kernel
theorem dX2_leaveEmpty_78 : decode cX2_leaveEmpty 78 = .ok (.goto (-26), 3) := by decide +kernel
theorem dX2_leaveEmpty_81 : decode cX2_leaveEmpty 81 = .ok (.aload_n 0, 1) := by decide +kernel
theorem dX2_leaveEmpty_82 : decode cX2_leaveEmpty 82 = .ok (.aload_n 0, 1) := by decide +kernel
theorem dX2_leaveEmpty_83 : decode cX2_leaveEmpty 83 = .ok (.getfield 55, 3) := by decide +kernel
theorem dX2_leaveEmpty_86 : decode cX2_leaveEmpty 86 = .ok (.iload_n 3, 1) := by decide +kernel
theorem dX2_leaveEmpty_87 : decode cX2_leaveEmpty 87 = .ok (.invokestatic 97, 3) := by decide +kernel
theorem dX2_leaveEmpty_90 : decode cX2_leaveEmpty 90 = .ok (.putfield 55, 3) := by decide +kernel
theorem dX2_leaveEmpty_93 : decode cX2_leaveEmpty 93 = .ok (.return_, 1) := by decide +kernel
theorem dX2_lastReachedAhead_0 : decode cX2_lastReachedAhead 0 = .ok (.iconst (-1), 1) := by decide +kernel
theorem dX2_lastReachedAhead_1 : decode cX2_lastReachedAhead 1 = .ok (.istore_n 2, 1) := by decide +kernel
theorem dX2_lastReachedAhead_2 : decode cX2_lastReachedAhead 2 = .ok (.iconst 0, 1) := by decide +kernel
theorem dX2_lastReachedAhead_3 : decode cX2_lastReachedAhead 3 = .ok (.istore_n 3, 1) := by decide +kernel
theorem dX2_lastReachedAhead_4 : decode cX2_lastReachedAhead 4 = .ok (.iload_n 3, 1) := by decide +kernel
theorem dX2_lastReachedAhead_5 : decode cX2_lastReachedAhead 5 = .ok (.iload_n 1, 1) := by decide +kernel
theorem dX2_lastReachedAhead_6 : decode cX2_lastReachedAhead 6 = .ok (.if_icmp .ge 54, 3) := by decide +kernel
theorem dX2_lastReachedAhead_9 : decode cX2_lastReachedAhead 9 = .ok (.iconst 0, 1) := by decide +kernel
theorem dX2_lastReachedAhead_10 : decode cX2_lastReachedAhead 10 = .ok (.istore 4, 2) := by decide +kernel
theorem dX2_lastReachedAhead_12 : decode cX2_lastReachedAhead 12 = .ok (.iload 4, 2) := by decide +kernel
theorem dX2_lastReachedAhead_14 : decode cX2_lastReachedAhead 14 = .ok (.bipush 9, 2) := by decide +kernel
theorem dX2_lastReachedAhead_16 : decode cX2_lastReachedAhead 16 = .ok (.if_icmp .ge 38, 3) := by decide +kernel
theorem dX2_lastReachedAhead_19 : decode cX2_lastReachedAhead 19 = .ok (.aload_n 0, 1) := by decide +kernel
theorem dX2_lastReachedAhead_20 : decode cX2_lastReachedAhead 20 = .ok (.getfield 18, 3) := by decide +kernel
theorem dX2_lastReachedAhead_23 : decode cX2_lastReachedAhead 23 = .ok (.iload_n 3, 1) := by decide +kernel
theorem dX2_lastReachedAhead_24 : decode cX2_lastReachedAhead 24 = .ok (.bipush 9, 2) := by decide +kernel
theorem dX2_lastReachedAhead_26 : decode cX2_lastReachedAhead 26 = .ok (.imul, 1) := by decide +kernel
theorem dX2_lastReachedAhead_27 : decode cX2_lastReachedAhead 27 = .ok (.iload 4, 2) := by decide +kernel
theorem dX2_lastReachedAhead_29 : decode cX2_lastReachedAhead 29 = .ok (.iadd, 1) := by decide +kernel
theorem dX2_lastReachedAhead_30 : decode cX2_lastReachedAhead 30 = .ok (.iaload, 1) := by decide +kernel
theorem dX2_lastReachedAhead_31 : decode cX2_lastReachedAhead 31 = .ok (.ifCond .le 17, 3) := by decide +kernel
theorem dX2_lastReachedAhead_34 : decode cX2_lastReachedAhead 34 = .ok (.iload_n 2, 1) := by decide +kernel
theorem dX2_lastReachedAhead_35 : decode cX2_lastReachedAhead 35 = .ok (.aload_n 0, 1) := by decide +kernel
theorem dX2_lastReachedAhead_36 : decode cX2_lastReachedAhead 36 = .ok (.getfield 9, 3) := by decide +kernel
theorem dX2_lastReachedAhead_39 : decode cX2_lastReachedAhead 39 = .ok (.iload_n 3, 1) := by decide +kernel
theorem dX2_lastReachedAhead_40 : decode cX2_lastReachedAhead 40 = .ok (.iaload, 1) := by decide +kernel
theorem dX2_lastReachedAhead_41 : decode cX2_lastReachedAhead 41 = .ok (.iload 4, 2) := by decide +kernel
theorem dX2_lastReachedAhead_43 : decode cX2_lastReachedAhead 43 = .ok (.iadd, 1) := by decide +kernel
theorem dX2_lastReachedAhead_44 : decode cX2_lastReachedAhead 44 = .ok (.invokestatic 97, 3) := by decide +kernel
theorem dX2_lastReachedAhead_47 : decode cX2_lastReachedAhead 47 = .ok (.istore_n 2, 1) := by decide +kernel
theorem dX2_lastReachedAhead_48 : decode cX2_lastReachedAhead 48 = .ok (.iinc 4 1, 3) := by decide +kernel
theorem dX2_lastReachedAhead_51 : decode cX2_lastReachedAhead 51 = .ok (.goto (-39), 3) := by decide +kernel
theorem dX2_lastReachedAhead_54 : decode cX2_lastReachedAhead 54 = .ok (.iinc 3 1, 3) := by decide +kernel
theorem dX2_lastReachedAhead_57 : decode cX2_lastReachedAhead 57 = .ok (.goto (-53), 3) := by decide +kernel
theorem dX2_lastReachedAhead_60 : decode cX2_lastReachedAhead 60 = .ok (.iload_n 2, 1) := by decide +kernel
theorem dX2_lastReachedAhead_61 : decode cX2_lastReachedAhead 61 = .ok (.ireturn, 1) := by decide +kernel
theorem dX2_drawReaches_0 : decode cX2_drawReaches 0 = .ok (.aload_n 0, 1) := by decide +kernel
theorem dX2_drawReaches_1 : decode cX2_drawReaches 1 = .ok (.getfield 47, 3) := by decide +kernel
theorem dX2_drawReaches_4 : decode cX2_drawReaches 4 = .ok (.iload_n 1, 1) := by decide +kernel
theorem dX2_drawReaches_5 : decode cX2_drawReaches 5 = .ok (.invokevirtual 100, 3) := by decide +kernel
theorem dX2_drawReaches_8 : decode cX2_drawReaches 8 = .ok (.iconst 0, 1) := by decide +kernel
theorem dX2_drawReaches_9 : decode cX2_drawReaches 9 = .ok (.istore_n 2, 1) := by decide +kernel
theorem dX2_drawReaches_10 : decode cX2_drawReaches 10 = .ok (.iload_n 2, 1) := by decide +kernel
theorem dX2_drawReaches_11 : decode cX2_drawReaches 11 = .ok (.bipush 9, 2) := by decide +kernel
theorem dX2_drawReaches_13 : decode cX2_drawReaches 13 = .ok (.if_icmp .ge 28, 3) := by decide +kernel
theorem dX2_drawReaches_16 : decode cX2_drawReaches 16 = .ok (.aload_n 0, 1) := by decide +kernel
theorem dX2_drawReaches_17 : decode cX2_drawReaches 17 = .ok (.getfield 18, 3) := by decide +kernel
theorem dX2_drawReaches_20 : decode cX2_drawReaches 20 = .ok (.iload_n 1, 1) := by decide +kernel
theorem dX2_drawReaches_21 : decode cX2_drawReaches 21 = .ok (.bipush 9, 2) := by decide +kernel
theorem dX2_drawReaches_23 : decode cX2_drawReaches 23 = .ok (.imul, 1) := by decide +kernel
theorem dX2_drawReaches_24 : decode cX2_drawReaches 24 = .ok (.iload_n 2, 1) := by decide +kernel
theorem dX2_drawReaches_25 : decode cX2_drawReaches 25 = .ok (.iadd, 1) := by decide +kernel
theorem dX2_drawReaches_26 : decode cX2_drawReaches 26 = .ok (.aload_n 0, 1) := by decide +kernel
theorem dX2_drawReaches_27 : decode cX2_drawReaches 27 = .ok (.getfield 47, 3) := by decide +kernel
theorem dX2_drawReaches_30 : decode cX2_drawReaches 30 = .ok (.iload_n 2, 1) := by decide +kernel
theorem dX2_drawReaches_31 : decode cX2_drawReaches 31 = .ok (.invokevirtual 105, 3) := by decide +kernel
theorem dX2_drawReaches_34 : decode cX2_drawReaches 34 = .ok (.iastore, 1) := by decide +kernel
theorem dX2_drawReaches_35 : decode cX2_drawReaches 35 = .ok (.iinc 2 1, 3) := by decide +kernel
theorem dX2_drawReaches_38 : decode cX2_drawReaches 38 = .ok (.goto (-28), 3) := by decide +kernel
theorem dX2_drawReaches_41 : decode cX2_drawReaches 41 = .ok (.return_, 1) := by decide +kernel
theorem dX2_layPar_0 : decode cX2_layPar 0 = .ok (.aload_n 0, 1) := by decide +kernel
theorem dX2_layPar_1 : decode cX2_layPar 1 = .ok (.getfield 43, 3) := by decide +kernel
theorem dX2_layPar_4 : decode cX2_layPar 4 = .ok (.iload_n 1, 1) := by decide +kernel
theorem dX2_layPar_5 : decode cX2_layPar 5 = .ok (.invokevirtual 108, 3) := by decide +kernel
theorem dX2_layPar_8 : decode cX2_layPar 8 = .ok (.istore_n 2, 1) := by decide +kernel
theorem dX2_layPar_9 : decode cX2_layPar 9 = .ok (.aload_n 0, 1) := by decide +kernel
theorem dX2_layPar_10 : decode cX2_layPar 10 = .ok (.getfield 43, 3) := by decide +kernel
theorem dX2_layPar_13 : decode cX2_layPar 13 = .ok (.getfield 111, 3) := by decide +kernel
theorem dX2_layPar_16 : decode cX2_layPar 16 = .ok (.iload_n 1, 1) := by decide +kernel
theorem dX2_layPar_17 : decode cX2_layPar 17 = .ok (.iaload, 1) := by decide +kernel
theorem dX2_layPar_18 : decode cX2_layPar 18 = .ok (.istore_n 3, 1) := by decide +kernel
theorem dX2_layPar_19 : decode cX2_layPar 19 = .ok (.iconst 0, 1) := by decide +kernel
theorem dX2_layPar_20 : decode cX2_layPar 20 = .ok (.istore 4, 2) := by decide +kernel
theorem dX2_layPar_22 : decode cX2_layPar 22 = .ok (.iload 4, 2) := by decide +kernel
theorem dX2_layPar_24 : decode cX2_layPar 24 = .ok (.iload_n 3, 1) := by decide +kernel
theorem dX2_layPar_25 : decode cX2_layPar 25 = .ok (.if_icmp .ge 90, 3) := by decide +kernel
theorem dX2_layPar_28 : decode cX2_layPar 28 = .ok (.aload_n 0, 1) := by decide +kernel
theorem dX2_layPar_29 : decode cX2_layPar 29 = .ok (.getfield 55, 3) := by decide +kernel
theorem dX2_layPar_32 : decode cX2_layPar 32 = .ok (.iload 4, 2) := by decide +kernel
theorem dX2_layPar_34 : decode cX2_layPar 34 = .ok (.iadd, 1) := by decide +kernel
theorem dX2_layPar_35 : decode cX2_layPar 35 = .ok (.sipush 152, 3) := by decide +kernel
theorem dX2_layPar_38 : decode cX2_layPar 38 = .ok (.if_icmp .ge 77, 3) := by decide +kernel
theorem dX2_layPar_41 : decode cX2_layPar 41 = .ok (.aload_n 0, 1) := by decide +kernel
theorem dX2_layPar_42 : decode cX2_layPar 42 = .ok (.getfield 55, 3) := by decide +kernel
theorem dX2_layPar_45 : decode cX2_layPar 45 = .ok (.iload 4, 2) := by decide +kernel
theorem dX2_layPar_47 : decode cX2_layPar 47 = .ok (.iadd, 1) := by decide +kernel
theorem dX2_layPar_48 : decode cX2_layPar 48 = .ok (.istore 5, 2) := by decide +kernel
theorem dX2_layPar_50 : decode cX2_layPar 50 = .ok (.aload_n 0, 1) := by decide +kernel
theorem dX2_layPar_51 : decode cX2_layPar 51 = .ok (.getfield 30, 3) := by decide +kernel
theorem dX2_layPar_54 : decode cX2_layPar 54 = .ok (.iload 5, 2) := by decide +kernel
theorem dX2_layPar_56 : decode cX2_layPar 56 = .ok (.aload_n 0, 1) := by decide +kernel
theorem dX2_layPar_57 : decode cX2_layPar 57 = .ok (.iload_n 1, 1) := by decide +kernel
theorem dX2_layPar_58 : decode cX2_layPar 58 = .ok (.iload 5, 2) := by decide +kernel
theorem dX2_layPar_60 : decode cX2_layPar 60 = .ok (.invokevirtual 114, 3) := by decide +kernel
theorem dX2_layPar_63 : decode cX2_layPar 63 = .ok (.iastore, 1) := by decide +kernel
theorem dX2_layPar_64 : decode cX2_layPar 64 = .ok (.aload_n 0, 1) := by decide +kernel
theorem dX2_layPar_65 : decode cX2_layPar 65 = .ok (.getfield 33, 3) := by decide +kernel
theorem dX2_layPar_68 : decode cX2_layPar 68 = .ok (.iload 5, 2) := by decide +kernel
theorem dX2_layPar_70 : decode cX2_layPar 70 = .ok (.iconst 0, 1) := by decide +kernel
theorem dX2_layPar_71 : decode cX2_layPar 71 = .ok (.aload_n 0, 1) := by decide +kernel
theorem dX2_layPar_72 : decode cX2_layPar 72 = .ok (.getfield 43, 3) := by decide +kernel
theorem dX2_layPar_75 : decode cX2_layPar 75 = .ok (.getfield 80, 3) := by decide +kernel
theorem dX2_layPar_78 : decode cX2_layPar 78 = .ok (.iconst 0, 1) := by decide +kernel
theorem dX2_layPar_79 : decode cX2_layPar 79 = .ok (.iaload, 1) := by decide +kernel
theorem dX2_layPar_80 : decode cX2_layPar 80 = .ok (.aload_n 0, 1) := by decide +kernel
theorem dX2_layPar_81 : decode cX2_layPar 81 = .ok (.getfield 30, 3) := by decide +kernel
theorem dX2_layPar_84 : decode cX2_layPar 84 = .ok (.iload 5, 2) := by decide +kernel
theorem dX2_layPar_86 : decode cX2_layPar 86 = .ok (.iaload, 1) := by decide +kernel
theorem dX2_layPar_87 : decode cX2_layPar 87 = .ok (.isub, 1) := by decide +kernel
theorem dX2_layPar_88 : decode cX2_layPar 88 = .ok (.invokestatic 97, 3) := by decide +kernel
theorem dX2_layPar_91 : decode cX2_layPar 91 = .ok (.iastore, 1) := by decide +kernel
theorem dX2_layPar_92 : decode cX2_layPar 92 = .ok (.aload_n 0, 1) := by decide +kernel
theorem dX2_layPar_93 : decode cX2_layPar 93 = .ok (.getfield 51, 3) := by decide +kernel
theorem dX2_layPar_96 : decode cX2_layPar 96 = .ok (.getfield 117, 3) := by decide +kernel
theorem dX2_layPar_99 : decode cX2_layPar 99 = .ok (.iload 4, 2) := by decide +kernel
theorem dX2_layPar_101 : decode cX2_layPar 101 = .ok (.aload_n 0, 1) := by decide +kernel
theorem dX2_layPar_102 : decode cX2_layPar 102 = .ok (.getfield 33, 3) := by decide +kernel
theorem dX2_layPar_105 : decode cX2_layPar 105 = .ok (.iload 5, 2) := by decide +kernel
theorem dX2_layPar_107 : decode cX2_layPar 107 = .ok (.iaload, 1) := by decide +kernel
theorem dX2_layPar_108 : decode cX2_layPar 108 = .ok (.iastore, 1) := by decide +kernel
theorem dX2_layPar_109 : decode cX2_layPar 109 = .ok (.iinc 4 1, 3) := by decide +kernel
theorem dX2_layPar_112 : decode cX2_layPar 112 = .ok (.goto (-90), 3) := by decide +kernel
theorem dX2_layPar_115 : decode cX2_layPar 115 = .ok (.aload_n 0, 1) := by decide +kernel
theorem dX2_layPar_116 : decode cX2_layPar 116 = .ok (.getfield 51, 3) := by decide +kernel
theorem dX2_layPar_119 : decode cX2_layPar 119 = .ok (.iload_n 2, 1) := by decide +kernel
theorem dX2_layPar_120 : decode cX2_layPar 120 = .ok (.iload_n 3, 1) := by decide +kernel
theorem dX2_layPar_121 : decode cX2_layPar 121 = .ok (.invokevirtual 118, 3) := by decide +kernel
theorem dX2_layPar_124 : decode cX2_layPar 124 = .ok (.istore 4, 2) := by decide +kernel
theorem dX2_layPar_126 : decode cX2_layPar 126 = .ok (.aload_n 0, 1) := by decide +kernel
theorem dX2_layPar_127 : decode cX2_layPar 127 = .ok (.getfield 43, 3) := by decide +kernel
theorem dX2_layPar_130 : decode cX2_layPar 130 = .ok (.getfield 80, 3) := by decide +kernel
theorem dX2_layPar_133 : decode cX2_layPar 133 = .ok (.iconst 4, 1) := by decide +kernel
theorem dX2_layPar_134 : decode cX2_layPar 134 = .ok (.iaload, 1) := by decide +kernel
theorem dX2_layPar_135 : decode cX2_layPar 135 = .ok (.iconst 1, 1) := by decide +kernel
theorem dX2_layPar_136 : decode cX2_layPar 136 = .ok (.if_icmp .ne 10, 3) := by decide +kernel
theorem dX2_layPar_139 : decode cX2_layPar 139 = .ok (.aload_n 0, 1) := by decide +kernel
theorem dX2_layPar_140 : decode cX2_layPar 140 = .ok (.getfield 51, 3) := by decide +kernel
theorem dX2_layPar_143 : decode cX2_layPar 143 = .ok (.invokevirtual 121, 3) := by decide +kernel
theorem dX2_layPar_146 : decode cX2_layPar 146 = .ok (.iconst 0, 1) := by decide +kernel
theorem dX2_layPar_147 : decode cX2_layPar 147 = .ok (.istore 5, 2) := by decide +kernel
theorem dX2_layPar_149 : decode cX2_layPar 149 = .ok (.iconst 0, 1) := by decide +kernel
theorem dX2_layPar_150 : decode cX2_layPar 150 = .ok (.istore 6, 2) := by decide +kernel
theorem dX2_layPar_152 : decode cX2_layPar 152 = .ok (.iload 6, 2) := by decide +kernel
theorem dX2_layPar_154 : decode cX2_layPar 154 = .ok (.iload 4, 2) := by decide +kernel
theorem dX2_layPar_156 : decode cX2_layPar 156 = .ok (.if_icmp .ge 55, 3) := by decide +kernel
theorem dX2_layPar_159 : decode cX2_layPar 159 = .ok (.aload_n 0, 1) := by decide +kernel
theorem dX2_layPar_160 : decode cX2_layPar 160 = .ok (.getfield 55, 3) := by decide +kernel
theorem dX2_layPar_163 : decode cX2_layPar 163 = .ok (.sipush 152, 3) := by decide +kernel
theorem dX2_layPar_166 : decode cX2_layPar 166 = .ok (.if_icmp .ge 45, 3) := by decide +kernel
theorem dX2_layPar_169 : decode cX2_layPar 169 = .ok (.aload_n 0, 1) := by decide +kernel
theorem dX2_layPar_170 : decode cX2_layPar 170 = .ok (.iload_n 1, 1) := by decide +kernel
theorem dX2_layPar_171 : decode cX2_layPar 171 = .ok (.iload 5, 2) := by decide +kernel
theorem dX2_layPar_173 : decode cX2_layPar 173 = .ok (.aload_n 0, 1) := by decide +kernel
theorem dX2_layPar_174 : decode cX2_layPar 174 = .ok (.getfield 51, 3) := by decide +kernel
theorem dX2_layPar_177 : decode cX2_layPar 177 = .ok (.getfield 124, 3) := by decide +kernel
theorem dX2_layPar_180 : decode cX2_layPar 180 = .ok (.iload 6, 2) := by decide +kernel
theorem dX2_layPar_182 : decode cX2_layPar 182 = .ok (.iaload, 1) := by decide +kernel
theorem dX2_layPar_183 : decode cX2_layPar 183 = .ok (.iload_n 2, 1) := by decide +kernel
theorem dX2_layPar_184 : decode cX2_layPar 184 = .ok (.iload 5, 2) := by decide +kernel
theorem dX2_layPar_186 : decode cX2_layPar 186 = .ok (.iadd, 1) := by decide +kernel
theorem dX2_layPar_187 : decode cX2_layPar 187 = .ok (.invokevirtual 127, 3) := by decide +kernel
theorem dX2_layPar_190 : decode cX2_layPar 190 = .ok (.iload 5, 2) := by decide +kernel
theorem dX2_layPar_192 : decode cX2_layPar 192 = .ok (.aload_n 0, 1) := by decide +kernel
theorem dX2_layPar_193 : decode cX2_layPar 193 = .ok (.getfield 51, 3) := by decide +kernel
theorem dX2_layPar_196 : decode cX2_layPar 196 = .ok (.getfield 124, 3) := by decide +kernel
theorem dX2_layPar_199 : decode cX2_layPar 199 = .ok (.iload 6, 2) := by decide +kernel
theorem dX2_layPar_201 : decode cX2_layPar 201 = .ok (.iaload, 1) := by decide +kernel
theorem dX2_layPar_202 : decode cX2_layPar 202 = .ok (.iadd, 1) := by decide +kernel
theorem dX2_layPar_203 : decode cX2_layPar 203 = .ok (.istore 5, 2) := by decide +kernel
theorem dX2_layPar_205 : decode cX2_layPar 205 = .ok (.iinc 6 1, 3) := by decide +kernel
theorem dX2_layPar_208 : decode cX2_layPar 208 = .ok (.goto (-56), 3) := by decide +kernel
theorem dX2_layPar_211 : decode cX2_layPar 211 = .ok (.return_, 1) := by decide +kernel
theorem dX2_addLine_0 : decode cX2_addLine 0 = .ok (.iload_n 3, 1) := by decide +kernel
theorem dX2_addLine_1 : decode cX2_addLine 1 = .ok (.iconst 1, 1) := by decide +kernel
theorem dX2_addLine_2 : decode cX2_addLine 2 = .ok (.isub, 1) := by decide +kernel
theorem dX2_addLine_3 : decode cX2_addLine 3 = .ok (.istore 5, 2) := by decide +kernel
theorem dX2_addLine_5 : decode cX2_addLine 5 = .ok (.iload 4, 2) := by decide +kernel
theorem dX2_addLine_7 : decode cX2_addLine 7 = .ok (.istore 6, 2) := by decide +kernel
theorem dX2_addLine_9 : decode cX2_addLine 9 = .ok (.iload 6, 2) := by decide +kernel
theorem dX2_addLine_11 : decode cX2_addLine 11 = .ok (.iload 4, 2) := by decide +kernel
theorem dX2_addLine_13 : decode cX2_addLine 13 = .ok (.iload_n 3, 1) := by decide +kernel
theorem dX2_addLine_14 : decode cX2_addLine 14 = .ok (.iadd, 1) := by decide +kernel
theorem dX2_addLine_15 : decode cX2_addLine 15 = .ok (.if_icmp .ge 31, 3) := by decide +kernel
theorem dX2_addLine_18 : decode cX2_addLine 18 = .ok (.iload 6, 2) := by decide +kernel
theorem dX2_addLine_20 : decode cX2_addLine 20 = .ok (.bipush 80, 2) := by decide +kernel
theorem dX2_addLine_22 : decode cX2_addLine 22 = .ok (.if_icmp .ge 24, 3) := by decide +kernel
theorem dX2_addLine_25 : decode cX2_addLine 25 = .ok (.iload 5, 2) := by decide +kernel
theorem dX2_addLine_27 : decode cX2_addLine 27 = .ok (.aload_n 0, 1) := by decide +kernel
theorem dX2_addLine_28 : decode cX2_addLine 28 = .ok (.getfield 51, 3) := by decide +kernel
theorem dX2_addLine_31 : decode cX2_addLine 31 = .ok (.getfield 131, 3) := by decide +kernel
theorem dX2_addLine_34 : decode cX2_addLine 34 = .ok (.iload 6, 2) := by decide +kernel
theorem dX2_addLine_36 : decode cX2_addLine 36 = .ok (.iaload, 1) := by decide +kernel
theorem dX2_addLine_37 : decode cX2_addLine 37 = .ok (.iadd, 1) := by decide +kernel
theorem dX2_addLine_38 : decode cX2_addLine 38 = .ok (.istore 5, 2) := by decide +kernel
theorem dX2_addLine_40 : decode cX2_addLine 40 = .ok (.iinc 6 1, 3) := by decide +kernel
theorem dX2_addLine_43 : decode cX2_addLine 43 = .ok (.goto (-34), 3) := by decide +kernel
theorem dX2_addLine_46 : decode cX2_addLine 46 = .ok (.aload_n 0, 1) := by decide +kernel
theorem dX2_addLine_47 : decode cX2_addLine 47 = .ok (.getfield 21, 3) := by decide +kernel
theorem dX2_addLine_50 : decode cX2_addLine 50 = .ok (.aload_n 0, 1) := by decide +kernel
theorem dX2_addLine_51 : decode cX2_addLine 51 = .ok (.getfield 55, 3) := by decide +kernel
theorem dX2_addLine_54 : decode cX2_addLine 54 = .ok (.iload_n 1, 1) := by decide +kernel
theorem dX2_addLine_55 : decode cX2_addLine 55 = .ok (.iastore, 1) := by decide +kernel
theorem dX2_addLine_56 : decode cX2_addLine 56 = .ok (.aload_n 0, 1) := by decide +kernel
theorem dX2_addLine_57 : decode cX2_addLine 57 = .ok (.getfield 24, 3) := by decide +kernel
theorem dX2_addLine_60 : decode cX2_addLine 60 = .ok (.aload_n 0, 1) := by decide +kernel
theorem dX2_addLine_61 : decode cX2_addLine 61 = .ok (.getfield 55, 3) := by decide +kernel
theorem dX2_addLine_64 : decode cX2_addLine 64 = .ok (.iload_n 2, 1) := by decide +kernel
theorem dX2_addLine_65 : decode cX2_addLine 65 = .ok (.iastore, 1) := by decide +kernel
theorem dX2_addLine_66 : decode cX2_addLine 66 = .ok (.aload_n 0, 1) := by decide +kernel
theorem dX2_addLine_67 : decode cX2_addLine 67 = .ok (.getfield 27, 3) := by decide +kernel
theorem dX2_addLine_70 : decode cX2_addLine 70 = .ok (.aload_n 0, 1) := by decide +kernel
theorem dX2_addLine_71 : decode cX2_addLine 71 = .ok (.getfield 55, 3) := by decide +kernel
theorem dX2_addLine_74 : decode cX2_addLine 74 = .ok (.iload_n 3, 1) := by decide +kernel
theorem dX2_addLine_75 : decode cX2_addLine 75 = .ok (.iastore, 1) := by decide +kernel
theorem dX2_addLine_76 : decode cX2_addLine 76 = .ok (.aload_n 0, 1) := by decide +kernel
theorem dX2_addLine_77 : decode cX2_addLine 77 = .ok (.getfield 36, 3) := by decide +kernel
theorem dX2_addLine_80 : decode cX2_addLine 80 = .ok (.aload_n 0, 1) := by decide +kernel
theorem dX2_addLine_81 : decode cX2_addLine 81 = .ok (.getfield 55, 3) := by decide +kernel
theorem dX2_addLine_84 : decode cX2_addLine 84 = .ok (.iload 5, 2) := by decide +kernel
theorem dX2_addLine_86 : decode cX2_addLine 86 = .ok (.iastore, 1) := by decide +kernel
theorem dX2_addLine_87 : decode cX2_addLine 87 = .ok (.aload_n 0, 1) := by decide +kernel
theorem dX2_addLine_88 : decode cX2_addLine 88 = .ok (.getfield 39, 3) := by decide +kernel
theorem dX2_addLine_91 : decode cX2_addLine 91 = .ok (.aload_n 0, 1) := by decide +kernel
theorem dX2_addLine_92 : decode cX2_addLine 92 = .ok (.getfield 55, 3) := by decide +kernel
theorem dX2_addLine_95 : decode cX2_addLine 95 = .ok (.aload_n 0, 1) := by decide +kernel
theorem dX2_addLine_96 : decode cX2_addLine 96 = .ok (.getfield 43, 3) := by decide +kernel
theorem dX2_addLine_99 : decode cX2_addLine 99 = .ok (.getfield 80, 3) := by decide +kernel
theorem dX2_addLine_102 : decode cX2_addLine 102 = .ok (.iconst 5, 1) := by decide +kernel
theorem dX2_addLine_103 : decode cX2_addLine 103 = .ok (.iaload, 1) := by decide +kernel
theorem dX2_addLine_104 : decode cX2_addLine 104 = .ok (.ifCond .ne 19, 3) := by decide +kernel
theorem dX2_addLine_107 : decode cX2_addLine 107 = .ok (.aload_n 0, 1) := by decide +kernel
theorem dX2_addLine_108 : decode cX2_addLine 108 = .ok (.iload_n 1, 1) := by decide +kernel
theorem dX2_addLine_109 : decode cX2_addLine 109 = .ok (.aload_n 0, 1) := by decide +kernel
theorem dX2_addLine_110 : decode cX2_addLine 110 = .ok (.getfield 55, 3) := by decide +kernel
theorem dX2_addLine_113 : decode cX2_addLine 113 = .ok (.invokevirtual 134, 3) := by decide +kernel
theorem dX2_addLine_116 : decode cX2_addLine 116 = .ok (.ifCond .le 7, 3) := by decide +kernel
theorem dX2_addLine_119 : decode cX2_addLine 119 = .ok (.iconst 1, 1) := by decide +kernel
theorem dX2_addLine_120 : decode cX2_addLine 120 = .ok (.goto 4, 3) := by decide +kernel
theorem dX2_addLine_123 : decode cX2_addLine 123 = .ok (.iconst 0, 1) := by decide +kernel
theorem dX2_addLine_124 : decode cX2_addLine 124 = .ok (.bastore, 1) := by decide +kernel
theorem dX2_addLine_125 : decode cX2_addLine 125 = .ok (.aload_n 0, 1) := by decide +kernel
theorem dX2_addLine_126 : decode cX2_addLine 126 = .ok (.dup, 1) := by decide +kernel
theorem dX2_addLine_127 : decode cX2_addLine 127 = .ok (.getfield 55, 3) := by decide +kernel
theorem dX2_addLine_130 : decode cX2_addLine 130 = .ok (.iconst 1, 1) := by decide +kernel
theorem dX2_addLine_131 : decode cX2_addLine 131 = .ok (.iadd, 1) := by decide +kernel
theorem dX2_addLine_132 : decode cX2_addLine 132 = .ok (.putfield 55, 3) := by decide +kernel
theorem dX2_addLine_135 : decode cX2_addLine 135 = .ok (.return_, 1) := by decide +kernel
theorem dX2_indentAt_0 : decode cX2_indentAt 0 = .ok (.aload_n 0, 1) := by decide +kernel
theorem dX2_indentAt_1 : decode cX2_indentAt 1 = .ok (.getfield 43, 3) := by decide +kernel
theorem dX2_indentAt_4 : decode cX2_indentAt 4 = .ok (.iload_n 1, 1) := by decide +kernel
theorem dX2_indentAt_5 : decode cX2_indentAt 5 = .ok (.invokevirtual 83, 3) := by decide +kernel
theorem dX2_indentAt_8 : decode cX2_indentAt 8 = .ok (.ifCond .eq 38, 3) := by decide +kernel
theorem dX2_indentAt_11 : decode cX2_indentAt 11 = .ok (.iload_n 2, 1) := by decide +kernel
theorem dX2_indentAt_12 : decode cX2_indentAt 12 = .ok (.aload_n 0, 1) := by decide +kernel
theorem dX2_indentAt_13 : decode cX2_indentAt 13 = .ok (.getfield 9, 3) := by decide +kernel
theorem dX2_indentAt_16 : decode cX2_indentAt 16 = .ok (.iload_n 1, 1) := by decide +kernel
theorem dX2_indentAt_17 : decode cX2_indentAt 17 = .ok (.iaload, 1) := by decide +kernel
theorem dX2_indentAt_18 : decode cX2_indentAt 18 = .ok (.isub, 1) := by decide +kernel
theorem dX2_indentAt_19 : decode cX2_indentAt 19 = .ok (.istore_n 3, 1) := by decide +kernel
theorem dX2_indentAt_20 : decode cX2_indentAt 20 = .ok (.iload_n 3, 1) := by decide +kernel
theorem dX2_indentAt_21 : decode cX2_indentAt 21 = .ok (.ifCond .lt 23, 3) := by decide +kernel
theorem dX2_indentAt_24 : decode cX2_indentAt 24 = .ok (.iload_n 3, 1) := by decide +kernel
theorem dX2_indentAt_25 : decode cX2_indentAt 25 = .ok (.bipush 9, 2) := by decide +kernel
theorem dX2_indentAt_27 : decode cX2_indentAt 27 = .ok (.if_icmp .ge 17, 3) := by decide +kernel
theorem dX2_indentAt_30 : decode cX2_indentAt 30 = .ok (.aload_n 0, 1) := by decide +kernel
theorem dX2_indentAt_31 : decode cX2_indentAt 31 = .ok (.getfield 18, 3) := by decide +kernel
theorem dX2_indentAt_34 : decode cX2_indentAt 34 = .ok (.iload_n 1, 1) := by decide +kernel
theorem dX2_indentAt_35 : decode cX2_indentAt 35 = .ok (.bipush 9, 2) := by decide +kernel
theorem dX2_indentAt_37 : decode cX2_indentAt 37 = .ok (.imul, 1) := by decide +kernel
theorem dX2_indentAt_38 : decode cX2_indentAt 38 = .ok (.iload_n 3, 1) := by decide +kernel
theorem dX2_indentAt_39 : decode cX2_indentAt 39 = .ok (.iadd, 1) := by decide +kernel
theorem dX2_indentAt_40 : decode cX2_indentAt 40 = .ok (.iaload, 1) := by decide +kernel
theorem dX2_indentAt_41 : decode cX2_indentAt 41 = .ok (.goto 4, 3) := by decide +kernel
theorem dX2_indentAt_44 : decode cX2_indentAt 44 = .ok (.iconst 0, 1) := by decide +kernel
theorem dX2_indentAt_45 : decode cX2_indentAt 45 = .ok (.ireturn, 1) := by decide +kernel
theorem dX2_indentAt_46 : decode cX2_indentAt 46 = .ok (.aload_n 0, 1) := by decide +kernel
theorem dX2_indentAt_47 : decode cX2_indentAt 47 = .ok (.getfield 43, 3) := by decide +kernel
theorem dX2_indentAt_50 : decode cX2_indentAt 50 = .ok (.getfield 80, 3) := by decide +kernel
theorem dX2_indentAt_53 : decode cX2_indentAt 53 = .ok (.iconst 5, 1) := by decide +kernel
theorem dX2_indentAt_54 : decode cX2_indentAt 54 = .ok (.iaload, 1) := by decide +kernel
theorem dX2_indentAt_55 : decode cX2_indentAt 55 = .ok (.iconst 2, 1) := by decide +kernel
theorem dX2_indentAt_56 : decode cX2_indentAt 56 = .ok (.if_icmp .ne 12, 3) := by decide +kernel
theorem dX2_indentAt_59 : decode cX2_indentAt 59 = .ok (.aload_n 0, 1) := by decide +kernel
theorem dX2_indentAt_60 : decode cX2_indentAt 60 = .ok (.iload_n 1, 1) := by decide +kernel
theorem dX2_indentAt_61 : decode cX2_indentAt 61 = .ok (.iload_n 2, 1) := by decide +kernel
theorem dX2_indentAt_62 : decode cX2_indentAt 62 = .ok (.invokevirtual 134, 3) := by decide +kernel
theorem dX2_indentAt_65 : decode cX2_indentAt 65 = .ok (.goto 4, 3) := by decide +kernel
theorem dX2_indentAt_68 : decode cX2_indentAt 68 = .ok (.iconst 0, 1) := by decide +kernel
theorem dX2_indentAt_69 : decode cX2_indentAt 69 = .ok (.ireturn, 1) := by decide +kernel
theorem dX2_reachAhead_0 : decode cX2_reachAhead 0 = .ok (.iconst 0, 1) := by decide +kernel
theorem dX2_reachAhead_1 : decode cX2_reachAhead 1 = .ok (.istore_n 3, 1) := by decide +kernel
theorem dX2_reachAhead_2 : decode cX2_reachAhead 2 = .ok (.iconst 0, 1) := by decide +kernel
theorem dX2_reachAhead_3 : decode cX2_reachAhead 3 = .ok (.istore 4, 2) := by decide +kernel
theorem dX2_reachAhead_5 : decode cX2_reachAhead 5 = .ok (.iload 4, 2) := by decide +kernel
theorem dX2_reachAhead_7 : decode cX2_reachAhead 7 = .ok (.iload_n 1, 1) := by decide +kernel
theorem dX2_reachAhead_8 : decode cX2_reachAhead 8 = .ok (.if_icmp .ge 63, 3) := by decide +kernel
theorem dX2_reachAhead_11 : decode cX2_reachAhead 11 = .ok (.iload_n 2, 1) := by decide +kernel
theorem dX2_reachAhead_12 : decode cX2_reachAhead 12 = .ok (.aload_n 0, 1) := by decide +kernel
theorem dX2_reachAhead_13 : decode cX2_reachAhead 13 = .ok (.getfield 9, 3) := by decide +kernel
theorem dX2_reachAhead_16 : decode cX2_reachAhead 16 = .ok (.iload 4, 2) := by decide +kernel
theorem dX2_reachAhead_18 : decode cX2_reachAhead 18 = .ok (.iaload, 1) := by decide +kernel
theorem dX2_reachAhead_19 : decode cX2_reachAhead 19 = .ok (.isub, 1) := by decide +kernel
theorem dX2_reachAhead_20 : decode cX2_reachAhead 20 = .ok (.istore 5, 2) := by decide +kernel
theorem dX2_reachAhead_22 : decode cX2_reachAhead 22 = .ok (.iload 5, 2) := by decide +kernel
theorem dX2_reachAhead_24 : decode cX2_reachAhead 24 = .ok (.ifCond .lt 41, 3) := by decide +kernel
theorem dX2_reachAhead_27 : decode cX2_reachAhead 27 = .ok (.iload 5, 2) := by decide +kernel
theorem dX2_reachAhead_29 : decode cX2_reachAhead 29 = .ok (.bipush 9, 2) := by decide +kernel
theorem dX2_reachAhead_31 : decode cX2_reachAhead 31 = .ok (.if_icmp .ge 34, 3) := by decide +kernel
theorem dX2_reachAhead_34 : decode cX2_reachAhead 34 = .ok (.aload_n 0, 1) := by decide +kernel
theorem dX2_reachAhead_35 : decode cX2_reachAhead 35 = .ok (.getfield 18, 3) := by decide +kernel
theorem dX2_reachAhead_38 : decode cX2_reachAhead 38 = .ok (.iload 4, 2) := by decide +kernel
theorem dX2_reachAhead_40 : decode cX2_reachAhead 40 = .ok (.bipush 9, 2) := by decide +kernel
theorem dX2_reachAhead_42 : decode cX2_reachAhead 42 = .ok (.imul, 1) := by decide +kernel
theorem dX2_reachAhead_43 : decode cX2_reachAhead 43 = .ok (.iload 5, 2) := by decide +kernel
theorem dX2_reachAhead_45 : decode cX2_reachAhead 45 = .ok (.iadd, 1) := by decide +kernel
theorem dX2_reachAhead_46 : decode cX2_reachAhead 46 = .ok (.iaload, 1) := by decide +kernel
theorem dX2_reachAhead_47 : decode cX2_reachAhead 47 = .ok (.iload_n 3, 1) := by decide +kernel
theorem dX2_reachAhead_48 : decode cX2_reachAhead 48 = .ok (.if_icmp .le 17, 3) := by decide +kernel
theorem dX2_reachAhead_51 : decode cX2_reachAhead 51 = .ok (.aload_n 0, 1) := by decide +kernel
theorem dX2_reachAhead_52 : decode cX2_reachAhead 52 = .ok (.getfield 18, 3) := by decide +kernel
theorem dX2_reachAhead_55 : decode cX2_reachAhead 55 = .ok (.iload 4, 2) := by decide +kernel
theorem dX2_reachAhead_57 : decode cX2_reachAhead 57 = .ok (.bipush 9, 2) := by decide +kernel
theorem dX2_reachAhead_59 : decode cX2_reachAhead 59 = .ok (.imul, 1) := by decide +kernel
theorem dX2_reachAhead_60 : decode cX2_reachAhead 60 = .ok (.iload 5, 2) := by decide +kernel
theorem dX2_reachAhead_62 : decode cX2_reachAhead 62 = .ok (.iadd, 1) := by decide +kernel
theorem dX2_reachAhead_63 : decode cX2_reachAhead 63 = .ok (.iaload, 1) := by decide +kernel
theorem dX2_reachAhead_64 : decode cX2_reachAhead 64 = .ok (.istore_n 3, 1) := by decide +kernel
theorem dX2_reachAhead_65 : decode cX2_reachAhead 65 = .ok (.iinc 4 1, 3) := by decide +kernel
theorem dX2_reachAhead_68 : decode cX2_reachAhead 68 = .ok (.goto (-63), 3) := by decide +kernel
theorem dX2_reachAhead_71 : decode cX2_reachAhead 71 = .ok (.iload_n 3, 1) := by decide +kernel
theorem dX2_reachAhead_72 : decode cX2_reachAhead 72 = .ok (.ireturn, 1) := by decide +kernel
theorem dX2_isOver_0 : decode cX2_isOver 0 = .ok (.aload_n 0, 1) := by decide +kernel
theorem dX2_isOver_1 : decode cX2_isOver 1 = .ok (.getfield 21, 3) := by decide +kernel
theorem dX2_isOver_4 : decode cX2_isOver 4 = .ok (.iload_n 1, 1) := by decide +kernel
theorem dX2_isOver_5 : decode cX2_isOver 5 = .ok (.iaload, 1) := by decide +kernel
theorem dX2_isOver_6 : decode cX2_isOver 6 = .ok (.ifCond .lt 22, 3) := by decide +kernel
theorem dX2_isOver_9 : decode cX2_isOver 9 = .ok (.aload_n 0, 1) := by decide +kernel
theorem dX2_isOver_10 : decode cX2_isOver 10 = .ok (.getfield 36, 3) := by decide +kernel
theorem dX2_isOver_13 : decode cX2_isOver 13 = .ok (.iload_n 1, 1) := by decide +kernel
theorem dX2_isOver_14 : decode cX2_isOver 14 = .ok (.iaload, 1) := by decide +kernel
theorem dX2_isOver_15 : decode cX2_isOver 15 = .ok (.aload_n 0, 1) := by decide +kernel
theorem dX2_isOver_16 : decode cX2_isOver 16 = .ok (.getfield 33, 3) := by decide +kernel
theorem dX2_isOver_19 : decode cX2_isOver 19 = .ok (.iload_n 1, 1) := by decide +kernel
theorem dX2_isOver_20 : decode cX2_isOver 20 = .ok (.iaload, 1) := by decide +kernel
theorem dX2_isOver_21 : decode cX2_isOver 21 = .ok (.if_icmp .le 7, 3) := by decide +kernel
theorem dX2_isOver_24 : decode cX2_isOver 24 = .ok (.iconst 1, 1) := by decide +kernel
theorem dX2_isOver_25 : decode cX2_isOver 25 = .ok (.goto 4, 3) := by decide +kernel
theorem dX2_isOver_28 : decode cX2_isOver 28 = .ok (.iconst 0, 1) := by decide +kernel
theorem dX2_isOver_29 : decode cX2_isOver 29 = .ok (.ireturn, 1) := by decide +kernel
theorem dX2_emptyLines_0 : decode cX2_emptyLines 0 = .ok (.iconst 0, 1) := by decide +kernel
theorem dX2_emptyLines_1 : decode cX2_emptyLines 1 = .ok (.istore_n 1, 1) := by decide +kernel
theorem dX2_emptyLines_2 : decode cX2_emptyLines 2 = .ok (.iconst 0, 1) := by decide +kernel
theorem dX2_emptyLines_3 : decode cX2_emptyLines 3 = .ok (.istore_n 2, 1) := by decide +kernel
theorem dX2_emptyLines_4 : decode cX2_emptyLines 4 = .ok (.iload_n 2, 1) := by decide +kernel
theorem dX2_emptyLines_5 : decode cX2_emptyLines 5 = .ok (.aload_n 0, 1) := by decide +kernel
theorem dX2_emptyLines_6 : decode cX2_emptyLines 6 = .ok (.getfield 55, 3) := by decide +kernel
theorem dX2_emptyLines_9 : decode cX2_emptyLines 9 = .ok (.if_icmp .ge 21, 3) := by decide +kernel
theorem dX2_emptyLines_12 : decode cX2_emptyLines 12 = .ok (.aload_n 0, 1) := by decide +kernel
theorem dX2_emptyLines_13 : decode cX2_emptyLines 13 = .ok (.getfield 21, 3) := by decide +kernel
theorem dX2_emptyLines_16 : decode cX2_emptyLines 16 = .ok (.iload_n 2, 1) := by decide +kernel
theorem dX2_emptyLines_17 : decode cX2_emptyLines 17 = .ok (.iaload, 1) := by decide +kernel
theorem dX2_emptyLines_18 : decode cX2_emptyLines 18 = .ok (.ifCond .ge 6, 3) := by decide +kernel
theorem dX2_emptyLines_21 : decode cX2_emptyLines 21 = .ok (.iinc 1 1, 3) := by decide +kernel
theorem dX2_emptyLines_24 : decode cX2_emptyLines 24 = .ok (.iinc 2 1, 3) := by decide +kernel
theorem dX2_emptyLines_27 : decode cX2_emptyLines 27 = .ok (.goto (-23), 3) := by decide +kernel
theorem dX2_emptyLines_30 : decode cX2_emptyLines 30 = .ok (.iload_n 1, 1) := by decide +kernel
theorem dX2_emptyLines_31 : decode cX2_emptyLines 31 = .ok (.ireturn, 1) := by decide +kernel
theorem dX2_oversWithin_0 : decode cX2_oversWithin 0 = .ok (.iconst 0, 1) := by decide +kernel
theorem dX2_oversWithin_1 : decode cX2_oversWithin 1 = .ok (.istore_n 3, 1) := by decide +kernel
theorem dX2_oversWithin_2 : decode cX2_oversWithin 2 = .ok (.iload_n 1, 1) := by decide +kernel
theorem dX2_oversWithin_3 : decode cX2_oversWithin 3 = .ok (.istore 4, 2) := by decide +kernel
theorem dX2_oversWithin_5 : decode cX2_oversWithin 5 = .ok (.iload 4, 2) := by decide +kernel
theorem dX2_oversWithin_7 : decode cX2_oversWithin 7 = .ok (.iload_n 2, 1) := by decide +kernel
theorem dX2_oversWithin_8 : decode cX2_oversWithin 8 = .ok (.if_icmp .ge 30, 3) := by decide +kernel
theorem dX2_oversWithin_11 : decode cX2_oversWithin 11 = .ok (.iload 4, 2) := by decide +kernel
theorem dX2_oversWithin_13 : decode cX2_oversWithin 13 = .ok (.aload_n 0, 1) := by decide +kernel
theorem dX2_oversWithin_14 : decode cX2_oversWithin 14 = .ok (.getfield 55, 3) := by decide +kernel
theorem dX2_oversWithin_17 : decode cX2_oversWithin 17 = .ok (.if_icmp .ge 21, 3) := by decide +kernel
theorem dX2_oversWithin_20 : decode cX2_oversWithin 20 = .ok (.aload_n 0, 1) := by decide +kernel
theorem dX2_oversWithin_21 : decode cX2_oversWithin 21 = .ok (.iload 4, 2) := by decide +kernel
theorem dX2_oversWithin_23 : decode cX2_oversWithin 23 = .ok (.invokevirtual 137, 3) := by decide +kernel
theorem dX2_oversWithin_26 : decode cX2_oversWithin 26 = .ok (.ifCond .eq 6, 3) := by decide +kernel
theorem dX2_oversWithin_29 : decode cX2_oversWithin 29 = .ok (.iinc 3 1, 3) := by decide +kernel
theorem dX2_oversWithin_32 : decode cX2_oversWithin 32 = .ok (.iinc 4 1, 3) := by decide +kernel
theorem dX2_oversWithin_35 : decode cX2_oversWithin 35 = .ok (.goto (-30), 3) := by decide +kernel
theorem dX2_oversWithin_38 : decode cX2_oversWithin 38 = .ok (.iload_n 3, 1) := by decide +kernel
theorem dX2_oversWithin_39 : decode cX2_oversWithin 39 = .ok (.ireturn, 1) := by decide +kernel
theorem dX2_clashesWithin_0 : decode cX2_clashesWithin 0 = .ok (.iconst 0, 1) := by decide +kernel
theorem dX2_clashesWithin_1 : decode cX2_clashesWithin 1 = .ok (.istore_n 3, 1) := by decide +kernel
theorem dX2_clashesWithin_2 : decode cX2_clashesWithin 2 = .ok (.iload_n 1, 1) := by decide +kernel
theorem dX2_clashesWithin_3 : decode cX2_clashesWithin 3 = .ok (.istore 4, 2) := by decide +kernel
theorem dX2_clashesWithin_5 : decode cX2_clashesWithin 5 = .ok (.iload 4, 2) := by decide +kernel
theorem dX2_clashesWithin_7 : decode cX2_clashesWithin 7 = .ok (.iload_n 2, 1) := by decide +kernel
theorem dX2_clashesWithin_8 : decode cX2_clashesWithin 8 = .ok (.if_icmp .ge 31, 3) := by decide +kernel
theorem dX2_clashesWithin_11 : decode cX2_clashesWithin 11 = .ok (.iload 4, 2) := by decide +kernel
theorem dX2_clashesWithin_13 : decode cX2_clashesWithin 13 = .ok (.aload_n 0, 1) := by decide +kernel
theorem dX2_clashesWithin_14 : decode cX2_clashesWithin 14 = .ok (.getfield 55, 3) := by decide +kernel
theorem dX2_clashesWithin_17 : decode cX2_clashesWithin 17 = .ok (.if_icmp .ge 22, 3) := by decide +kernel
theorem dX2_clashesWithin_20 : decode cX2_clashesWithin 20 = .ok (.aload_n 0, 1) := by decide +kernel
theorem dX2_clashesWithin_21 : decode cX2_clashesWithin 21 = .ok (.getfield 39, 3) := by decide +kernel
theorem dX2_clashesWithin_24 : decode cX2_clashesWithin 24 = .ok (.iload 4, 2) := by decide +kernel
theorem dX2_clashesWithin_26 : decode cX2_clashesWithin 26 = .ok (.baload, 1) := by decide +kernel
theorem dX2_clashesWithin_27 : decode cX2_clashesWithin 27 = .ok (.ifCond .eq 6, 3) := by decide +kernel
theorem dX2_clashesWithin_30 : decode cX2_clashesWithin 30 = .ok (.iinc 3 1, 3) := by decide +kernel
theorem dX2_clashesWithin_33 : decode cX2_clashesWithin 33 = .ok (.iinc 4 1, 3) := by decide +kernel
theorem dX2_clashesWithin_36 : decode cX2_clashesWithin 36 = .ok (.goto (-31), 3) := by decide +kernel
theorem dX2_clashesWithin_39 : decode cX2_clashesWithin 39 = .ok (.iload_n 3, 1) := by decide +kernel
theorem dX2_clashesWithin_40 : decode cX2_clashesWithin 40 = .ok (.ireturn, 1) := by decide +kernel
theorem dX2_firstClashWithin_0 : decode cX2_firstClashWithin 0 = .ok (.iload_n 1, 1) := by decide +kernel
theorem dX2_firstClashWithin_1 : decode cX2_firstClashWithin 1 = .ok (.istore_n 3, 1) := by decide +kernel
theorem dX2_firstClashWithin_2 : decode cX2_firstClashWithin 2 = .ok (.iload_n 3, 1) := by decide +kernel
theorem dX2_firstClashWithin_3 : decode cX2_firstClashWithin 3 = .ok (.iload_n 2, 1) := by decide +kernel
theorem dX2_firstClashWithin_4 : decode cX2_firstClashWithin 4 = .ok (.if_icmp .ge 28, 3) := by decide +kernel
theorem dX2_firstClashWithin_7 : decode cX2_firstClashWithin 7 = .ok (.iload_n 3, 1) := by decide +kernel
theorem dX2_firstClashWithin_8 : decode cX2_firstClashWithin 8 = .ok (.aload_n 0, 1) := by decide +kernel
theorem dX2_firstClashWithin_9 : decode cX2_firstClashWithin 9 = .ok (.getfield 55, 3) := by decide +kernel
theorem dX2_firstClashWithin_12 : decode cX2_firstClashWithin 12 = .ok (.if_icmp .ge 20, 3) := by decide +kernel
theorem dX2_firstClashWithin_15 : decode cX2_firstClashWithin 15 = .ok (.aload_n 0, 1) := by decide +kernel
theorem dX2_firstClashWithin_16 : decode cX2_firstClashWithin 16 = .ok (.getfield 39, 3) := by decide +kernel
theorem dX2_firstClashWithin_19 : decode cX2_firstClashWithin 19 = .ok (.iload_n 3, 1) := by decide +kernel
theorem dX2_firstClashWithin_20 : decode cX2_firstClashWithin 20 = .ok (.baload, 1) := by decide +kernel
theorem dX2_firstClashWithin_21 : decode cX2_firstClashWithin 21 = .ok (.ifCond .eq 5, 3) := by decide +kernel
theorem dX2_firstClashWithin_24 : decode cX2_firstClashWithin 24 = .ok (.iload_n 3, 1) := by decide +kernel
theorem dX2_firstClashWithin_25 : decode cX2_firstClashWithin 25 = .ok (.ireturn, 1) := by decide +kernel
theorem dX2_firstClashWithin_26 : decode cX2_firstClashWithin 26 = .ok (.iinc 3 1, 3) := by decide +kernel
theorem dX2_firstClashWithin_29 : decode cX2_firstClashWithin 29 = .ok (.goto (-27), 3) := by decide +kernel
theorem dX2_firstClashWithin_32 : decode cX2_firstClashWithin 32 = .ok (.bipush (-4), 2) := by decide +kernel
theorem dX2_firstClashWithin_34 : decode cX2_firstClashWithin 34 = .ok (.ireturn, 1) := by decide +kernel
theorem dX2_slacksSquared_0 : decode cX2_slacksSquared 0 = .ok (.iconst 0, 1) := by decide +kernel
theorem dX2_slacksSquared_1 : decode cX2_slacksSquared 1 = .ok (.istore_n 3, 1) := by decide +kernel
theorem dX2_slacksSquared_2 : decode cX2_slacksSquared 2 = .ok (.iload_n 1, 1) := by decide +kernel
theorem dX2_slacksSquared_3 : decode cX2_slacksSquared 3 = .ok (.istore 4, 2) := by decide +kernel
theorem dX2_slacksSquared_5 : decode cX2_slacksSquared 5 = .ok (.iload 4, 2) := by decide +kernel
theorem dX2_slacksSquared_7 : decode cX2_slacksSquared 7 = .ok (.iload_n 2, 1) := by decide +kernel
theorem dX2_slacksSquared_8 : decode cX2_slacksSquared 8 = .ok (.if_icmp .ge 56, 3) := by decide +kernel
theorem dX2_slacksSquared_11 : decode cX2_slacksSquared 11 = .ok (.iload 4, 2) := by decide +kernel
theorem dX2_slacksSquared_13 : decode cX2_slacksSquared 13 = .ok (.aload_n 0, 1) := by decide +kernel
theorem dX2_slacksSquared_14 : decode cX2_slacksSquared 14 = .ok (.getfield 55, 3) := by decide +kernel
theorem dX2_slacksSquared_17 : decode cX2_slacksSquared 17 = .ok (.if_icmp .ge 47, 3) := by decide +kernel
theorem dX2_slacksSquared_20 : decode cX2_slacksSquared 20 = .ok (.aload_n 0, 1) := by decide +kernel
theorem dX2_slacksSquared_21 : decode cX2_slacksSquared 21 = .ok (.iload 4, 2) := by decide +kernel
theorem dX2_slacksSquared_23 : decode cX2_slacksSquared 23 = .ok (.invokevirtual 137, 3) := by decide +kernel
theorem dX2_slacksSquared_26 : decode cX2_slacksSquared 26 = .ok (.ifCond .eq 7, 3) := by decide +kernel
theorem dX2_slacksSquared_29 : decode cX2_slacksSquared 29 = .ok (.iconst 0, 1) := by decide +kernel
theorem dX2_slacksSquared_30 : decode cX2_slacksSquared 30 = .ok (.goto 18, 3) := by decide +kernel
theorem dX2_slacksSquared_33 : decode cX2_slacksSquared 33 = .ok (.aload_n 0, 1) := by decide +kernel
theorem dX2_slacksSquared_34 : decode cX2_slacksSquared 34 = .ok (.getfield 33, 3) := by decide +kernel
theorem dX2_slacksSquared_37 : decode cX2_slacksSquared 37 = .ok (.iload 4, 2) := by decide +kernel
theorem dX2_slacksSquared_39 : decode cX2_slacksSquared 39 = .ok (.iaload, 1) := by decide +kernel
theorem dX2_slacksSquared_40 : decode cX2_slacksSquared 40 = .ok (.aload_n 0, 1) := by decide +kernel
theorem dX2_slacksSquared_41 : decode cX2_slacksSquared 41 = .ok (.getfield 36, 3) := by decide +kernel
theorem dX2_slacksSquared_44 : decode cX2_slacksSquared 44 = .ok (.iload 4, 2) := by decide +kernel
theorem dX2_slacksSquared_46 : decode cX2_slacksSquared 46 = .ok (.iaload, 1) := by decide +kernel
theorem dX2_slacksSquared_47 : decode cX2_slacksSquared 47 = .ok (.isub, 1) := by decide +kernel
theorem dX2_slacksSquared_48 : decode cX2_slacksSquared 48 = .ok (.istore 5, 2) := by decide +kernel
theorem dX2_slacksSquared_50 : decode cX2_slacksSquared 50 = .ok (.iload_n 3, 1) := by decide +kernel
theorem dX2_slacksSquared_51 : decode cX2_slacksSquared 51 = .ok (.iload 5, 2) := by decide +kernel
theorem dX2_slacksSquared_53 : decode cX2_slacksSquared 53 = .ok (.iload 5, 2) := by decide +kernel
theorem dX2_slacksSquared_55 : decode cX2_slacksSquared 55 = .ok (.imul, 1) := by decide +kernel
theorem dX2_slacksSquared_56 : decode cX2_slacksSquared 56 = .ok (.iadd, 1) := by decide +kernel
theorem dX2_slacksSquared_57 : decode cX2_slacksSquared 57 = .ok (.istore_n 3, 1) := by decide +kernel
theorem dX2_slacksSquared_58 : decode cX2_slacksSquared 58 = .ok (.iinc 4 1, 3) := by decide +kernel
theorem dX2_slacksSquared_61 : decode cX2_slacksSquared 61 = .ok (.goto (-56), 3) := by decide +kernel
theorem dX2_slacksSquared_64 : decode cX2_slacksSquared 64 = .ok (.iload_n 3, 1) := by decide +kernel
theorem dX2_slacksSquared_65 : decode cX2_slacksSquared 65 = .ok (.ireturn, 1) := by decide +kernel
theorem dX2_lineWith_0 : decode cX2_lineWith 0 = .ok (.aload_n 0, 1) := by decide +kernel
theorem dX2_lineWith_1 : decode cX2_lineWith 1 = .ok (.getfield 9, 3) := by decide +kernel
theorem dX2_lineWith_4 : decode cX2_lineWith 4 = .ok (.iload_n 1, 1) := by decide +kernel
theorem dX2_lineWith_5 : decode cX2_lineWith 5 = .ok (.iaload, 1) := by decide +kernel
theorem dX2_lineWith_6 : decode cX2_lineWith 6 = .ok (.istore_n 3, 1) := by decide +kernel
theorem dX2_lineWith_7 : decode cX2_lineWith 7 = .ok (.iload_n 3, 1) := by decide +kernel
theorem dX2_lineWith_8 : decode cX2_lineWith 8 = .ok (.aload_n 0, 1) := by decide +kernel
theorem dX2_lineWith_9 : decode cX2_lineWith 9 = .ok (.getfield 15, 3) := by decide +kernel
theorem dX2_lineWith_12 : decode cX2_lineWith 12 = .ok (.iload_n 1, 1) := by decide +kernel
theorem dX2_lineWith_13 : decode cX2_lineWith 13 = .ok (.iaload, 1) := by decide +kernel
theorem dX2_lineWith_14 : decode cX2_lineWith 14 = .ok (.if_icmp .ge 28, 3) := by decide +kernel
theorem dX2_lineWith_17 : decode cX2_lineWith 17 = .ok (.iload_n 2, 1) := by decide +kernel
theorem dX2_lineWith_18 : decode cX2_lineWith 18 = .ok (.aload_n 0, 1) := by decide +kernel
theorem dX2_lineWith_19 : decode cX2_lineWith 19 = .ok (.getfield 24, 3) := by decide +kernel
theorem dX2_lineWith_22 : decode cX2_lineWith 22 = .ok (.iload_n 3, 1) := by decide +kernel
theorem dX2_lineWith_23 : decode cX2_lineWith 23 = .ok (.iaload, 1) := by decide +kernel
theorem dX2_lineWith_24 : decode cX2_lineWith 24 = .ok (.aload_n 0, 1) := by decide +kernel
theorem dX2_lineWith_25 : decode cX2_lineWith 25 = .ok (.getfield 27, 3) := by decide +kernel
theorem dX2_lineWith_28 : decode cX2_lineWith 28 = .ok (.iload_n 3, 1) := by decide +kernel
theorem dX2_lineWith_29 : decode cX2_lineWith 29 = .ok (.iaload, 1) := by decide +kernel
theorem dX2_lineWith_30 : decode cX2_lineWith 30 = .ok (.iadd, 1) := by decide +kernel
theorem dX2_lineWith_31 : decode cX2_lineWith 31 = .ok (.if_icmp .ge 5, 3) := by decide +kernel
theorem dX2_lineWith_34 : decode cX2_lineWith 34 = .ok (.iload_n 3, 1) := by decide +kernel
theorem dX2_lineWith_35 : decode cX2_lineWith 35 = .ok (.ireturn, 1) := by decide +kernel
theorem dX2_lineWith_36 : decode cX2_lineWith 36 = .ok (.iinc 3 1, 3) := by decide +kernel
theorem dX2_lineWith_39 : decode cX2_lineWith 39 = .ok (.goto (-32), 3) := by decide +kernel
theorem dX2_lineWith_42 : decode cX2_lineWith 42 = .ok (.bipush (-4), 2) := by decide +kernel
theorem dX2_lineWith_44 : decode cX2_lineWith 44 = .ok (.ireturn, 1) := by decide +kernel
theorem dX2_placeOf_0 : decode cX2_placeOf 0 = .ok (.aload_n 0, 1) := by decide +kernel
theorem dX2_placeOf_1 : decode cX2_placeOf 1 = .ok (.iload_n 1, 1) := by decide +kernel
theorem dX2_placeOf_2 : decode cX2_placeOf 2 = .ok (.iload_n 2, 1) := by decide +kernel
theorem dX2_placeOf_3 : decode cX2_placeOf 3 = .ok (.invokevirtual 140, 3) := by decide +kernel
theorem dX2_placeOf_6 : decode cX2_placeOf 6 = .ok (.istore_n 3, 1) := by decide +kernel
theorem dX2_placeOf_7 : decode cX2_placeOf 7 = .ok (.iload_n 3, 1) := by decide +kernel
theorem dX2_placeOf_8 : decode cX2_placeOf 8 = .ok (.ifCond .ge 6, 3) := by decide +kernel
theorem dX2_placeOf_11 : decode cX2_placeOf 11 = .ok (.bipush (-4), 2) := by decide +kernel
theorem dX2_placeOf_13 : decode cX2_placeOf 13 = .ok (.ireturn, 1) := by decide +kernel
theorem dX2_placeOf_14 : decode cX2_placeOf 14 = .ok (.aload_n 0, 1) := by decide +kernel
theorem dX2_placeOf_15 : decode cX2_placeOf 15 = .ok (.getfield 30, 3) := by decide +kernel
theorem dX2_placeOf_18 : decode cX2_placeOf 18 = .ok (.iload_n 3, 1) := by decide +kernel
theorem dX2_placeOf_19 : decode cX2_placeOf 19 = .ok (.iaload, 1) := by decide +kernel
theorem dX2_placeOf_20 : decode cX2_placeOf 20 = .ok (.istore 4, 2) := by decide +kernel
theorem dX2_placeOf_22 : decode cX2_placeOf 22 = .ok (.aload_n 0, 1) := by decide +kernel
theorem dX2_placeOf_23 : decode cX2_placeOf 23 = .ok (.getfield 24, 3) := by decide +kernel
theorem dX2_placeOf_26 : decode cX2_placeOf 26 = .ok (.iload_n 3, 1) := by decide +kernel
theorem dX2_placeOf_27 : decode cX2_placeOf 27 = .ok (.iaload, 1) := by decide +kernel
theorem dX2_placeOf_28 : decode cX2_placeOf 28 = .ok (.istore 5, 2) := by decide +kernel
theorem dX2_placeOf_30 : decode cX2_placeOf 30 = .ok (.iload 5, 2) := by decide +kernel
theorem dX2_placeOf_32 : decode cX2_placeOf 32 = .ok (.iload_n 2, 1) := by decide +kernel
theorem dX2_placeOf_33 : decode cX2_placeOf 33 = .ok (.if_icmp .ge 29, 3) := by decide +kernel
theorem dX2_placeOf_36 : decode cX2_placeOf 36 = .ok (.iload 4, 2) := by decide +kernel
theorem dX2_placeOf_38 : decode cX2_placeOf 38 = .ok (.aload_n 0, 1) := by decide +kernel
theorem dX2_placeOf_39 : decode cX2_placeOf 39 = .ok (.getfield 43, 3) := by decide +kernel
theorem dX2_placeOf_42 : decode cX2_placeOf 42 = .ok (.iload_n 1, 1) := by decide +kernel
theorem dX2_placeOf_43 : decode cX2_placeOf 43 = .ok (.iload 5, 2) := by decide +kernel
theorem dX2_placeOf_45 : decode cX2_placeOf 45 = .ok (.invokevirtual 143, 3) := by decide +kernel
theorem dX2_placeOf_48 : decode cX2_placeOf 48 = .ok (.invokestatic 146, 3) := by decide +kernel
theorem dX2_placeOf_51 : decode cX2_placeOf 51 = .ok (.iconst 1, 1) := by decide +kernel
theorem dX2_placeOf_52 : decode cX2_placeOf 52 = .ok (.iadd, 1) := by decide +kernel
theorem dX2_placeOf_53 : decode cX2_placeOf 53 = .ok (.iadd, 1) := by decide +kernel
theorem dX2_placeOf_54 : decode cX2_placeOf 54 = .ok (.istore 4, 2) := by decide +kernel
theorem dX2_placeOf_56 : decode cX2_placeOf 56 = .ok (.iinc 5 1, 3) := by decide +kernel
theorem dX2_placeOf_59 : decode cX2_placeOf 59 = .ok (.goto (-29), 3) := by decide +kernel
theorem dX2_placeOf_62 : decode cX2_placeOf 62 = .ok (.iload 4, 2) := by decide +kernel
theorem dX2_placeOf_64 : decode cX2_placeOf 64 = .ok (.ireturn, 1) := by decide +kernel
theorem dX3_init_0 : decode cX3_init 0 = .ok (.aload_n 0, 1) := by decide +kernel
theorem dX3_init_1 : decode cX3_init 1 = .ok (.invokespecial 3, 3) := by decide +kernel
theorem dX3_init_4 : decode cX3_init 4 = .ok (.aload_n 0, 1) := by decide +kernel
theorem dX3_init_5 : decode cX3_init 5 = .ok (.bipush 80, 2) := by decide +kernel
theorem dX3_init_7 : decode cX3_init 7 = .ok (.newarray .int, 2) := by decide +kernel
theorem dX3_init_9 : decode cX3_init 9 = .ok (.putfield 9, 3) := by decide +kernel
theorem dX3_init_12 : decode cX3_init 12 = .ok (.aload_n 0, 1) := by decide +kernel
theorem dX3_init_13 : decode cX3_init 13 = .ok (.bipush 8, 2) := by decide +kernel
theorem dX3_init_15 : decode cX3_init 15 = .ok (.newarray .int, 2) := by decide +kernel
theorem dX3_init_17 : decode cX3_init 17 = .ok (.putfield 15, 3) := by decide +kernel
theorem dX3_init_20 : decode cX3_init 20 = .ok (.aload_n 0, 1) := by decide +kernel
theorem dX3_init_21 : decode cX3_init 21 = .ok (.bipush 8, 2) := by decide +kernel
theorem dX3_init_23 : decode cX3_init 23 = .ok (.newarray .int, 2) := by decide +kernel
theorem dX3_init_25 : decode cX3_init 25 = .ok (.putfield 18, 3) := by decide +kernel
theorem dX3_init_28 : decode cX3_init 28 = .ok (.aload_n 0, 1) := by decide +kernel
theorem dX3_init_29 : decode cX3_init 29 = .ok (.bipush 8, 2) := by decide +kernel
theorem dX3_init_31 : decode cX3_init 31 = .ok (.newarray .int, 2) := by decide +kernel
theorem dX3_init_33 : decode cX3_init 33 = .ok (.putfield 21, 3) := by decide +kernel
theorem dX3_init_36 : decode cX3_init 36 = .ok (.aload_n 0, 1) := by decide +kernel
theorem dX3_init_37 : decode cX3_init 37 = .ok (.getstatic 24, 3) := by decide +kernel
theorem dX3_init_40 : decode cX3_init 40 = .ok (.invokevirtual 27, 3) := by decide +kernel
theorem dX3_init_43 : decode cX3_init 43 = .ok (.checkcast 28, 3) := by decide +kernel
theorem dX3_init_46 : decode cX3_init 46 = .ok (.putfield 32, 3) := by decide +kernel
theorem dX3_init_49 : decode cX3_init 49 = .ok (.return_, 1) := by decide +kernel
theorem dX3_copyFrom_0 : decode cX3_copyFrom 0 = .ok (.aload_n 0, 1) := by decide +kernel
theorem dX3_copyFrom_1 : decode cX3_copyFrom 1 = .ok (.aload_n 1, 1) := by decide +kernel
theorem dX3_copyFrom_2 : decode cX3_copyFrom 2 = .ok (.getfield 35, 3) := by decide +kernel
theorem dX3_copyFrom_5 : decode cX3_copyFrom 5 = .ok (.putfield 35, 3) := by decide +kernel
theorem dX3_copyFrom_8 : decode cX3_copyFrom 8 = .ok (.aload_n 0, 1) := by decide +kernel
theorem dX3_copyFrom_9 : decode cX3_copyFrom 9 = .ok (.aload_n 1, 1) := by decide +kernel
theorem dX3_copyFrom_10 : decode cX3_copyFrom 10 = .ok (.getfield 39, 3) := by decide +kernel
theorem dX3_copyFrom_13 : decode cX3_copyFrom 13 = .ok (.putfield 39, 3) := by decide +kernel
theorem dX3_copyFrom_16 : decode cX3_copyFrom 16 = .ok (.aload_n 1, 1) := by decide +kernel
theorem dX3_copyFrom_17 : decode cX3_copyFrom 17 = .ok (.getfield 9, 3) := by decide +kernel
theorem dX3_copyFrom_20 : decode cX3_copyFrom 20 = .ok (.iconst 0, 1) := by decide +kernel
theorem dX3_copyFrom_21 : decode cX3_copyFrom 21 = .ok (.aload_n 0, 1) := by decide +kernel
theorem dX3_copyFrom_22 : decode cX3_copyFrom 22 = .ok (.getfield 9, 3) := by decide +kernel
theorem dX3_copyFrom_25 : decode cX3_copyFrom 25 = .ok (.iconst 0, 1) := by decide +kernel
theorem dX3_copyFrom_26 : decode cX3_copyFrom 26 = .ok (.bipush 80, 2) := by decide +kernel
theorem dX3_copyFrom_28 : decode cX3_copyFrom 28 = .ok (.invokestatic 42, 3) := by decide +kernel
theorem dX3_copyFrom_31 : decode cX3_copyFrom 31 = .ok (.aload_n 1, 1) := by decide +kernel
theorem dX3_copyFrom_32 : decode cX3_copyFrom 32 = .ok (.getfield 15, 3) := by decide +kernel
theorem dX3_copyFrom_35 : decode cX3_copyFrom 35 = .ok (.iconst 0, 1) := by decide +kernel
theorem dX3_copyFrom_36 : decode cX3_copyFrom 36 = .ok (.aload_n 0, 1) := by decide +kernel
theorem dX3_copyFrom_37 : decode cX3_copyFrom 37 = .ok (.getfield 15, 3) := by decide +kernel
theorem dX3_copyFrom_40 : decode cX3_copyFrom 40 = .ok (.iconst 0, 1) := by decide +kernel
theorem dX3_copyFrom_41 : decode cX3_copyFrom 41 = .ok (.bipush 8, 2) := by decide +kernel
theorem dX3_copyFrom_43 : decode cX3_copyFrom 43 = .ok (.invokestatic 42, 3) := by decide +kernel
theorem dX3_copyFrom_46 : decode cX3_copyFrom 46 = .ok (.aload_n 1, 1) := by decide +kernel
theorem dX3_copyFrom_47 : decode cX3_copyFrom 47 = .ok (.getfield 18, 3) := by decide +kernel
theorem dX3_copyFrom_50 : decode cX3_copyFrom 50 = .ok (.iconst 0, 1) := by decide +kernel
theorem dX3_copyFrom_51 : decode cX3_copyFrom 51 = .ok (.aload_n 0, 1) := by decide +kernel
theorem dX3_copyFrom_52 : decode cX3_copyFrom 52 = .ok (.getfield 18, 3) := by decide +kernel
theorem dX3_copyFrom_55 : decode cX3_copyFrom 55 = .ok (.iconst 0, 1) := by decide +kernel
theorem dX3_copyFrom_56 : decode cX3_copyFrom 56 = .ok (.bipush 8, 2) := by decide +kernel
theorem dX3_copyFrom_58 : decode cX3_copyFrom 58 = .ok (.invokestatic 42, 3) := by decide +kernel
theorem dX3_copyFrom_61 : decode cX3_copyFrom 61 = .ok (.aload_n 1, 1) := by decide +kernel
theorem dX3_copyFrom_62 : decode cX3_copyFrom 62 = .ok (.getfield 21, 3) := by decide +kernel
theorem dX3_copyFrom_65 : decode cX3_copyFrom 65 = .ok (.iconst 0, 1) := by decide +kernel
theorem dX3_copyFrom_66 : decode cX3_copyFrom 66 = .ok (.aload_n 0, 1) := by decide +kernel
theorem dX3_copyFrom_67 : decode cX3_copyFrom 67 = .ok (.getfield 21, 3) := by decide +kernel
theorem dX3_copyFrom_70 : decode cX3_copyFrom 70 = .ok (.iconst 0, 1) := by decide +kernel
theorem dX3_copyFrom_71 : decode cX3_copyFrom 71 = .ok (.bipush 8, 2) := by decide +kernel
theorem dX3_copyFrom_73 : decode cX3_copyFrom 73 = .ok (.invokestatic 42, 3) := by decide +kernel
theorem dX3_copyFrom_76 : decode cX3_copyFrom 76 = .ok (.aload_n 0, 1) := by decide +kernel
theorem dX3_copyFrom_77 : decode cX3_copyFrom 77 = .ok (.aload_n 1, 1) := by decide +kernel
theorem dX3_copyFrom_78 : decode cX3_copyFrom 78 = .ok (.invokevirtual 48, 3) := by decide +kernel
theorem dX3_copyFrom_81 : decode cX3_copyFrom 81 = .ok (.return_, 1) := by decide +kernel
theorem dX3_takeSettings_0 : decode cX3_takeSettings 0 = .ok (.aload_n 1, 1) := by decide +kernel
theorem dX3_takeSettings_1 : decode cX3_takeSettings 1 = .ok (.getfield 32, 3) := by decide +kernel
theorem dX3_takeSettings_4 : decode cX3_takeSettings 4 = .ok (.iconst 0, 1) := by decide +kernel
theorem dX3_takeSettings_5 : decode cX3_takeSettings 5 = .ok (.aload_n 0, 1) := by decide +kernel
theorem dX3_takeSettings_6 : decode cX3_takeSettings 6 = .ok (.getfield 32, 3) := by decide +kernel
theorem dX3_takeSettings_9 : decode cX3_takeSettings 9 = .ok (.iconst 0, 1) := by decide +kernel
theorem dX3_takeSettings_10 : decode cX3_takeSettings 10 = .ok (.bipush 6, 2) := by decide +kernel
theorem dX3_takeSettings_12 : decode cX3_takeSettings 12 = .ok (.invokestatic 42, 3) := by decide +kernel
theorem dX3_takeSettings_15 : decode cX3_takeSettings 15 = .ok (.return_, 1) := by decide +kernel
theorem dX3_empty_0 : decode cX3_empty 0 = .ok (.aload_n 0, 1) := by decide +kernel
theorem dX3_empty_1 : decode cX3_empty 1 = .ok (.iconst 0, 1) := by decide +kernel
theorem dX3_empty_2 : decode cX3_empty 2 = .ok (.putfield 35, 3) := by decide +kernel
theorem dX3_empty_5 : decode cX3_empty 5 = .ok (.aload_n 0, 1) := by decide +kernel
theorem dX3_empty_6 : decode cX3_empty 6 = .ok (.iconst 0, 1) := by decide +kernel
theorem dX3_empty_7 : decode cX3_empty 7 = .ok (.putfield 39, 3) := by decide +kernel
theorem dX3_empty_10 : decode cX3_empty 10 = .ok (.return_, 1) := by decide +kernel
theorem dX3_addPar_0 : decode cX3_addPar 0 = .ok (.aload_n 0, 1) := by decide +kernel
theorem dX3_addPar_1 : decode cX3_addPar 1 = .ok (.getfield 35, 3) := by decide +kernel
theorem dX3_addPar_4 : decode cX3_addPar 4 = .ok (.bipush 8, 2) := by decide +kernel
theorem dX3_addPar_6 : decode cX3_addPar 6 = .ok (.if_icmp .ge 43, 3) := by decide +kernel
theorem dX3_addPar_9 : decode cX3_addPar 9 = .ok (.aload_n 0, 1) := by decide +kernel
theorem dX3_addPar_10 : decode cX3_addPar 10 = .ok (.getfield 15, 3) := by decide +kernel
theorem dX3_addPar_13 : decode cX3_addPar 13 = .ok (.aload_n 0, 1) := by decide +kernel
theorem dX3_addPar_14 : decode cX3_addPar 14 = .ok (.getfield 35, 3) := by decide +kernel
theorem dX3_addPar_17 : decode cX3_addPar 17 = .ok (.iconst 0, 1) := by decide +kernel
theorem dX3_addPar_18 : decode cX3_addPar 18 = .ok (.iastore, 1) := by decide +kernel
theorem dX3_addPar_19 : decode cX3_addPar 19 = .ok (.aload_n 0, 1) := by decide +kernel
theorem dX3_addPar_20 : decode cX3_addPar 20 = .ok (.getfield 18, 3) := by decide +kernel
theorem dX3_addPar_23 : decode cX3_addPar 23 = .ok (.aload_n 0, 1) := by decide +kernel
theorem dX3_addPar_24 : decode cX3_addPar 24 = .ok (.getfield 35, 3) := by decide +kernel
theorem dX3_addPar_27 : decode cX3_addPar 27 = .ok (.iload_n 1, 1) := by decide +kernel
theorem dX3_addPar_28 : decode cX3_addPar 28 = .ok (.iastore, 1) := by decide +kernel
theorem dX3_addPar_29 : decode cX3_addPar 29 = .ok (.aload_n 0, 1) := by decide +kernel
theorem dX3_addPar_30 : decode cX3_addPar 30 = .ok (.getfield 21, 3) := by decide +kernel
theorem dX3_addPar_33 : decode cX3_addPar 33 = .ok (.aload_n 0, 1) := by decide +kernel
theorem dX3_addPar_34 : decode cX3_addPar 34 = .ok (.getfield 35, 3) := by decide +kernel
theorem dX3_addPar_37 : decode cX3_addPar 37 = .ok (.iload_n 2, 1) := by decide +kernel
theorem dX3_addPar_38 : decode cX3_addPar 38 = .ok (.iastore, 1) := by decide +kernel
theorem dX3_addPar_39 : decode cX3_addPar 39 = .ok (.aload_n 0, 1) := by decide +kernel
theorem dX3_addPar_40 : decode cX3_addPar 40 = .ok (.dup, 1) := by decide +kernel
theorem dX3_addPar_41 : decode cX3_addPar 41 = .ok (.getfield 35, 3) := by decide +kernel
theorem dX3_addPar_44 : decode cX3_addPar 44 = .ok (.iconst 1, 1) := by decide +kernel
theorem dX3_addPar_45 : decode cX3_addPar 45 = .ok (.iadd, 1) := by decide +kernel
theorem dX3_addPar_46 : decode cX3_addPar 46 = .ok (.putfield 35, 3) := by decide +kernel
theorem dX3_addPar_49 : decode cX3_addPar 49 = .ok (.return_, 1) := by decide +kernel
theorem dX3_addWord_0 : decode cX3_addWord 0 = .ok (.aload_n 0, 1) := by decide +kernel
theorem dX3_addWord_1 : decode cX3_addWord 1 = .ok (.getfield 35, 3) := by decide +kernel
theorem dX3_addWord_4 : decode cX3_addWord 4 = .ok (.ifCond .le 47, 3) := by decide +kernel
theorem dX3_addWord_7 : decode cX3_addWord 7 = .ok (.aload_n 0, 1) := by decide +kernel
theorem dX3_addWord_8 : decode cX3_addWord 8 = .ok (.getfield 39, 3) := by decide +kernel
theorem dX3_addWord_11 : decode cX3_addWord 11 = .ok (.bipush 80, 2) := by decide +kernel
theorem dX3_addWord_13 : decode cX3_addWord 13 = .ok (.if_icmp .ge 38, 3) := by decide +kernel
theorem dX3_addWord_16 : decode cX3_addWord 16 = .ok (.aload_n 0, 1) := by decide +kernel
theorem dX3_addWord_17 : decode cX3_addWord 17 = .ok (.getfield 9, 3) := by decide +kernel
theorem dX3_addWord_20 : decode cX3_addWord 20 = .ok (.aload_n 0, 1) := by decide +kernel
theorem dX3_addWord_21 : decode cX3_addWord 21 = .ok (.getfield 39, 3) := by decide +kernel
theorem dX3_addWord_24 : decode cX3_addWord 24 = .ok (.iload_n 1, 1) := by decide +kernel
theorem dX3_addWord_25 : decode cX3_addWord 25 = .ok (.iastore, 1) := by decide +kernel
theorem dX3_addWord_26 : decode cX3_addWord 26 = .ok (.aload_n 0, 1) := by decide +kernel
theorem dX3_addWord_27 : decode cX3_addWord 27 = .ok (.dup, 1) := by decide +kernel
theorem dX3_addWord_28 : decode cX3_addWord 28 = .ok (.getfield 39, 3) := by decide +kernel
theorem dX3_addWord_31 : decode cX3_addWord 31 = .ok (.iconst 1, 1) := by decide +kernel
theorem dX3_addWord_32 : decode cX3_addWord 32 = .ok (.iadd, 1) := by decide +kernel
theorem dX3_addWord_33 : decode cX3_addWord 33 = .ok (.putfield 39, 3) := by decide +kernel
theorem dX3_addWord_36 : decode cX3_addWord 36 = .ok (.aload_n 0, 1) := by decide +kernel
theorem dX3_addWord_37 : decode cX3_addWord 37 = .ok (.getfield 15, 3) := by decide +kernel
theorem dX3_addWord_40 : decode cX3_addWord 40 = .ok (.aload_n 0, 1) := by decide +kernel
theorem dX3_addWord_41 : decode cX3_addWord 41 = .ok (.getfield 35, 3) := by decide +kernel
theorem dX3_addWord_44 : decode cX3_addWord 44 = .ok (.iconst 1, 1) := by decide +kernel
theorem dX3_addWord_45 : decode cX3_addWord 45 = .ok (.isub, 1) := by decide +kernel
theorem dX3_addWord_46 : decode cX3_addWord 46 = .ok (.dup2, 1) := by decide +kernel
theorem dX3_addWord_47 : decode cX3_addWord 47 = .ok (.iaload, 1) := by decide +kernel
theorem dX3_addWord_48 : decode cX3_addWord 48 = .ok (.iconst 1, 1) := by decide +kernel
theorem dX3_addWord_49 : decode cX3_addWord 49 = .ok (.iadd, 1) := by decide +kernel
theorem dX3_addWord_50 : decode cX3_addWord 50 = .ok (.iastore, 1) := by decide +kernel
theorem dX3_addWord_51 : decode cX3_addWord 51 = .ok (.return_, 1) := by decide +kernel
theorem dX3_hasShape_0 : decode cX3_hasShape 0 = .ok (.aload_n 0, 1) := by decide +kernel
theorem dX3_hasShape_1 : decode cX3_hasShape 1 = .ok (.getfield 18, 3) := by decide +kernel
theorem dX3_hasShape_4 : decode cX3_hasShape 4 = .ok (.iload_n 1, 1) := by decide +kernel
theorem dX3_hasShape_5 : decode cX3_hasShape 5 = .ok (.iaload, 1) := by decide +kernel
theorem dX3_hasShape_6 : decode cX3_hasShape 6 = .ok (.ifCond .lt 7, 3) := by decide +kernel
theorem dX3_hasShape_9 : decode cX3_hasShape 9 = .ok (.iconst 1, 1) := by decide +kernel
theorem dX3_hasShape_10 : decode cX3_hasShape 10 = .ok (.goto 4, 3) := by decide +kernel
theorem dX3_hasShape_13 : decode cX3_hasShape 13 = .ok (.iconst 0, 1) := by decide +kernel
theorem dX3_hasShape_14 : decode cX3_hasShape 14 = .ok (.ireturn, 1) := by decide +kernel
theorem dX3_firstOf_0 : decode cX3_firstOf 0 = .ok (.iconst 0, 1) := by decide +kernel
theorem dX3_firstOf_1 : decode cX3_firstOf 1 = .ok (.istore_n 2, 1) := by decide +kernel
theorem dX3_firstOf_2 : decode cX3_firstOf 2 = .ok (.iconst 0, 1) := by decide +kernel
theorem dX3_firstOf_3 : decode cX3_firstOf 3 = .ok (.istore_n 3, 1) := by decide +kernel
theorem dX3_firstOf_4 : decode cX3_firstOf 4 = .ok (.iload_n 3, 1) := by decide +kernel
theorem dX3_firstOf_5 : decode cX3_firstOf 5 = .ok (.iload_n 1, 1) := by decide +kernel
theorem dX3_firstOf_6 : decode cX3_firstOf 6 = .ok (.if_icmp .ge 18, 3) := by decide +kernel
theorem dX3_firstOf_9 : decode cX3_firstOf 9 = .ok (.iload_n 2, 1) := by decide +kernel
theorem dX3_firstOf_10 : decode cX3_firstOf 10 = .ok (.aload_n 0, 1) := by decide +kernel
theorem dX3_firstOf_11 : decode cX3_firstOf 11 = .ok (.getfield 15, 3) := by decide +kernel
theorem dX3_firstOf_14 : decode cX3_firstOf 14 = .ok (.iload_n 3, 1) := by decide +kernel
theorem dX3_firstOf_15 : decode cX3_firstOf 15 = .ok (.iaload, 1) := by decide +kernel
theorem dX3_firstOf_16 : decode cX3_firstOf 16 = .ok (.iadd, 1) := by decide +kernel
theorem dX3_firstOf_17 : decode cX3_firstOf 17 = .ok (.istore_n 2, 1) := by decide +kernel
theorem dX3_firstOf_18 : decode cX3_firstOf 18 = .ok (.iinc 3 1, 3) := by decide +kernel
theorem dX3_firstOf_21 : decode cX3_firstOf 21 = .ok (.goto (-17), 3) := by decide +kernel
theorem dX3_firstOf_24 : decode cX3_firstOf 24 = .ok (.iload_n 2, 1) := by decide +kernel
theorem dX3_firstOf_25 : decode cX3_firstOf 25 = .ok (.ireturn, 1) := by decide +kernel
theorem dX3_wordOf_0 : decode cX3_wordOf 0 = .ok (.aload_n 0, 1) := by decide +kernel
theorem dX3_wordOf_1 : decode cX3_wordOf 1 = .ok (.getfield 9, 3) := by decide +kernel
theorem dX3_wordOf_4 : decode cX3_wordOf 4 = .ok (.aload_n 0, 1) := by decide +kernel
theorem dX3_wordOf_5 : decode cX3_wordOf 5 = .ok (.iload_n 1, 1) := by decide +kernel
theorem dX3_wordOf_6 : decode cX3_wordOf 6 = .ok (.invokevirtual 52, 3) := by decide +kernel
theorem dX3_wordOf_9 : decode cX3_wordOf 9 = .ok (.iload_n 2, 1) := by decide +kernel
theorem dX3_wordOf_10 : decode cX3_wordOf 10 = .ok (.iadd, 1) := by decide +kernel
theorem dX3_wordOf_11 : decode cX3_wordOf 11 = .ok (.iaload, 1) := by decide +kernel
theorem dX3_wordOf_12 : decode cX3_wordOf 12 = .ok (.ireturn, 1) := by decide +kernel
theorem dX3_likeWords_0 : decode cX3_likeWords 0 = .ok (.iconst 0, 1) := by decide +kernel
theorem dX3_likeWords_1 : decode cX3_likeWords 1 = .ok (.istore_n 2, 1) := by decide +kernel
theorem dX3_likeWords_2 : decode cX3_likeWords 2 = .ok (.iconst 0, 1) := by decide +kernel
theorem dX3_likeWords_3 : decode cX3_likeWords 3 = .ok (.istore_n 3, 1) := by decide +kernel
theorem dX3_likeWords_4 : decode cX3_likeWords 4 = .ok (.iload_n 3, 1) := by decide +kernel
theorem dX3_likeWords_5 : decode cX3_likeWords 5 = .ok (.aload_n 0, 1) := by decide +kernel
theorem dX3_likeWords_6 : decode cX3_likeWords 6 = .ok (.getfield 39, 3) := by decide +kernel
theorem dX3_likeWords_9 : decode cX3_likeWords 9 = .ok (.if_icmp .ge 22, 3) := by decide +kernel
theorem dX3_likeWords_12 : decode cX3_likeWords 12 = .ok (.aload_n 0, 1) := by decide +kernel
theorem dX3_likeWords_13 : decode cX3_likeWords 13 = .ok (.getfield 9, 3) := by decide +kernel
theorem dX3_likeWords_16 : decode cX3_likeWords 16 = .ok (.iload_n 3, 1) := by decide +kernel
theorem dX3_likeWords_17 : decode cX3_likeWords 17 = .ok (.iaload, 1) := by decide +kernel
theorem dX3_likeWords_18 : decode cX3_likeWords 18 = .ok (.iload_n 1, 1) := by decide +kernel
theorem dX3_likeWords_19 : decode cX3_likeWords 19 = .ok (.if_icmp .ne 6, 3) := by decide +kernel
theorem dX3_likeWords_22 : decode cX3_likeWords 22 = .ok (.iinc 2 1, 3) := by decide +kernel
theorem dX3_likeWords_25 : decode cX3_likeWords 25 = .ok (.iinc 3 1, 3) := by decide +kernel
theorem dX3_likeWords_28 : decode cX3_likeWords 28 = .ok (.goto (-24), 3) := by decide +kernel
theorem dX3_likeWords_31 : decode cX3_likeWords 31 = .ok (.iload_n 2, 1) := by decide +kernel
theorem dX3_likeWords_32 : decode cX3_likeWords 32 = .ok (.ireturn, 1) := by decide +kernel
theorem dX3_unlikeWords_0 : decode cX3_unlikeWords 0 = .ok (.iconst 0, 1) := by decide +kernel
theorem dX3_unlikeWords_1 : decode cX3_unlikeWords 1 = .ok (.istore_n 1, 1) := by decide +kernel
theorem dX3_unlikeWords_2 : decode cX3_unlikeWords 2 = .ok (.iconst 0, 1) := by decide +kernel
theorem dX3_unlikeWords_3 : decode cX3_unlikeWords 3 = .ok (.istore_n 2, 1) := by decide +kernel
theorem dX3_unlikeWords_4 : decode cX3_unlikeWords 4 = .ok (.iload_n 2, 1) := by decide +kernel
theorem dX3_unlikeWords_5 : decode cX3_unlikeWords 5 = .ok (.aload_n 0, 1) := by decide +kernel
theorem dX3_unlikeWords_6 : decode cX3_unlikeWords 6 = .ok (.getfield 39, 3) := by decide +kernel
theorem dX3_unlikeWords_9 : decode cX3_unlikeWords 9 = .ok (.if_icmp .ge 20, 3) := by decide +kernel
theorem dX3_unlikeWords_12 : decode cX3_unlikeWords 12 = .ok (.aload_n 0, 1) := by decide +kernel
theorem dX3_unlikeWords_13 : decode cX3_unlikeWords 13 = .ok (.iload_n 2, 1) := by decide +kernel
theorem dX3_unlikeWords_14 : decode cX3_unlikeWords 14 = .ok (.invokevirtual 56, 3) := by decide +kernel
theorem dX3_unlikeWords_17 : decode cX3_unlikeWords 17 = .ok (.ifCond .ne 6, 3) := by decide +kernel
theorem dX3_unlikeWords_20 : decode cX3_unlikeWords 20 = .ok (.iinc 1 1, 3) := by decide +kernel
theorem dX3_unlikeWords_23 : decode cX3_unlikeWords 23 = .ok (.iinc 2 1, 3) := by decide +kernel
theorem dX3_unlikeWords_26 : decode cX3_unlikeWords 26 = .ok (.goto (-22), 3) := by decide +kernel
theorem dX3_unlikeWords_29 : decode cX3_unlikeWords 29 = .ok (.iload_n 1, 1) := by decide +kernel
theorem dX3_unlikeWords_30 : decode cX3_unlikeWords 30 = .ok (.ireturn, 1) := by decide +kernel
theorem dX3_comesAhead_0 : decode cX3_comesAhead 0 = .ok (.iconst 0, 1) := by decide +kernel
theorem dX3_comesAhead_1 : decode cX3_comesAhead 1 = .ok (.istore_n 2, 1) := by decide +kernel
theorem dX3_comesAhead_2 : decode cX3_comesAhead 2 = .ok (.iload_n 2, 1) := by decide +kernel
theorem dX3_comesAhead_3 : decode cX3_comesAhead 3 = .ok (.iload_n 1, 1) := by decide +kernel
theorem dX3_comesAhead_4 : decode cX3_comesAhead 4 = .ok (.if_icmp .ge 26, 3) := by decide +kernel
theorem dX3_comesAhead_7 : decode cX3_comesAhead 7 = .ok (.aload_n 0, 1) := by decide +kernel
theorem dX3_comesAhead_8 : decode cX3_comesAhead 8 = .ok (.getfield 9, 3) := by decide +kernel
theorem dX3_comesAhead_11 : decode cX3_comesAhead 11 = .ok (.iload_n 2, 1) := by decide +kernel
theorem dX3_comesAhead_12 : decode cX3_comesAhead 12 = .ok (.iaload, 1) := by decide +kernel
theorem dX3_comesAhead_13 : decode cX3_comesAhead 13 = .ok (.aload_n 0, 1) := by decide +kernel
theorem dX3_comesAhead_14 : decode cX3_comesAhead 14 = .ok (.getfield 9, 3) := by decide +kernel
theorem dX3_comesAhead_17 : decode cX3_comesAhead 17 = .ok (.iload_n 1, 1) := by decide +kernel
theorem dX3_comesAhead_18 : decode cX3_comesAhead 18 = .ok (.iaload, 1) := by decide +kernel
theorem dX3_comesAhead_19 : decode cX3_comesAhead 19 = .ok (.if_icmp .ne 5, 3) := by decide +kernel
theorem dX3_comesAhead_22 : decode cX3_comesAhead 22 = .ok (.iconst 1, 1) := by decide +kernel
theorem dX3_comesAhead_23 : decode cX3_comesAhead 23 = .ok (.ireturn, 1) := by decide +kernel
theorem dX3_comesAhead_24 : decode cX3_comesAhead 24 = .ok (.iinc 2 1, 3) := by decide +kernel
theorem dX3_comesAhead_27 : decode cX3_comesAhead 27 = .ok (.goto (-25), 3) := by decide +kernel
theorem dX3_comesAhead_30 : decode cX3_comesAhead 30 = .ok (.iconst 0, 1) := by decide +kernel
theorem dX3_comesAhead_31 : decode cX3_comesAhead 31 = .ok (.ireturn, 1) := by decide +kernel
theorem dX3_split_0 : decode cX3_split 0 = .ok (.aload_n 0, 1) := by decide +kernel
theorem dX3_split_1 : decode cX3_split 1 = .ok (.getfield 35, 3) := by decide +kernel
theorem dX3_split_4 : decode cX3_split 4 = .ok (.istore_n 3, 1) := by decide +kernel
theorem dX3_split_5 : decode cX3_split 5 = .ok (.iload_n 3, 1) := by decide +kernel
theorem dX3_split_6 : decode cX3_split 6 = .ok (.iload_n 1, 1) := by decide +kernel
theorem dX3_split_7 : decode cX3_split 7 = .ok (.iconst 1, 1) := by decide +kernel
theorem dX3_split_8 : decode cX3_split 8 = .ok (.iadd, 1) := by decide +kernel
theorem dX3_split_9 : decode cX3_split 9 = .ok (.if_icmp .le 17, 3) := by decide +kernel
theorem dX3_split_12 : decode cX3_split 12 = .ok (.aload_n 0, 1) := by decide +kernel
theorem dX3_split_13 : decode cX3_split 13 = .ok (.iload_n 3, 1) := by decide +kernel
theorem dX3_split_14 : decode cX3_split 14 = .ok (.iload_n 3, 1) := by decide +kernel
theorem dX3_split_15 : decode cX3_split 15 = .ok (.iconst 1, 1) := by decide +kernel
theorem dX3_split_16 : decode cX3_split 16 = .ok (.isub, 1) := by decide +kernel
theorem dX3_split_17 : decode cX3_split 17 = .ok (.invokevirtual 60, 3) := by decide +kernel
theorem dX3_split_20 : decode cX3_split 20 = .ok (.iinc 3 (-1), 3) := by decide +kernel
theorem dX3_split_23 : decode cX3_split 23 = .ok (.goto (-18), 3) := by decide +kernel
theorem dX3_split_26 : decode cX3_split 26 = .ok (.aload_n 0, 1) := by decide +kernel
theorem dX3_split_27 : decode cX3_split 27 = .ok (.dup, 1) := by decide +kernel
theorem dX3_split_28 : decode cX3_split 28 = .ok (.getfield 35, 3) := by decide +kernel
theorem dX3_split_31 : decode cX3_split 31 = .ok (.iconst 1, 1) := by decide +kernel
theorem dX3_split_32 : decode cX3_split 32 = .ok (.iadd, 1) := by decide +kernel
theorem dX3_split_33 : decode cX3_split 33 = .ok (.putfield 35, 3) := by decide +kernel
theorem dX3_split_36 : decode cX3_split 36 = .ok (.aload_n 0, 1) := by decide +kernel
theorem dX3_split_37 : decode cX3_split 37 = .ok (.getfield 15, 3) := by decide +kernel
theorem dX3_split_40 : decode cX3_split 40 = .ok (.iload_n 1, 1) := by decide +kernel
theorem dX3_split_41 : decode cX3_split 41 = .ok (.iconst 1, 1) := by decide +kernel
theorem dX3_split_42 : decode cX3_split 42 = .ok (.iadd, 1) := by decide +kernel
theorem dX3_split_43 : decode cX3_split 43 = .ok (.aload_n 0, 1) := by decide +kernel
theorem dX3_split_44 : decode cX3_split 44 = .ok (.getfield 15, 3) := by decide +kernel
theorem dX3_split_47 : decode cX3_split 47 = .ok (.iload_n 1, 1) := by decide +kernel
theorem dX3_split_48 : decode cX3_split 48 = .ok (.iaload, 1) := by decide +kernel
theorem dX3_split_49 : decode cX3_split 49 = .ok (.iload_n 2, 1) := by decide +kernel
theorem dX3_split_50 : decode cX3_split 50 = .ok (.isub, 1) := by decide +kernel
theorem dX3_split_51 : decode cX3_split 51 = .ok (.iastore, 1) := by decide +kernel
theorem dX3_split_52 : decode cX3_split 52 = .ok (.aload_n 0, 1) := by decide +kernel
theorem dX3_split_53 : decode cX3_split 53 = .ok (.getfield 18, 3) := by decide +kernel
theorem dX3_split_56 : decode cX3_split 56 = .ok (.iload_n 1, 1) := by decide +kernel
theorem dX3_split_57 : decode cX3_split 57 = .ok (.iconst 1, 1) := by decide +kernel
theorem dX3_split_58 : decode cX3_split 58 = .ok (.iadd, 1) := by decide +kernel
theorem dX3_split_59 : decode cX3_split 59 = .ok (.bipush (-4), 2) := by decide +kernel
theorem dX3_split_61 : decode cX3_split 61 = .ok (.iastore, 1) := by decide +kernel
theorem dX3_split_62 : decode cX3_split 62 = .ok (.aload_n 0, 1) := by decide +kernel
theorem dX3_split_63 : decode cX3_split 63 = .ok (.getfield 21, 3) := by decide +kernel
theorem dX3_split_66 : decode cX3_split 66 = .ok (.iload_n 1, 1) := by decide +kernel
theorem dX3_split_67 : decode cX3_split 67 = .ok (.iconst 1, 1) := by decide +kernel
theorem dX3_split_68 : decode cX3_split 68 = .ok (.iadd, 1) := by decide +kernel
theorem dX3_split_69 : decode cX3_split 69 = .ok (.iconst 0, 1) := by decide +kernel
theorem dX3_split_70 : decode cX3_split 70 = .ok (.iastore, 1) := by decide +kernel
theorem dX3_split_71 : decode cX3_split 71 = .ok (.aload_n 0, 1) := by decide +kernel
theorem dX3_split_72 : decode cX3_split 72 = .ok (.getfield 15, 3) := by decide +kernel
theorem dX3_split_75 : decode cX3_split 75 = .ok (.iload_n 1, 1) := by decide +kernel
theorem dX3_split_76 : decode cX3_split 76 = .ok (.iload_n 2, 1) := by decide +kernel
theorem dX3_split_77 : decode cX3_split 77 = .ok (.iastore, 1) := by decide +kernel
theorem dX3_split_78 : decode cX3_split 78 = .ok (.return_, 1) := by decide +kernel
theorem dX3_unite_0 : decode cX3_unite 0 = .ok (.aload_n 0, 1) := by decide +kernel
theorem dX3_unite_1 : decode cX3_unite 1 = .ok (.getfield 15, 3) := by decide +kernel
theorem dX3_unite_4 : decode cX3_unite 4 = .ok (.iload_n 1, 1) := by decide +kernel
theorem dX3_unite_5 : decode cX3_unite 5 = .ok (.dup2, 1) := by decide +kernel
theorem dX3_unite_6 : decode cX3_unite 6 = .ok (.iaload, 1) := by decide +kernel
theorem dX3_unite_7 : decode cX3_unite 7 = .ok (.aload_n 0, 1) := by decide +kernel
theorem dX3_unite_8 : decode cX3_unite 8 = .ok (.getfield 15, 3) := by decide +kernel
theorem dX3_unite_11 : decode cX3_unite 11 = .ok (.iload_n 1, 1) := by decide +kernel
theorem dX3_unite_12 : decode cX3_unite 12 = .ok (.iconst 1, 1) := by decide +kernel
theorem dX3_unite_13 : decode cX3_unite 13 = .ok (.iadd, 1) := by decide +kernel
theorem dX3_unite_14 : decode cX3_unite 14 = .ok (.iaload, 1) := by decide +kernel
theorem dX3_unite_15 : decode cX3_unite 15 = .ok (.iadd, 1) := by decide +kernel
theorem dX3_unite_16 : decode cX3_unite 16 = .ok (.iastore, 1) := by decide +kernel
theorem dX3_unite_17 : decode cX3_unite 17 = .ok (.aload_n 0, 1) := by decide +kernel
theorem dX3_unite_18 : decode cX3_unite 18 = .ok (.dup, 1) := by decide +kernel
theorem dX3_unite_19 : decode cX3_unite 19 = .ok (.getfield 35, 3) := by decide +kernel
theorem dX3_unite_22 : decode cX3_unite 22 = .ok (.iconst 1, 1) := by decide +kernel
theorem dX3_unite_23 : decode cX3_unite 23 = .ok (.isub, 1) := by decide +kernel
theorem dX3_unite_24 : decode cX3_unite 24 = .ok (.putfield 35, 3) := by decide +kernel
theorem dX3_unite_27 : decode cX3_unite 27 = .ok (.iload_n 1, 1) := by decide +kernel
theorem dX3_unite_28 : decode cX3_unite 28 = .ok (.iconst 1, 1) := by decide +kernel
theorem dX3_unite_29 : decode cX3_unite 29 = .ok (.iadd, 1) := by decide +kernel
theorem dX3_unite_30 : decode cX3_unite 30 = .ok (.istore_n 2, 1) := by decide +kernel
theorem dX3_unite_31 : decode cX3_unite 31 = .ok (.iload_n 2, 1) := by decide +kernel
theorem dX3_unite_32 : decode cX3_unite 32 = .ok (.aload_n 0, 1) := by decide +kernel
theorem dX3_unite_33 : decode cX3_unite 33 = .ok (.getfield 35, 3) := by decide +kernel
theorem dX3_unite_36 : decode cX3_unite 36 = .ok (.if_icmp .ge 17, 3) := by decide +kernel
theorem dX3_unite_39 : decode cX3_unite 39 = .ok (.aload_n 0, 1) := by decide +kernel
theorem dX3_unite_40 : decode cX3_unite 40 = .ok (.iload_n 2, 1) := by decide +kernel
theorem dX3_unite_41 : decode cX3_unite 41 = .ok (.iload_n 2, 1) := by decide +kernel
theorem dX3_unite_42 : decode cX3_unite 42 = .ok (.iconst 1, 1) := by decide +kernel
theorem dX3_unite_43 : decode cX3_unite 43 = .ok (.iadd, 1) := by decide +kernel
theorem dX3_unite_44 : decode cX3_unite 44 = .ok (.invokevirtual 60, 3) := by decide +kernel
theorem dX3_unite_47 : decode cX3_unite 47 = .ok (.iinc 2 1, 3) := by decide +kernel
theorem dX3_unite_50 : decode cX3_unite 50 = .ok (.goto (-19), 3) := by decide +kernel
theorem dX3_unite_53 : decode cX3_unite 53 = .ok (.return_, 1) := by decide +kernel
theorem dX3_takePar_0 : decode cX3_takePar 0 = .ok (.aload_n 0, 1) := by decide +kernel
theorem dX3_takePar_1 : decode cX3_takePar 1 = .ok (.getfield 15, 3) := by decide +kernel
theorem dX3_takePar_4 : decode cX3_takePar 4 = .ok (.iload_n 1, 1) := by decide +kernel
theorem dX3_takePar_5 : decode cX3_takePar 5 = .ok (.aload_n 0, 1) := by decide +kernel
theorem dX3_takePar_6 : decode cX3_takePar 6 = .ok (.getfield 15, 3) := by decide +kernel
theorem dX3_takePar_9 : decode cX3_takePar 9 = .ok (.iload_n 2, 1) := by decide +kernel
theorem dX3_takePar_10 : decode cX3_takePar 10 = .ok (.iaload, 1) := by decide +kernel
theorem dX3_takePar_11 : decode cX3_takePar 11 = .ok (.iastore, 1) := by decide +kernel
theorem dX3_takePar_12 : decode cX3_takePar 12 = .ok (.aload_n 0, 1) := by decide +kernel
theorem dX3_takePar_13 : decode cX3_takePar 13 = .ok (.getfield 18, 3) := by decide +kernel
theorem dX3_takePar_16 : decode cX3_takePar 16 = .ok (.iload_n 1, 1) := by decide +kernel
theorem dX3_takePar_17 : decode cX3_takePar 17 = .ok (.aload_n 0, 1) := by decide +kernel
theorem dX3_takePar_18 : decode cX3_takePar 18 = .ok (.getfield 18, 3) := by decide +kernel
theorem dX3_takePar_21 : decode cX3_takePar 21 = .ok (.iload_n 2, 1) := by decide +kernel
theorem dX3_takePar_22 : decode cX3_takePar 22 = .ok (.iaload, 1) := by decide +kernel
theorem dX3_takePar_23 : decode cX3_takePar 23 = .ok (.iastore, 1) := by decide +kernel
theorem dX3_takePar_24 : decode cX3_takePar 24 = .ok (.aload_n 0, 1) := by decide +kernel
theorem dX3_takePar_25 : decode cX3_takePar 25 = .ok (.getfield 21, 3) := by decide +kernel
theorem dX3_takePar_28 : decode cX3_takePar 28 = .ok (.iload_n 1, 1) := by decide +kernel
theorem dX3_takePar_29 : decode cX3_takePar 29 = .ok (.aload_n 0, 1) := by decide +kernel
theorem dX3_takePar_30 : decode cX3_takePar 30 = .ok (.getfield 21, 3) := by decide +kernel
theorem dX3_takePar_33 : decode cX3_takePar 33 = .ok (.iload_n 2, 1) := by decide +kernel
theorem dX3_takePar_34 : decode cX3_takePar 34 = .ok (.iaload, 1) := by decide +kernel
theorem dX3_takePar_35 : decode cX3_takePar 35 = .ok (.iastore, 1) := by decide +kernel
theorem dX3_takePar_36 : decode cX3_takePar 36 = .ok (.return_, 1) := by decide +kernel
theorem dX3_carry_0 : decode cX3_carry 0 = .ok (.aload_n 0, 1) := by decide +kernel
theorem dX3_carry_1 : decode cX3_carry 1 = .ok (.iload_n 1, 1) := by decide +kernel
theorem dX3_carry_2 : decode cX3_carry 2 = .ok (.invokevirtual 52, 3) := by decide +kernel
theorem dX3_carry_5 : decode cX3_carry 5 = .ok (.iload_n 2, 1) := by decide +kernel
theorem dX3_carry_6 : decode cX3_carry 6 = .ok (.iadd, 1) := by decide +kernel
theorem dX3_carry_7 : decode cX3_carry 7 = .ok (.istore 5, 2) := by decide +kernel
theorem dX3_carry_9 : decode cX3_carry 9 = .ok (.aload_n 0, 1) := by decide +kernel
theorem dX3_carry_10 : decode cX3_carry 10 = .ok (.iload_n 3, 1) := by decide +kernel
theorem dX3_carry_11 : decode cX3_carry 11 = .ok (.invokevirtual 52, 3) := by decide +kernel
theorem dX3_carry_14 : decode cX3_carry 14 = .ok (.iload 4, 2) := by decide +kernel
theorem dX3_carry_16 : decode cX3_carry 16 = .ok (.iadd, 1) := by decide +kernel
theorem dX3_carry_17 : decode cX3_carry 17 = .ok (.istore 6, 2) := by decide +kernel
theorem dX3_carry_19 : decode cX3_carry 19 = .ok (.aload_n 0, 1) := by decide +kernel
theorem dX3_carry_20 : decode cX3_carry 20 = .ok (.getfield 9, 3) := by decide +kernel
theorem dX3_carry_23 : decode cX3_carry 23 = .ok (.iload 5, 2) := by decide +kernel
theorem dX3_carry_25 : decode cX3_carry 25 = .ok (.iaload, 1) := by decide +kernel
theorem dX3_carry_26 : decode cX3_carry 26 = .ok (.istore 7, 2) := by decide +kernel
theorem dX3_carry_28 : decode cX3_carry 28 = .ok (.iload 5, 2) := by decide +kernel
theorem dX3_carry_30 : decode cX3_carry 30 = .ok (.istore 8, 2) := by decide +kernel
theorem dX3_carry_32 : decode cX3_carry 32 = .ok (.iload 8, 2) := by decide +kernel
theorem dX3_carry_34 : decode cX3_carry 34 = .ok (.iload 6, 2) := by decide +kernel
theorem dX3_carry_36 : decode cX3_carry 36 = .ok (.iconst 1, 1) := by decide +kernel
theorem dX3_carry_37 : decode cX3_carry 37 = .ok (.isub, 1) := by decide +kernel
theorem dX3_carry_38 : decode cX3_carry 38 = .ok (.if_icmp .ge 25, 3) := by decide +kernel
theorem dX3_carry_41 : decode cX3_carry 41 = .ok (.aload_n 0, 1) := by decide +kernel
theorem dX3_carry_42 : decode cX3_carry 42 = .ok (.getfield 9, 3) := by decide +kernel
theorem dX3_carry_45 : decode cX3_carry 45 = .ok (.iload 8, 2) := by decide +kernel
theorem dX3_carry_47 : decode cX3_carry 47 = .ok (.aload_n 0, 1) := by decide +kernel
theorem dX3_carry_48 : decode cX3_carry 48 = .ok (.getfield 9, 3) := by decide +kernel
theorem dX3_carry_51 : decode cX3_carry 51 = .ok (.iload 8, 2) := by decide +kernel
theorem dX3_carry_53 : decode cX3_carry 53 = .ok (.iconst 1, 1) := by decide +kernel
theorem dX3_carry_54 : decode cX3_carry 54 = .ok (.iadd, 1) := by decide +kernel
theorem dX3_carry_55 : decode cX3_carry 55 = .ok (.iaload, 1) := by decide +kernel
theorem dX3_carry_56 : decode cX3_carry 56 = .ok (.iastore, 1) := by decide +kernel
theorem dX3_carry_57 : decode cX3_carry 57 = .ok (.iinc 8 1, 3) := by decide +kernel
theorem dX3_carry_60 : decode cX3_carry 60 = .ok (.goto (-28), 3) := by decide +kernel
theorem dX3_carry_63 : decode cX3_carry 63 = .ok (.iload 5, 2) := by decide +kernel
theorem dX3_carry_65 : decode cX3_carry 65 = .ok (.istore 8, 2) := by decide +kernel
theorem dX3_carry_67 : decode cX3_carry 67 = .ok (.iload 8, 2) := by decide +kernel
theorem dX3_carry_69 : decode cX3_carry 69 = .ok (.iload 6, 2) := by decide +kernel
theorem dX3_carry_71 : decode cX3_carry 71 = .ok (.if_icmp .le 25, 3) := by decide +kernel
theorem dX3_carry_74 : decode cX3_carry 74 = .ok (.aload_n 0, 1) := by decide +kernel
theorem dX3_carry_75 : decode cX3_carry 75 = .ok (.getfield 9, 3) := by decide +kernel
theorem dX3_carry_78 : decode cX3_carry 78 = .ok (.iload 8, 2) := by decide +kernel
theorem dX3_carry_80 : decode cX3_carry 80 = .ok (.aload_n 0, 1) := by decide +kernel
theorem dX3_carry_81 : decode cX3_carry 81 = .ok (.getfield 9, 3) := by decide +kernel
theorem dX3_carry_84 : decode cX3_carry 84 = .ok (.iload 8, 2) := by decide +kernel
theorem dX3_carry_86 : decode cX3_carry 86 = .ok (.iconst 1, 1) := by decide +kernel
theorem dX3_carry_87 : decode cX3_carry 87 = .ok (.isub, 1) := by decide +kernel
theorem dX3_carry_88 : decode cX3_carry 88 = .ok (.iaload, 1) := by decide +kernel
theorem dX3_carry_89 : decode cX3_carry 89 = .ok (.iastore, 1) := by decide +kernel
theorem dX3_carry_90 : decode cX3_carry 90 = .ok (.iinc 8 (-1), 3) := by decide +kernel
theorem dX3_carry_93 : decode cX3_carry 93 = .ok (.goto (-26), 3) := by decide +kernel
theorem dX3_carry_96 : decode cX3_carry 96 = .ok (.aload_n 0, 1) := by decide +kernel
theorem dX3_carry_97 : decode cX3_carry 97 = .ok (.getfield 9, 3) := by decide +kernel
theorem dX3_carry_100 : decode cX3_carry 100 = .ok (.iload 5, 2) := by decide +kernel
theorem dX3_carry_102 : decode cX3_carry 102 = .ok (.iload 6, 2) := by decide +kernel
theorem dX3_carry_104 : decode cX3_carry 104 = .ok (.if_icmp .ge 10, 3) := by decide +kernel
theorem dX3_carry_107 : decode cX3_carry 107 = .ok (.iload 6, 2) := by decide +kernel
theorem dX3_carry_109 : decode cX3_carry 109 = .ok (.iconst 1, 1) := by decide +kernel
theorem dX3_carry_110 : decode cX3_carry 110 = .ok (.isub, 1) := by decide +kernel
theorem dX3_carry_111 : decode cX3_carry 111 = .ok (.goto 5, 3) := by decide +kernel
theorem dX3_carry_114 : decode cX3_carry 114 = .ok (.iload 6, 2) := by decide +kernel
theorem dX3_carry_116 : decode cX3_carry 116 = .ok (.iload 7, 2) := by decide +kernel
theorem dX3_carry_118 : decode cX3_carry 118 = .ok (.iastore, 1) := by decide +kernel
theorem dX3_carry_119 : decode cX3_carry 119 = .ok (.aload_n 0, 1) := by decide +kernel
theorem dX3_carry_120 : decode cX3_carry 120 = .ok (.getfield 15, 3) := by decide +kernel
theorem dX3_carry_123 : decode cX3_carry 123 = .ok (.iload_n 1, 1) := by decide +kernel
theorem dX3_carry_124 : decode cX3_carry 124 = .ok (.dup2, 1) := by decide +kernel
theorem dX3_carry_125 : decode cX3_carry 125 = .ok (.iaload, 1) := by decide +kernel
theorem dX3_carry_126 : decode cX3_carry 126 = .ok (.iconst 1, 1) := by decide +kernel
theorem dX3_carry_127 : decode cX3_carry 127 = .ok (.isub, 1) := by decide +kernel
theorem dX3_carry_128 : decode cX3_carry 128 = .ok (.iastore, 1) := by decide +kernel
theorem dX3_carry_129 : decode cX3_carry 129 = .ok (.aload_n 0, 1) := by decide +kernel
theorem dX3_carry_130 : decode cX3_carry 130 = .ok (.getfield 15, 3) := by decide +kernel
theorem dX3_carry_133 : decode cX3_carry 133 = .ok (.iload_n 3, 1) := by decide +kernel
theorem dX3_carry_134 : decode cX3_carry 134 = .ok (.dup2, 1) := by decide +kernel
theorem dX3_carry_135 : decode cX3_carry 135 = .ok (.iaload, 1) := by decide +kernel
theorem dX3_carry_136 : decode cX3_carry 136 = .ok (.iconst 1, 1) := by decide +kernel
theorem dX3_carry_137 : decode cX3_carry 137 = .ok (.iadd, 1) := by decide +kernel
theorem dX3_carry_138 : decode cX3_carry 138 = .ok (.iastore, 1) := by decide +kernel
theorem dX3_carry_139 : decode cX3_carry 139 = .ok (.return_, 1) := by decide +kernel
theorem dX4_init_0 : decode cX4_init 0 = .ok (.aload_n 0, 1) := by decide +kernel
theorem dX4_init_1 : decode cX4_init 1 = .ok (.invokespecial 3, 3) := by decide +kernel
theorem dX4_init_4 : decode cX4_init 4 = .ok (.aload_n 0, 1) := by decide +kernel
theorem dX4_init_5 : decode cX4_init 5 = .ok (.aload_n 1, 1) := by decide +kernel
theorem dX4_init_6 : decode cX4_init 6 = .ok (.putfield 9, 3) := by decide +kernel
theorem dX4_init_9 : decode cX4_init 9 = .ok (.aload_n 0, 1) := by decide +kernel
theorem dX4_init_10 : decode cX4_init 10 = .ok (.aload_n 2, 1) := by decide +kernel
theorem dX4_init_11 : decode cX4_init 11 = .ok (.putfield 15, 3) := by decide +kernel
theorem dX4_init_14 : decode cX4_init 14 = .ok (.aload_n 0, 1) := by decide +kernel
theorem dX4_init_15 : decode cX4_init 15 = .ok (.aload_n 3, 1) := by decide +kernel
theorem dX4_init_16 : decode cX4_init 16 = .ok (.putfield 19, 3) := by decide +kernel
theorem dX4_init_19 : decode cX4_init 19 = .ok (.return_, 1) := by decide +kernel
theorem dX4_faultKind_0 : decode cX4_faultKind 0 = .ok (.aload_n 0, 1) := by decide +kernel
theorem dX4_faultKind_1 : decode cX4_faultKind 1 = .ok (.getfield 23, 3) := by decide +kernel
theorem dX4_faultKind_4 : decode cX4_faultKind 4 = .ok (.ireturn, 1) := by decide +kernel
theorem dX4_readAll_0 : decode cX4_readAll 0 = .ok (.aload_n 0, 1) := by decide +kernel
theorem dX4_readAll_1 : decode cX4_readAll 1 = .ok (.iload_n 1, 1) := by decide +kernel
theorem dX4_readAll_2 : decode cX4_readAll 2 = .ok (.aload_n 0, 1) := by decide +kernel
theorem dX4_readAll_3 : decode cX4_readAll 3 = .ok (.getfield 9, 3) := by decide +kernel
theorem dX4_readAll_6 : decode cX4_readAll 6 = .ok (.arraylength, 1) := by decide +kernel
theorem dX4_readAll_7 : decode cX4_readAll 7 = .ok (.invokestatic 27, 3) := by decide +kernel
theorem dX4_readAll_10 : decode cX4_readAll 10 = .ok (.putfield 33, 3) := by decide +kernel
theorem dX4_readAll_13 : decode cX4_readAll 13 = .ok (.aload_n 0, 1) := by decide +kernel
theorem dX4_readAll_14 : decode cX4_readAll 14 = .ok (.iconst 0, 1) := by decide +kernel
theorem dX4_readAll_15 : decode cX4_readAll 15 = .ok (.putfield 36, 3) := by decide +kernel
theorem dX4_readAll_18 : decode cX4_readAll 18 = .ok (.aload_n 0, 1) := by decide +kernel
theorem dX4_readAll_19 : decode cX4_readAll 19 = .ok (.iconst 0, 1) := by decide +kernel
theorem dX4_readAll_20 : decode cX4_readAll 20 = .ok (.putfield 39, 3) := by decide +kernel
theorem dX4_readAll_23 : decode cX4_readAll 23 = .ok (.aload_n 0, 1) := by decide +kernel
theorem dX4_readAll_24 : decode cX4_readAll 24 = .ok (.iconst 0, 1) := by decide +kernel
theorem dX4_readAll_25 : decode cX4_readAll 25 = .ok (.putfield 23, 3) := by decide +kernel
theorem dX4_readAll_28 : decode cX4_readAll 28 = .ok (.aload_n 0, 1) := by decide +kernel
theorem dX4_readAll_29 : decode cX4_readAll 29 = .ok (.getfield 15, 3) := by decide +kernel
theorem dX4_readAll_32 : decode cX4_readAll 32 = .ok (.iconst 0, 1) := by decide +kernel
theorem dX4_readAll_33 : decode cX4_readAll 33 = .ok (.putfield 42, 3) := by decide +kernel
theorem dX4_readAll_36 : decode cX4_readAll 36 = .ok (.aload_n 0, 1) := by decide +kernel
theorem dX4_readAll_37 : decode cX4_readAll 37 = .ok (.getfield 19, 3) := by decide +kernel
theorem dX4_readAll_40 : decode cX4_readAll 40 = .ok (.invokevirtual 47, 3) := by decide +kernel
theorem dX4_readAll_43 : decode cX4_readAll 43 = .ok (.iconst 0, 1) := by decide +kernel
theorem dX4_readAll_44 : decode cX4_readAll 44 = .ok (.istore_n 2, 1) := by decide +kernel
theorem dX4_readAll_45 : decode cX4_readAll 45 = .ok (.iload_n 2, 1) := by decide +kernel
theorem dX4_readAll_46 : decode cX4_readAll 46 = .ok (.sipush 400, 3) := by decide +kernel
theorem dX4_readAll_49 : decode cX4_readAll 49 = .ok (.if_icmp .gt 33, 3) := by decide +kernel
theorem dX4_readAll_52 : decode cX4_readAll 52 = .ok (.aload_n 0, 1) := by decide +kernel
theorem dX4_readAll_53 : decode cX4_readAll 53 = .ok (.invokevirtual 52, 3) := by decide +kernel
theorem dX4_readAll_56 : decode cX4_readAll 56 = .ok (.aload_n 0, 1) := by decide +kernel
theorem dX4_readAll_57 : decode cX4_readAll 57 = .ok (.getfield 55, 3) := by decide +kernel
theorem dX4_readAll_60 : decode cX4_readAll 60 = .ok (.iconst 5, 1) := by decide +kernel
theorem dX4_readAll_61 : decode cX4_readAll 61 = .ok (.if_icmp .ne 5, 3) := by decide +kernel
theorem dX4_readAll_64 : decode cX4_readAll 64 = .ok (.iload_n 2, 1) := by decide +kernel
theorem dX4_readAll_65 : decode cX4_readAll 65 = .ok (.ireturn, 1) := by decide +kernel
theorem dX4_readAll_66 : decode cX4_readAll 66 = .ok (.aload_n 0, 1) := by decide +kernel
theorem dX4_readAll_67 : decode cX4_readAll 67 = .ok (.invokevirtual 58, 3) := by decide +kernel
theorem dX4_readAll_70 : decode cX4_readAll 70 = .ok (.ifCond .ne 6, 3) := by decide +kernel
theorem dX4_readAll_73 : decode cX4_readAll 73 = .ok (.goto 9, 3) := by decide +kernel
theorem dX4_readAll_76 : decode cX4_readAll 76 = .ok (.iinc 2 1, 3) := by decide +kernel
theorem dX4_readAll_79 : decode cX4_readAll 79 = .ok (.goto (-34), 3) := by decide +kernel
theorem dX4_readAll_82 : decode cX4_readAll 82 = .ok (.bipush (-10), 2) := by decide +kernel
theorem dX4_readAll_84 : decode cX4_readAll 84 = .ok (.aload_n 0, 1) := by decide +kernel
theorem dX4_readAll_85 : decode cX4_readAll 85 = .ok (.getfield 62, 3) := by decide +kernel
theorem dX4_readAll_88 : decode cX4_readAll 88 = .ok (.isub, 1) := by decide +kernel
theorem dX4_readAll_89 : decode cX4_readAll 89 = .ok (.ireturn, 1) := by decide +kernel
theorem dX4_readLine_0 : decode cX4_readLine 0 = .ok (.aload_n 0, 1) := by decide +kernel
theorem dX4_readLine_1 : decode cX4_readLine 1 = .ok (.getfield 55, 3) := by decide +kernel
theorem dX4_readLine_4 : decode cX4_readLine 4 = .ok (.iconst 1, 1) := by decide +kernel
theorem dX4_readLine_5 : decode cX4_readLine 5 = .ok (.if_icmp .eq 9, 3) := by decide +kernel
theorem dX4_readLine_8 : decode cX4_readLine 8 = .ok (.aload_n 0, 1) := by decide +kernel
theorem dX4_readLine_9 : decode cX4_readLine 9 = .ok (.iconst 2, 1) := by decide +kernel
theorem dX4_readLine_10 : decode cX4_readLine 10 = .ok (.invokevirtual 65, 3) := by decide +kernel
theorem dX4_readLine_13 : decode cX4_readLine 13 = .ok (.ireturn, 1) := by decide +kernel
theorem dX4_readLine_14 : decode cX4_readLine 14 = .ok (.aload_n 0, 1) := by decide +kernel
theorem dX4_readLine_15 : decode cX4_readLine 15 = .ok (.ldc 69, 2) := by decide +kernel
theorem dX4_readLine_17 : decode cX4_readLine 17 = .ok (.invokevirtual 71, 3) := by decide +kernel
theorem dX4_readLine_20 : decode cX4_readLine 20 = .ok (.ifCond .eq 8, 3) := by decide +kernel
theorem dX4_readLine_23 : decode cX4_readLine 23 = .ok (.aload_n 0, 1) := by decide +kernel
theorem dX4_readLine_24 : decode cX4_readLine 24 = .ok (.invokevirtual 75, 3) := by decide +kernel
theorem dX4_readLine_27 : decode cX4_readLine 27 = .ok (.ireturn, 1) := by decide +kernel
theorem dX4_readLine_28 : decode cX4_readLine 28 = .ok (.aload_n 0, 1) := by decide +kernel
theorem dX4_readLine_29 : decode cX4_readLine 29 = .ok (.ldc 78, 2) := by decide +kernel
theorem dX4_readLine_31 : decode cX4_readLine 31 = .ok (.invokevirtual 71, 3) := by decide +kernel
theorem dX4_readLine_34 : decode cX4_readLine 34 = .ok (.ifCond .eq 28, 3) := by decide +kernel
theorem dX4_readLine_37 : decode cX4_readLine 37 = .ok (.aload_n 0, 1) := by decide +kernel
theorem dX4_readLine_38 : decode cX4_readLine 38 = .ok (.getfield 15, 3) := by decide +kernel
theorem dX4_readLine_41 : decode cX4_readLine 41 = .ok (.getfield 42, 3) := by decide +kernel
theorem dX4_readLine_44 : decode cX4_readLine 44 = .ok (.bipush 6, 2) := by decide +kernel
theorem dX4_readLine_46 : decode cX4_readLine 46 = .ok (.if_icmp .lt 11, 3) := by decide +kernel
theorem dX4_readLine_49 : decode cX4_readLine 49 = .ok (.aload_n 0, 1) := by decide +kernel
theorem dX4_readLine_50 : decode cX4_readLine 50 = .ok (.iconst 5, 1) := by decide +kernel
theorem dX4_readLine_51 : decode cX4_readLine 51 = .ok (.invokevirtual 65, 3) := by decide +kernel
theorem dX4_readLine_54 : decode cX4_readLine 54 = .ok (.goto 7, 3) := by decide +kernel
theorem dX4_readLine_57 : decode cX4_readLine 57 = .ok (.aload_n 0, 1) := by decide +kernel
theorem dX4_readLine_58 : decode cX4_readLine 58 = .ok (.invokevirtual 80, 3) := by decide +kernel
theorem dX4_readLine_61 : decode cX4_readLine 61 = .ok (.ireturn, 1) := by decide +kernel
theorem dX4_readLine_62 : decode cX4_readLine 62 = .ok (.aload_n 0, 1) := by decide +kernel
theorem dX4_readLine_63 : decode cX4_readLine 63 = .ok (.ldc 83, 2) := by decide +kernel
theorem dX4_readLine_65 : decode cX4_readLine 65 = .ok (.invokevirtual 71, 3) := by decide +kernel
theorem dX4_readLine_68 : decode cX4_readLine 68 = .ok (.ifCond .eq 28, 3) := by decide +kernel
theorem dX4_readLine_71 : decode cX4_readLine 71 = .ok (.aload_n 0, 1) := by decide +kernel
theorem dX4_readLine_72 : decode cX4_readLine 72 = .ok (.getfield 19, 3) := by decide +kernel
theorem dX4_readLine_75 : decode cX4_readLine 75 = .ok (.getfield 85, 3) := by decide +kernel
theorem dX4_readLine_78 : decode cX4_readLine 78 = .ok (.bipush 8, 2) := by decide +kernel
theorem dX4_readLine_80 : decode cX4_readLine 80 = .ok (.if_icmp .lt 11, 3) := by decide +kernel
theorem dX4_readLine_83 : decode cX4_readLine 83 = .ok (.aload_n 0, 1) := by decide +kernel
theorem dX4_readLine_84 : decode cX4_readLine 84 = .ok (.iconst 5, 1) := by decide +kernel
theorem dX4_readLine_85 : decode cX4_readLine 85 = .ok (.invokevirtual 65, 3) := by decide +kernel
theorem dX4_readLine_88 : decode cX4_readLine 88 = .ok (.goto 7, 3) := by decide +kernel
theorem dX4_readLine_91 : decode cX4_readLine 91 = .ok (.aload_n 0, 1) := by decide +kernel
theorem dX4_readLine_92 : decode cX4_readLine 92 = .ok (.invokevirtual 86, 3) := by decide +kernel
theorem dX4_readLine_95 : decode cX4_readLine 95 = .ok (.ireturn, 1) := by decide +kernel
theorem dX4_readLine_96 : decode cX4_readLine 96 = .ok (.aload_n 0, 1) := by decide +kernel
theorem dX4_readLine_97 : decode cX4_readLine 97 = .ok (.iconst 2, 1) := by decide +kernel
theorem dX4_readLine_98 : decode cX4_readLine 98 = .ok (.invokevirtual 65, 3) := by decide +kernel
theorem dX4_readLine_101 : decode cX4_readLine 101 = .ok (.ireturn, 1) := by decide +kernel
theorem dX4_readSetting_0 : decode cX4_readSetting 0 = .ok (.aload_n 0, 1) := by decide +kernel
theorem dX4_readSetting_1 : decode cX4_readSetting 1 = .ok (.invokevirtual 52, 3) := by decide +kernel
theorem dX4_readSetting_4 : decode cX4_readSetting 4 = .ok (.aload_n 0, 1) := by decide +kernel
theorem dX4_readSetting_5 : decode cX4_readSetting 5 = .ok (.getfield 55, 3) := by decide +kernel
theorem dX4_readSetting_8 : decode cX4_readSetting 8 = .ok (.iconst 1, 1) := by decide +kernel
theorem dX4_readSetting_9 : decode cX4_readSetting 9 = .ok (.if_icmp .ne 10, 3) := by decide +kernel
theorem dX4_readSetting_12 : decode cX4_readSetting 12 = .ok (.aload_n 0, 1) := by decide +kernel
theorem dX4_readSetting_13 : decode cX4_readSetting 13 = .ok (.invokevirtual 89, 3) := by decide +kernel
theorem dX4_readSetting_16 : decode cX4_readSetting 16 = .ok (.goto 5, 3) := by decide +kernel
theorem dX4_readSetting_19 : decode cX4_readSetting 19 = .ok (.bipush (-4), 2) := by decide +kernel
theorem dX4_readSetting_21 : decode cX4_readSetting 21 = .ok (.istore_n 1, 1) := by decide +kernel
theorem dX4_readSetting_22 : decode cX4_readSetting 22 = .ok (.iload_n 1, 1) := by decide +kernel
theorem dX4_readSetting_23 : decode cX4_readSetting 23 = .ok (.ifCond .ge 9, 3) := by decide +kernel
theorem dX4_readSetting_26 : decode cX4_readSetting 26 = .ok (.aload_n 0, 1) := by decide +kernel
theorem dX4_readSetting_27 : decode cX4_readSetting 27 = .ok (.iconst 2, 1) := by decide +kernel
theorem dX4_readSetting_28 : decode cX4_readSetting 28 = .ok (.invokevirtual 65, 3) := by decide +kernel
theorem dX4_readSetting_31 : decode cX4_readSetting 31 = .ok (.ireturn, 1) := by decide +kernel
theorem dX4_readSetting_32 : decode cX4_readSetting 32 = .ok (.iconst 1, 1) := by decide +kernel
theorem dX4_readSetting_33 : decode cX4_readSetting 33 = .ok (.iload_n 1, 1) := by decide +kernel
theorem dX4_readSetting_34 : decode cX4_readSetting 34 = .ok (.ishl, 1) := by decide +kernel
theorem dX4_readSetting_35 : decode cX4_readSetting 35 = .ok (.istore_n 2, 1) := by decide +kernel
theorem dX4_readSetting_36 : decode cX4_readSetting 36 = .ok (.aload_n 0, 1) := by decide +kernel
theorem dX4_readSetting_37 : decode cX4_readSetting 37 = .ok (.getfield 39, 3) := by decide +kernel
theorem dX4_readSetting_40 : decode cX4_readSetting 40 = .ok (.iload_n 2, 1) := by decide +kernel
theorem dX4_readSetting_41 : decode cX4_readSetting 41 = .ok (.iand, 1) := by decide +kernel
theorem dX4_readSetting_42 : decode cX4_readSetting 42 = .ok (.ifCond .eq 9, 3) := by decide +kernel
theorem dX4_readSetting_45 : decode cX4_readSetting 45 = .ok (.aload_n 0, 1) := by decide +kernel
theorem dX4_readSetting_46 : decode cX4_readSetting 46 = .ok (.iconst 4, 1) := by decide +kernel
theorem dX4_readSetting_47 : decode cX4_readSetting 47 = .ok (.invokevirtual 65, 3) := by decide +kernel
theorem dX4_readSetting_50 : decode cX4_readSetting 50 = .ok (.ireturn, 1) := by decide +kernel
theorem dX4_readSetting_51 : decode cX4_readSetting 51 = .ok (.aload_n 0, 1) := by decide +kernel
theorem dX4_readSetting_52 : decode cX4_readSetting 52 = .ok (.getstatic 93, 3) := by decide +kernel
theorem dX4_readSetting_55 : decode cX4_readSetting 55 = .ok (.iload_n 1, 1) := by decide +kernel
theorem dX4_readSetting_56 : decode cX4_readSetting 56 = .ok (.iaload, 1) := by decide +kernel
theorem dX4_readSetting_57 : decode cX4_readSetting 57 = .ok (.getstatic 97, 3) := by decide +kernel
theorem dX4_readSetting_60 : decode cX4_readSetting 60 = .ok (.iload_n 1, 1) := by decide +kernel
theorem dX4_readSetting_61 : decode cX4_readSetting 61 = .ok (.iaload, 1) := by decide +kernel
theorem dX4_readSetting_62 : decode cX4_readSetting 62 = .ok (.invokevirtual 100, 3) := by decide +kernel
theorem dX4_readSetting_65 : decode cX4_readSetting 65 = .ok (.ifCond .ne 5, 3) := by decide +kernel
theorem dX4_readSetting_68 : decode cX4_readSetting 68 = .ok (.iconst 0, 1) := by decide +kernel
theorem dX4_readSetting_69 : decode cX4_readSetting 69 = .ok (.ireturn, 1) := by decide +kernel
theorem dX4_readSetting_70 : decode cX4_readSetting 70 = .ok (.aload_n 0, 1) := by decide +kernel
theorem dX4_readSetting_71 : decode cX4_readSetting 71 = .ok (.dup, 1) := by decide +kernel
theorem dX4_readSetting_72 : decode cX4_readSetting 72 = .ok (.getfield 39, 3) := by decide +kernel
theorem dX4_readSetting_75 : decode cX4_readSetting 75 = .ok (.iload_n 2, 1) := by decide +kernel
theorem dX4_readSetting_76 : decode cX4_readSetting 76 = .ok (.ior, 1) := by decide +kernel
theorem dX4_readSetting_77 : decode cX4_readSetting 77 = .ok (.putfield 39, 3) := by decide +kernel
theorem dX4_readSetting_80 : decode cX4_readSetting 80 = .ok (.aload_n 0, 1) := by decide +kernel
theorem dX4_readSetting_81 : decode cX4_readSetting 81 = .ok (.getfield 19, 3) := by decide +kernel
theorem dX4_readSetting_84 : decode cX4_readSetting 84 = .ok (.getfield 104, 3) := by decide +kernel
theorem dX4_readSetting_87 : decode cX4_readSetting 87 = .ok (.iload_n 1, 1) := by decide +kernel
theorem dX4_readSetting_88 : decode cX4_readSetting 88 = .ok (.aload_n 0, 1) := by decide +kernel
theorem dX4_readSetting_89 : decode cX4_readSetting 89 = .ok (.getfield 107, 3) := by decide +kernel
theorem dX4_readSetting_92 : decode cX4_readSetting 92 = .ok (.iastore, 1) := by decide +kernel
theorem dX4_readSetting_93 : decode cX4_readSetting 93 = .ok (.aload_n 0, 1) := by decide +kernel
theorem dX4_readSetting_94 : decode cX4_readSetting 94 = .ok (.invokevirtual 52, 3) := by decide +kernel
theorem dX4_readSetting_97 : decode cX4_readSetting 97 = .ok (.aload_n 0, 1) := by decide +kernel
theorem dX4_readSetting_98 : decode cX4_readSetting 98 = .ok (.getfield 55, 3) := by decide +kernel
theorem dX4_readSetting_101 : decode cX4_readSetting 101 = .ok (.iconst 4, 1) := by decide +kernel
theorem dX4_readSetting_102 : decode cX4_readSetting 102 = .ok (.if_icmp .eq 11, 3) := by decide +kernel
theorem dX4_readSetting_105 : decode cX4_readSetting 105 = .ok (.aload_n 0, 1) := by decide +kernel
theorem dX4_readSetting_106 : decode cX4_readSetting 106 = .ok (.iconst 2, 1) := by decide +kernel
theorem dX4_readSetting_107 : decode cX4_readSetting 107 = .ok (.invokevirtual 65, 3) := by decide +kernel
theorem dX4_readSetting_110 : decode cX4_readSetting 110 = .ok (.ifCond .eq 7, 3) := by decide +kernel
theorem dX4_readSetting_113 : decode cX4_readSetting 113 = .ok (.iconst 1, 1) := by decide +kernel
theorem dX4_readSetting_114 : decode cX4_readSetting 114 = .ok (.goto 4, 3) := by decide +kernel
theorem dX4_readSetting_117 : decode cX4_readSetting 117 = .ok (.iconst 0, 1) := by decide +kernel
theorem dX4_readSetting_118 : decode cX4_readSetting 118 = .ok (.ireturn, 1) := by decide +kernel
theorem dX4_readShape_0 : decode cX4_readShape 0 = .ok (.aload_n 0, 1) := by decide +kernel
theorem dX4_readShape_1 : decode cX4_readShape 1 = .ok (.invokevirtual 52, 3) := by decide +kernel
theorem dX4_readShape_4 : decode cX4_readShape 4 = .ok (.aload_n 0, 1) := by decide +kernel
theorem dX4_readShape_5 : decode cX4_readShape 5 = .ok (.getfield 55, 3) := by decide +kernel
theorem dX4_readShape_8 : decode cX4_readShape 8 = .ok (.iconst 1, 1) := by decide +kernel
theorem dX4_readShape_9 : decode cX4_readShape 9 = .ok (.if_icmp .ne 11, 3) := by decide +kernel
theorem dX4_readShape_12 : decode cX4_readShape 12 = .ok (.aload_n 0, 1) := by decide +kernel
theorem dX4_readShape_13 : decode cX4_readShape 13 = .ok (.getfield 110, 3) := by decide +kernel
theorem dX4_readShape_16 : decode cX4_readShape 16 = .ok (.iconst 1, 1) := by decide +kernel
theorem dX4_readShape_17 : decode cX4_readShape 17 = .ok (.if_icmp .eq 9, 3) := by decide +kernel
theorem dX4_readShape_20 : decode cX4_readShape 20 = .ok (.aload_n 0, 1) := by decide +kernel
theorem dX4_readShape_21 : decode cX4_readShape 21 = .ok (.iconst 2, 1) := by decide +kernel
theorem dX4_readShape_22 : decode cX4_readShape 22 = .ok (.invokevirtual 65, 3) := by decide +kernel
theorem dX4_readShape_25 : decode cX4_readShape 25 = .ok (.ireturn, 1) := by decide +kernel
theorem dX4_readShape_26 : decode cX4_readShape 26 = .ok (.aload_n 0, 1) := by decide +kernel
theorem dX4_readShape_27 : decode cX4_readShape 27 = .ok (.aload_n 0, 1) := by decide +kernel
theorem dX4_readShape_28 : decode cX4_readShape 28 = .ok (.getfield 62, 3) := by decide +kernel
theorem dX4_readShape_31 : decode cX4_readShape 31 = .ok (.invokevirtual 113, 3) := by decide +kernel
theorem dX4_readShape_34 : decode cX4_readShape 34 = .ok (.istore_n 1, 1) := by decide +kernel
theorem dX4_readShape_35 : decode cX4_readShape 35 = .ok (.aload_n 0, 1) := by decide +kernel
theorem dX4_readShape_36 : decode cX4_readShape 36 = .ok (.getfield 15, 3) := by decide +kernel
theorem dX4_readShape_39 : decode cX4_readShape 39 = .ok (.iload_n 1, 1) := by decide +kernel
theorem dX4_readShape_40 : decode cX4_readShape 40 = .ok (.invokevirtual 117, 3) := by decide +kernel
theorem dX4_readShape_43 : decode cX4_readShape 43 = .ok (.ifCond .lt 9, 3) := by decide +kernel
theorem dX4_readShape_46 : decode cX4_readShape 46 = .ok (.aload_n 0, 1) := by decide +kernel
theorem dX4_readShape_47 : decode cX4_readShape 47 = .ok (.iconst 4, 1) := by decide +kernel
theorem dX4_readShape_48 : decode cX4_readShape 48 = .ok (.invokevirtual 65, 3) := by decide +kernel
theorem dX4_readShape_51 : decode cX4_readShape 51 = .ok (.ireturn, 1) := by decide +kernel
theorem dX4_readShape_52 : decode cX4_readShape 52 = .ok (.aload_n 0, 1) := by decide +kernel
theorem dX4_readShape_53 : decode cX4_readShape 53 = .ok (.iconst 1, 1) := by decide +kernel
theorem dX4_readShape_54 : decode cX4_readShape 54 = .ok (.bipush 60, 2) := by decide +kernel
theorem dX4_readShape_56 : decode cX4_readShape 56 = .ok (.invokevirtual 100, 3) := by decide +kernel
theorem dX4_readShape_59 : decode cX4_readShape 59 = .ok (.ifCond .ne 5, 3) := by decide +kernel
theorem dX4_readShape_62 : decode cX4_readShape 62 = .ok (.iconst 0, 1) := by decide +kernel
theorem dX4_readShape_63 : decode cX4_readShape 63 = .ok (.ireturn, 1) := by decide +kernel
theorem dX4_readShape_64 : decode cX4_readShape 64 = .ok (.aload_n 0, 1) := by decide +kernel
theorem dX4_readShape_65 : decode cX4_readShape 65 = .ok (.getfield 107, 3) := by decide +kernel
theorem dX4_readShape_68 : decode cX4_readShape 68 = .ok (.istore_n 2, 1) := by decide +kernel
theorem dX4_readShape_69 : decode cX4_readShape 69 = .ok (.aload_n 0, 1) := by decide +kernel
theorem dX4_readShape_70 : decode cX4_readShape 70 = .ok (.getfield 15, 3) := by decide +kernel
theorem dX4_readShape_73 : decode cX4_readShape 73 = .ok (.iload_n 1, 1) := by decide +kernel
theorem dX4_readShape_74 : decode cX4_readShape 74 = .ok (.iload_n 2, 1) := by decide +kernel
theorem dX4_readShape_75 : decode cX4_readShape 75 = .ok (.invokevirtual 120, 3) := by decide +kernel
theorem dX4_readShape_78 : decode cX4_readShape 78 = .ok (.iconst 0, 1) := by decide +kernel
theorem dX4_readShape_79 : decode cX4_readShape 79 = .ok (.istore_n 3, 1) := by decide +kernel
theorem dX4_readShape_80 : decode cX4_readShape 80 = .ok (.iconst 0, 1) := by decide +kernel
theorem dX4_readShape_81 : decode cX4_readShape 81 = .ok (.istore 4, 2) := by decide +kernel
theorem dX4_readShape_83 : decode cX4_readShape 83 = .ok (.iload 4, 2) := by decide +kernel
theorem dX4_readShape_85 : decode cX4_readShape 85 = .ok (.bipush 8, 2) := by decide +kernel
theorem dX4_readShape_87 : decode cX4_readShape 87 = .ok (.if_icmp .gt 118, 3) := by decide +kernel
theorem dX4_readShape_90 : decode cX4_readShape 90 = .ok (.aload_n 0, 1) := by decide +kernel
theorem dX4_readShape_91 : decode cX4_readShape 91 = .ok (.invokevirtual 52, 3) := by decide +kernel
theorem dX4_readShape_94 : decode cX4_readShape 94 = .ok (.aload_n 0, 1) := by decide +kernel
theorem dX4_readShape_95 : decode cX4_readShape 95 = .ok (.getfield 55, 3) := by decide +kernel
theorem dX4_readShape_98 : decode cX4_readShape 98 = .ok (.iconst 4, 1) := by decide +kernel
theorem dX4_readShape_99 : decode cX4_readShape 99 = .ok (.if_icmp .ne 10, 3) := by decide +kernel
theorem dX4_readShape_102 : decode cX4_readShape 102 = .ok (.iload 4, 2) := by decide +kernel
theorem dX4_readShape_104 : decode cX4_readShape 104 = .ok (.ifCond .le 5, 3) := by decide +kernel
theorem dX4_readShape_107 : decode cX4_readShape 107 = .ok (.iconst 1, 1) := by decide +kernel
theorem dX4_readShape_108 : decode cX4_readShape 108 = .ok (.ireturn, 1) := by decide +kernel
theorem dX4_readShape_109 : decode cX4_readShape 109 = .ok (.aload_n 0, 1) := by decide +kernel
theorem dX4_readShape_110 : decode cX4_readShape 110 = .ok (.getfield 55, 3) := by decide +kernel
theorem dX4_readShape_113 : decode cX4_readShape 113 = .ok (.iconst 2, 1) := by decide +kernel
theorem dX4_readShape_114 : decode cX4_readShape 114 = .ok (.if_icmp .ne 10, 3) := by decide +kernel
theorem dX4_readShape_117 : decode cX4_readShape 117 = .ok (.iload 4, 2) := by decide +kernel
theorem dX4_readShape_119 : decode cX4_readShape 119 = .ok (.bipush 8, 2) := by decide +kernel
theorem dX4_readShape_121 : decode cX4_readShape 121 = .ok (.if_icmp .ne 9, 3) := by decide +kernel
theorem dX4_readShape_124 : decode cX4_readShape 124 = .ok (.aload_n 0, 1) := by decide +kernel
theorem dX4_readShape_125 : decode cX4_readShape 125 = .ok (.iconst 2, 1) := by decide +kernel
theorem dX4_readShape_126 : decode cX4_readShape 126 = .ok (.invokevirtual 65, 3) := by decide +kernel
theorem dX4_readShape_129 : decode cX4_readShape 129 = .ok (.ireturn, 1) := by decide +kernel
theorem dX4_readShape_130 : decode cX4_readShape 130 = .ok (.aload_n 0, 1) := by decide +kernel
theorem dX4_readShape_131 : decode cX4_readShape 131 = .ok (.getfield 107, 3) := by decide +kernel
theorem dX4_readShape_134 : decode cX4_readShape 134 = .ok (.istore 5, 2) := by decide +kernel
theorem dX4_readShape_136 : decode cX4_readShape 136 = .ok (.iload 4, 2) := by decide +kernel
theorem dX4_readShape_138 : decode cX4_readShape 138 = .ok (.ifCond .ne 7, 3) := by decide +kernel
theorem dX4_readShape_141 : decode cX4_readShape 141 = .ok (.iconst 0, 1) := by decide +kernel
theorem dX4_readShape_142 : decode cX4_readShape 142 = .ok (.goto 6, 3) := by decide +kernel
theorem dX4_readShape_145 : decode cX4_readShape 145 = .ok (.iload_n 2, 1) := by decide +kernel
theorem dX4_readShape_146 : decode cX4_readShape 146 = .ok (.iconst 1, 1) := by decide +kernel
theorem dX4_readShape_147 : decode cX4_readShape 147 = .ok (.isub, 1) := by decide +kernel
theorem dX4_readShape_148 : decode cX4_readShape 148 = .ok (.istore 6, 2) := by decide +kernel
theorem dX4_readShape_150 : decode cX4_readShape 150 = .ok (.iload 5, 2) := by decide +kernel
theorem dX4_readShape_152 : decode cX4_readShape 152 = .ok (.iload_n 3, 1) := by decide +kernel
theorem dX4_readShape_153 : decode cX4_readShape 153 = .ok (.if_icmp .lt 10, 3) := by decide +kernel
theorem dX4_readShape_156 : decode cX4_readShape 156 = .ok (.iload 5, 2) := by decide +kernel
theorem dX4_readShape_158 : decode cX4_readShape 158 = .ok (.iload 6, 2) := by decide +kernel
theorem dX4_readShape_160 : decode cX4_readShape 160 = .ok (.if_icmp .le 9, 3) := by decide +kernel
theorem dX4_readShape_163 : decode cX4_readShape 163 = .ok (.aload_n 0, 1) := by decide +kernel
theorem dX4_readShape_164 : decode cX4_readShape 164 = .ok (.iconst 3, 1) := by decide +kernel
theorem dX4_readShape_165 : decode cX4_readShape 165 = .ok (.invokevirtual 65, 3) := by decide +kernel
theorem dX4_readShape_168 : decode cX4_readShape 168 = .ok (.ireturn, 1) := by decide +kernel
theorem dX4_readShape_169 : decode cX4_readShape 169 = .ok (.aload_n 0, 1) := by decide +kernel
theorem dX4_readShape_170 : decode cX4_readShape 170 = .ok (.iconst 0, 1) := by decide +kernel
theorem dX4_readShape_171 : decode cX4_readShape 171 = .ok (.bipush 60, 2) := by decide +kernel
theorem dX4_readShape_173 : decode cX4_readShape 173 = .ok (.invokevirtual 100, 3) := by decide +kernel
theorem dX4_readShape_176 : decode cX4_readShape 176 = .ok (.ifCond .ne 5, 3) := by decide +kernel
theorem dX4_readShape_179 : decode cX4_readShape 179 = .ok (.iconst 0, 1) := by decide +kernel
theorem dX4_readShape_180 : decode cX4_readShape 180 = .ok (.ireturn, 1) := by decide +kernel
theorem dX4_readShape_181 : decode cX4_readShape 181 = .ok (.aload_n 0, 1) := by decide +kernel
theorem dX4_readShape_182 : decode cX4_readShape 182 = .ok (.getfield 15, 3) := by decide +kernel
theorem dX4_readShape_185 : decode cX4_readShape 185 = .ok (.iload 5, 2) := by decide +kernel
theorem dX4_readShape_187 : decode cX4_readShape 187 = .ok (.aload_n 0, 1) := by decide +kernel
theorem dX4_readShape_188 : decode cX4_readShape 188 = .ok (.getfield 107, 3) := by decide +kernel
theorem dX4_readShape_191 : decode cX4_readShape 191 = .ok (.invokevirtual 124, 3) := by decide +kernel
theorem dX4_readShape_194 : decode cX4_readShape 194 = .ok (.iload 5, 2) := by decide +kernel
theorem dX4_readShape_196 : decode cX4_readShape 196 = .ok (.iconst 1, 1) := by decide +kernel
theorem dX4_readShape_197 : decode cX4_readShape 197 = .ok (.iadd, 1) := by decide +kernel
theorem dX4_readShape_198 : decode cX4_readShape 198 = .ok (.istore_n 3, 1) := by decide +kernel
theorem dX4_readShape_199 : decode cX4_readShape 199 = .ok (.iinc 4 1, 3) := by decide +kernel
theorem dX4_readShape_202 : decode cX4_readShape 202 = .ok (.goto (-119), 3) := by decide +kernel
theorem dX4_readShape_205 : decode cX4_readShape 205 = .ok (.aload_n 0, 1) := by decide +kernel
theorem dX4_readShape_206 : decode cX4_readShape 206 = .ok (.iconst 2, 1) := by decide +kernel
theorem dX4_readShape_207 : decode cX4_readShape 207 = .ok (.invokevirtual 65, 3) := by decide +kernel
theorem dX4_readShape_210 : decode cX4_readShape 210 = .ok (.ireturn, 1) := by decide +kernel
theorem dX4_readPar_0 : decode cX4_readPar 0 = .ok (.aload_n 0, 1) := by decide +kernel
theorem dX4_readPar_1 : decode cX4_readPar 1 = .ok (.invokevirtual 52, 3) := by decide +kernel
theorem dX4_readPar_4 : decode cX4_readPar 4 = .ok (.bipush (-4), 2) := by decide +kernel
theorem dX4_readPar_6 : decode cX4_readPar 6 = .ok (.istore_n 1, 1) := by decide +kernel
theorem dX4_readPar_7 : decode cX4_readPar 7 = .ok (.iconst 0, 1) := by decide +kernel
theorem dX4_readPar_8 : decode cX4_readPar 8 = .ok (.istore_n 2, 1) := by decide +kernel
theorem dX4_readPar_9 : decode cX4_readPar 9 = .ok (.aload_n 0, 1) := by decide +kernel
theorem dX4_readPar_10 : decode cX4_readPar 10 = .ok (.getfield 55, 3) := by decide +kernel
theorem dX4_readPar_13 : decode cX4_readPar 13 = .ok (.iconst 1, 1) := by decide +kernel
theorem dX4_readPar_14 : decode cX4_readPar 14 = .ok (.if_icmp .ne 62, 3) := by decide +kernel
theorem dX4_readPar_17 : decode cX4_readPar 17 = .ok (.aload_n 0, 1) := by decide +kernel
theorem dX4_readPar_18 : decode cX4_readPar 18 = .ok (.getfield 110, 3) := by decide +kernel
theorem dX4_readPar_21 : decode cX4_readPar 21 = .ok (.iconst 1, 1) := by decide +kernel
theorem dX4_readPar_22 : decode cX4_readPar 22 = .ok (.if_icmp .ne 21, 3) := by decide +kernel
theorem dX4_readPar_25 : decode cX4_readPar 25 = .ok (.aload_n 0, 1) := by decide +kernel
theorem dX4_readPar_26 : decode cX4_readPar 26 = .ok (.getfield 15, 3) := by decide +kernel
theorem dX4_readPar_29 : decode cX4_readPar 29 = .ok (.aload_n 0, 1) := by decide +kernel
theorem dX4_readPar_30 : decode cX4_readPar 30 = .ok (.aload_n 0, 1) := by decide +kernel
theorem dX4_readPar_31 : decode cX4_readPar 31 = .ok (.getfield 62, 3) := by decide +kernel
theorem dX4_readPar_34 : decode cX4_readPar 34 = .ok (.invokevirtual 113, 3) := by decide +kernel
theorem dX4_readPar_37 : decode cX4_readPar 37 = .ok (.invokevirtual 117, 3) := by decide +kernel
theorem dX4_readPar_40 : decode cX4_readPar 40 = .ok (.goto 5, 3) := by decide +kernel
theorem dX4_readPar_43 : decode cX4_readPar 43 = .ok (.bipush (-4), 2) := by decide +kernel
theorem dX4_readPar_45 : decode cX4_readPar 45 = .ok (.istore_n 1, 1) := by decide +kernel
theorem dX4_readPar_46 : decode cX4_readPar 46 = .ok (.iload_n 1, 1) := by decide +kernel
theorem dX4_readPar_47 : decode cX4_readPar 47 = .ok (.ifCond .ge 9, 3) := by decide +kernel
theorem dX4_readPar_50 : decode cX4_readPar 50 = .ok (.aload_n 0, 1) := by decide +kernel
theorem dX4_readPar_51 : decode cX4_readPar 51 = .ok (.iconst 2, 1) := by decide +kernel
theorem dX4_readPar_52 : decode cX4_readPar 52 = .ok (.invokevirtual 65, 3) := by decide +kernel
theorem dX4_readPar_55 : decode cX4_readPar 55 = .ok (.ireturn, 1) := by decide +kernel
theorem dX4_readPar_56 : decode cX4_readPar 56 = .ok (.aload_n 0, 1) := by decide +kernel
theorem dX4_readPar_57 : decode cX4_readPar 57 = .ok (.iconst 2, 1) := by decide +kernel
theorem dX4_readPar_58 : decode cX4_readPar 58 = .ok (.iconst 5, 1) := by decide +kernel
theorem dX4_readPar_59 : decode cX4_readPar 59 = .ok (.invokevirtual 100, 3) := by decide +kernel
theorem dX4_readPar_62 : decode cX4_readPar 62 = .ok (.ifCond .ne 5, 3) := by decide +kernel
theorem dX4_readPar_65 : decode cX4_readPar 65 = .ok (.iconst 0, 1) := by decide +kernel
theorem dX4_readPar_66 : decode cX4_readPar 66 = .ok (.ireturn, 1) := by decide +kernel
theorem dX4_readPar_67 : decode cX4_readPar 67 = .ok (.aload_n 0, 1) := by decide +kernel
theorem dX4_readPar_68 : decode cX4_readPar 68 = .ok (.getfield 107, 3) := by decide +kernel
theorem dX4_readPar_71 : decode cX4_readPar 71 = .ok (.istore_n 2, 1) := by decide +kernel
theorem dX4_readPar_72 : decode cX4_readPar 72 = .ok (.aload_n 0, 1) := by decide +kernel
theorem dX4_readPar_73 : decode cX4_readPar 73 = .ok (.invokevirtual 52, 3) := by decide +kernel
theorem dX4_readPar_76 : decode cX4_readPar 76 = .ok (.aload_n 0, 1) := by decide +kernel
theorem dX4_readPar_77 : decode cX4_readPar 77 = .ok (.getfield 55, 3) := by decide +kernel
theorem dX4_readPar_80 : decode cX4_readPar 80 = .ok (.iconst 3, 1) := by decide +kernel
theorem dX4_readPar_81 : decode cX4_readPar 81 = .ok (.if_icmp .eq 9, 3) := by decide +kernel
theorem dX4_readPar_84 : decode cX4_readPar 84 = .ok (.aload_n 0, 1) := by decide +kernel
theorem dX4_readPar_85 : decode cX4_readPar 85 = .ok (.iconst 2, 1) := by decide +kernel
theorem dX4_readPar_86 : decode cX4_readPar 86 = .ok (.invokevirtual 65, 3) := by decide +kernel
theorem dX4_readPar_89 : decode cX4_readPar 89 = .ok (.ireturn, 1) := by decide +kernel
theorem dX4_readPar_90 : decode cX4_readPar 90 = .ok (.aload_n 0, 1) := by decide +kernel
theorem dX4_readPar_91 : decode cX4_readPar 91 = .ok (.getfield 19, 3) := by decide +kernel
theorem dX4_readPar_94 : decode cX4_readPar 94 = .ok (.iload_n 1, 1) := by decide +kernel
theorem dX4_readPar_95 : decode cX4_readPar 95 = .ok (.iload_n 2, 1) := by decide +kernel
theorem dX4_readPar_96 : decode cX4_readPar 96 = .ok (.invokevirtual 127, 3) := by decide +kernel
theorem dX4_readPar_99 : decode cX4_readPar 99 = .ok (.aload_n 0, 1) := by decide +kernel
theorem dX4_readPar_100 : decode cX4_readPar 100 = .ok (.invokevirtual 130, 3) := by decide +kernel
theorem dX4_readPar_103 : decode cX4_readPar 103 = .ok (.ireturn, 1) := by decide +kernel
theorem dX4_readWords_0 : decode cX4_readWords 0 = .ok (.iconst 0, 1) := by decide +kernel
theorem dX4_readWords_1 : decode cX4_readWords 1 = .ok (.istore_n 1, 1) := by decide +kernel
theorem dX4_readWords_2 : decode cX4_readWords 2 = .ok (.iload_n 1, 1) := by decide +kernel
theorem dX4_readWords_3 : decode cX4_readWords 3 = .ok (.bipush 80, 2) := by decide +kernel
theorem dX4_readWords_5 : decode cX4_readWords 5 = .ok (.if_icmp .gt 85, 3) := by decide +kernel
theorem dX4_readWords_8 : decode cX4_readWords 8 = .ok (.aload_n 0, 1) := by decide +kernel
theorem dX4_readWords_9 : decode cX4_readWords 9 = .ok (.invokevirtual 52, 3) := by decide +kernel
theorem dX4_readWords_12 : decode cX4_readWords 12 = .ok (.aload_n 0, 1) := by decide +kernel
theorem dX4_readWords_13 : decode cX4_readWords 13 = .ok (.getfield 55, 3) := by decide +kernel
theorem dX4_readWords_16 : decode cX4_readWords 16 = .ok (.iconst 4, 1) := by decide +kernel
theorem dX4_readWords_17 : decode cX4_readWords 17 = .ok (.if_icmp .ne 9, 3) := by decide +kernel
theorem dX4_readWords_20 : decode cX4_readWords 20 = .ok (.iload_n 1, 1) := by decide +kernel
theorem dX4_readWords_21 : decode cX4_readWords 21 = .ok (.ifCond .le 5, 3) := by decide +kernel
theorem dX4_readWords_24 : decode cX4_readWords 24 = .ok (.iconst 1, 1) := by decide +kernel
theorem dX4_readWords_25 : decode cX4_readWords 25 = .ok (.ireturn, 1) := by decide +kernel
theorem dX4_readWords_26 : decode cX4_readWords 26 = .ok (.aload_n 0, 1) := by decide +kernel
theorem dX4_readWords_27 : decode cX4_readWords 27 = .ok (.getfield 55, 3) := by decide +kernel
theorem dX4_readWords_30 : decode cX4_readWords 30 = .ok (.iconst 1, 1) := by decide +kernel
theorem dX4_readWords_31 : decode cX4_readWords 31 = .ok (.if_icmp .eq 9, 3) := by decide +kernel
theorem dX4_readWords_34 : decode cX4_readWords 34 = .ok (.aload_n 0, 1) := by decide +kernel
theorem dX4_readWords_35 : decode cX4_readWords 35 = .ok (.iconst 2, 1) := by decide +kernel
theorem dX4_readWords_36 : decode cX4_readWords 36 = .ok (.invokevirtual 65, 3) := by decide +kernel
theorem dX4_readWords_39 : decode cX4_readWords 39 = .ok (.ireturn, 1) := by decide +kernel
theorem dX4_readWords_40 : decode cX4_readWords 40 = .ok (.aload_n 0, 1) := by decide +kernel
theorem dX4_readWords_41 : decode cX4_readWords 41 = .ok (.getfield 110, 3) := by decide +kernel
theorem dX4_readWords_44 : decode cX4_readWords 44 = .ok (.bipush 6, 2) := by decide +kernel
theorem dX4_readWords_46 : decode cX4_readWords 46 = .ok (.if_icmp .le 9, 3) := by decide +kernel
theorem dX4_readWords_49 : decode cX4_readWords 49 = .ok (.aload_n 0, 1) := by decide +kernel
theorem dX4_readWords_50 : decode cX4_readWords 50 = .ok (.iconst 3, 1) := by decide +kernel
theorem dX4_readWords_51 : decode cX4_readWords 51 = .ok (.invokevirtual 65, 3) := by decide +kernel
theorem dX4_readWords_54 : decode cX4_readWords 54 = .ok (.ireturn, 1) := by decide +kernel
theorem dX4_readWords_55 : decode cX4_readWords 55 = .ok (.aload_n 0, 1) := by decide +kernel
theorem dX4_readWords_56 : decode cX4_readWords 56 = .ok (.getfield 19, 3) := by decide +kernel
theorem dX4_readWords_59 : decode cX4_readWords 59 = .ok (.getfield 133, 3) := by decide +kernel
theorem dX4_readWords_62 : decode cX4_readWords 62 = .ok (.bipush 80, 2) := by decide +kernel
theorem dX4_readWords_64 : decode cX4_readWords 64 = .ok (.if_icmp .lt 9, 3) := by decide +kernel
theorem dX4_readWords_67 : decode cX4_readWords 67 = .ok (.aload_n 0, 1) := by decide +kernel
theorem dX4_readWords_68 : decode cX4_readWords 68 = .ok (.iconst 5, 1) := by decide +kernel
theorem dX4_readWords_69 : decode cX4_readWords 69 = .ok (.invokevirtual 65, 3) := by decide +kernel
theorem dX4_readWords_72 : decode cX4_readWords 72 = .ok (.ireturn, 1) := by decide +kernel
theorem dX4_readWords_73 : decode cX4_readWords 73 = .ok (.aload_n 0, 1) := by decide +kernel
theorem dX4_readWords_74 : decode cX4_readWords 74 = .ok (.getfield 19, 3) := by decide +kernel
theorem dX4_readWords_77 : decode cX4_readWords 77 = .ok (.aload_n 0, 1) := by decide +kernel
theorem dX4_readWords_78 : decode cX4_readWords 78 = .ok (.invokevirtual 136, 3) := by decide +kernel
theorem dX4_readWords_81 : decode cX4_readWords 81 = .ok (.invokevirtual 139, 3) := by decide +kernel
theorem dX4_readWords_84 : decode cX4_readWords 84 = .ok (.iinc 1 1, 3) := by decide +kernel
theorem dX4_readWords_87 : decode cX4_readWords 87 = .ok (.goto (-85), 3) := by decide +kernel
theorem dX4_readWords_90 : decode cX4_readWords 90 = .ok (.aload_n 0, 1) := by decide +kernel
theorem dX4_readWords_91 : decode cX4_readWords 91 = .ok (.iconst 5, 1) := by decide +kernel
theorem dX4_readWords_92 : decode cX4_readWords 92 = .ok (.invokevirtual 65, 3) := by decide +kernel
theorem dX4_readWords_95 : decode cX4_readWords 95 = .ok (.ireturn, 1) := by decide +kernel
theorem dX4_readNumber_0 : decode cX4_readNumber 0 = .ok (.aload_n 0, 1) := by decide +kernel
theorem dX4_readNumber_1 : decode cX4_readNumber 1 = .ok (.invokevirtual 52, 3) := by decide +kernel
theorem dX4_readNumber_4 : decode cX4_readNumber 4 = .ok (.aload_n 0, 1) := by decide +kernel
theorem dX4_readNumber_5 : decode cX4_readNumber 5 = .ok (.getfield 55, 3) := by decide +kernel
theorem dX4_readNumber_8 : decode cX4_readNumber 8 = .ok (.iconst 2, 1) := by decide +kernel
theorem dX4_readNumber_9 : decode cX4_readNumber 9 = .ok (.if_icmp .eq 9, 3) := by decide +kernel
theorem dX4_readNumber_12 : decode cX4_readNumber 12 = .ok (.aload_n 0, 1) := by decide +kernel
theorem dX4_readNumber_13 : decode cX4_readNumber 13 = .ok (.iconst 2, 1) := by decide +kernel
theorem dX4_readNumber_14 : decode cX4_readNumber 14 = .ok (.invokevirtual 65, 3) := by decide +kernel
theorem dX4_readNumber_17 : decode cX4_readNumber 17 = .ok (.ireturn, 1) := by decide +kernel
theorem dX4_readNumber_18 : decode cX4_readNumber 18 = .ok (.aload_n 0, 1) := by decide +kernel
theorem dX4_readNumber_19 : decode cX4_readNumber 19 = .ok (.getfield 107, 3) := by decide +kernel
theorem dX4_readNumber_22 : decode cX4_readNumber 22 = .ok (.iload_n 1, 1) := by decide +kernel
theorem dX4_readNumber_23 : decode cX4_readNumber 23 = .ok (.if_icmp .lt 11, 3) := by decide +kernel
theorem dX4_readNumber_26 : decode cX4_readNumber 26 = .ok (.aload_n 0, 1) := by decide +kernel
theorem dX4_readNumber_27 : decode cX4_readNumber 27 = .ok (.getfield 107, 3) := by decide +kernel
theorem dX4_readNumber_30 : decode cX4_readNumber 30 = .ok (.iload_n 2, 1) := by decide +kernel
theorem dX4_readNumber_31 : decode cX4_readNumber 31 = .ok (.if_icmp .le 11, 3) := by decide +kernel
theorem dX4_readNumber_34 : decode cX4_readNumber 34 = .ok (.aload_n 0, 1) := by decide +kernel
theorem dX4_readNumber_35 : decode cX4_readNumber 35 = .ok (.iconst 3, 1) := by decide +kernel
theorem dX4_readNumber_36 : decode cX4_readNumber 36 = .ok (.invokevirtual 65, 3) := by decide +kernel
theorem dX4_readNumber_39 : decode cX4_readNumber 39 = .ok (.ifCond .eq 7, 3) := by decide +kernel
theorem dX4_readNumber_42 : decode cX4_readNumber 42 = .ok (.iconst 1, 1) := by decide +kernel
theorem dX4_readNumber_43 : decode cX4_readNumber 43 = .ok (.goto 4, 3) := by decide +kernel
theorem dX4_readNumber_46 : decode cX4_readNumber 46 = .ok (.iconst 0, 1) := by decide +kernel
theorem dX4_readNumber_47 : decode cX4_readNumber 47 = .ok (.ireturn, 1) := by decide +kernel
theorem dX4_refuse_0 : decode cX4_refuse 0 = .ok (.aload_n 0, 1) := by decide +kernel
theorem dX4_refuse_1 : decode cX4_refuse 1 = .ok (.aload_n 0, 1) := by decide +kernel
theorem dX4_refuse_2 : decode cX4_refuse 2 = .ok (.getfield 55, 3) := by decide +kernel
theorem dX4_refuse_5 : decode cX4_refuse 5 = .ok (.ifCond .ne 7, 3) := by decide +kernel
theorem dX4_refuse_8 : decode cX4_refuse 8 = .ok (.iconst 1, 1) := by decide +kernel
theorem dX4_refuse_9 : decode cX4_refuse 9 = .ok (.goto 4, 3) := by decide +kernel
theorem dX4_refuse_12 : decode cX4_refuse 12 = .ok (.iload_n 1, 1) := by decide +kernel
theorem dX4_refuse_13 : decode cX4_refuse 13 = .ok (.putfield 23, 3) := by decide +kernel
theorem dX4_refuse_16 : decode cX4_refuse 16 = .ok (.iconst 0, 1) := by decide +kernel
theorem dX4_refuse_17 : decode cX4_refuse 17 = .ok (.ireturn, 1) := by decide +kernel
theorem dX4_advance_0 : decode cX4_advance 0 = .ok (.aload_n 0, 1) := by decide +kernel
theorem dX4_advance_1 : decode cX4_advance 1 = .ok (.getfield 36, 3) := by decide +kernel
theorem dX4_advance_4 : decode cX4_advance 4 = .ok (.aload_n 0, 1) := by decide +kernel
theorem dX4_advance_5 : decode cX4_advance 5 = .ok (.getfield 33, 3) := by decide +kernel
theorem dX4_advance_8 : decode cX4_advance 8 = .ok (.if_icmp .ge 30, 3) := by decide +kernel
theorem dX4_advance_11 : decode cX4_advance 11 = .ok (.aload_n 0, 1) := by decide +kernel
theorem dX4_advance_12 : decode cX4_advance 12 = .ok (.getfield 9, 3) := by decide +kernel
theorem dX4_advance_15 : decode cX4_advance 15 = .ok (.aload_n 0, 1) := by decide +kernel
theorem dX4_advance_16 : decode cX4_advance 16 = .ok (.getfield 36, 3) := by decide +kernel
theorem dX4_advance_19 : decode cX4_advance 19 = .ok (.baload, 1) := by decide +kernel
theorem dX4_advance_20 : decode cX4_advance 20 = .ok (.bipush 32, 2) := by decide +kernel
theorem dX4_advance_22 : decode cX4_advance 22 = .ok (.if_icmp .ne 16, 3) := by decide +kernel
theorem dX4_advance_25 : decode cX4_advance 25 = .ok (.aload_n 0, 1) := by decide +kernel
theorem dX4_advance_26 : decode cX4_advance 26 = .ok (.dup, 1) := by decide +kernel
theorem dX4_advance_27 : decode cX4_advance 27 = .ok (.getfield 36, 3) := by decide +kernel
theorem dX4_advance_30 : decode cX4_advance 30 = .ok (.iconst 1, 1) := by decide +kernel
theorem dX4_advance_31 : decode cX4_advance 31 = .ok (.iadd, 1) := by decide +kernel
theorem dX4_advance_32 : decode cX4_advance 32 = .ok (.putfield 36, 3) := by decide +kernel
theorem dX4_advance_35 : decode cX4_advance 35 = .ok (.goto (-35), 3) := by decide +kernel
theorem dX4_advance_38 : decode cX4_advance 38 = .ok (.aload_n 0, 1) := by decide +kernel
theorem dX4_advance_39 : decode cX4_advance 39 = .ok (.aload_n 0, 1) := by decide +kernel
theorem dX4_advance_40 : decode cX4_advance 40 = .ok (.getfield 36, 3) := by decide +kernel
theorem dX4_advance_43 : decode cX4_advance 43 = .ok (.putfield 62, 3) := by decide +kernel
theorem dX4_advance_46 : decode cX4_advance 46 = .ok (.aload_n 0, 1) := by decide +kernel
theorem dX4_advance_47 : decode cX4_advance 47 = .ok (.iconst 0, 1) := by decide +kernel
theorem dX4_advance_48 : decode cX4_advance 48 = .ok (.putfield 107, 3) := by decide +kernel
theorem dX4_advance_51 : decode cX4_advance 51 = .ok (.aload_n 0, 1) := by decide +kernel
theorem dX4_advance_52 : decode cX4_advance 52 = .ok (.getfield 36, 3) := by decide +kernel
theorem dX4_advance_55 : decode cX4_advance 55 = .ok (.aload_n 0, 1) := by decide +kernel
theorem dX4_advance_56 : decode cX4_advance 56 = .ok (.getfield 33, 3) := by decide +kernel
theorem dX4_advance_59 : decode cX4_advance 59 = .ok (.if_icmp .lt 11, 3) := by decide +kernel
theorem dX4_advance_62 : decode cX4_advance 62 = .ok (.aload_n 0, 1) := by decide +kernel
theorem dX4_advance_63 : decode cX4_advance 63 = .ok (.iconst 5, 1) := by decide +kernel
theorem dX4_advance_64 : decode cX4_advance 64 = .ok (.putfield 55, 3) := by decide +kernel
theorem dX4_advance_67 : decode cX4_advance 67 = .ok (.goto 140, 3) := by decide +kernel
theorem dX4_advance_70 : decode cX4_advance 70 = .ok (.aload_n 0, 1) := by decide +kernel
theorem dX4_advance_71 : decode cX4_advance 71 = .ok (.aload_n 0, 1) := by decide +kernel
theorem dX4_advance_72 : decode cX4_advance 72 = .ok (.getfield 36, 3) := by decide +kernel
theorem dX4_advance_75 : decode cX4_advance 75 = .ok (.invokevirtual 143, 3) := by decide +kernel
theorem dX4_advance_78 : decode cX4_advance 78 = .ok (.ifCond .eq 43, 3) := by decide +kernel
theorem dX4_advance_81 : decode cX4_advance 81 = .ok (.aload_n 0, 1) := by decide +kernel
theorem dX4_advance_82 : decode cX4_advance 82 = .ok (.iconst 1, 1) := by decide +kernel
theorem dX4_advance_83 : decode cX4_advance 83 = .ok (.putfield 55, 3) := by decide +kernel
theorem dX4_advance_86 : decode cX4_advance 86 = .ok (.aload_n 0, 1) := by decide +kernel
theorem dX4_advance_87 : decode cX4_advance 87 = .ok (.getfield 36, 3) := by decide +kernel
theorem dX4_advance_90 : decode cX4_advance 90 = .ok (.aload_n 0, 1) := by decide +kernel
theorem dX4_advance_91 : decode cX4_advance 91 = .ok (.getfield 33, 3) := by decide +kernel
theorem dX4_advance_94 : decode cX4_advance 94 = .ok (.if_icmp .ge 113, 3) := by decide +kernel
theorem dX4_advance_97 : decode cX4_advance 97 = .ok (.aload_n 0, 1) := by decide +kernel
theorem dX4_advance_98 : decode cX4_advance 98 = .ok (.aload_n 0, 1) := by decide +kernel
theorem dX4_advance_99 : decode cX4_advance 99 = .ok (.getfield 36, 3) := by decide +kernel
theorem dX4_advance_102 : decode cX4_advance 102 = .ok (.invokevirtual 143, 3) := by decide +kernel
theorem dX4_advance_105 : decode cX4_advance 105 = .ok (.ifCond .eq 102, 3) := by decide +kernel
theorem dX4_advance_108 : decode cX4_advance 108 = .ok (.aload_n 0, 1) := by decide +kernel
theorem dX4_advance_109 : decode cX4_advance 109 = .ok (.dup, 1) := by decide +kernel
theorem dX4_advance_110 : decode cX4_advance 110 = .ok (.getfield 36, 3) := by decide +kernel
theorem dX4_advance_113 : decode cX4_advance 113 = .ok (.iconst 1, 1) := by decide +kernel
theorem dX4_advance_114 : decode cX4_advance 114 = .ok (.iadd, 1) := by decide +kernel
theorem dX4_advance_115 : decode cX4_advance 115 = .ok (.putfield 36, 3) := by decide +kernel
theorem dX4_advance_118 : decode cX4_advance 118 = .ok (.goto (-32), 3) := by decide +kernel
theorem dX4_advance_121 : decode cX4_advance 121 = .ok (.aload_n 0, 1) := by decide +kernel
theorem dX4_advance_122 : decode cX4_advance 122 = .ok (.getfield 9, 3) := by decide +kernel
theorem dX4_advance_125 : decode cX4_advance 125 = .ok (.aload_n 0, 1) := by decide +kernel
theorem dX4_advance_126 : decode cX4_advance 126 = .ok (.getfield 36, 3) := by decide +kernel
theorem dX4_advance_129 : decode cX4_advance 129 = .ok (.baload, 1) := by decide +kernel
theorem dX4_advance_130 : decode cX4_advance 130 = .ok (.bipush 48, 2) := by decide +kernel
theorem dX4_advance_132 : decode cX4_advance 132 = .ok (.if_icmp .lt 24, 3) := by decide +kernel
theorem dX4_advance_135 : decode cX4_advance 135 = .ok (.aload_n 0, 1) := by decide +kernel
theorem dX4_advance_136 : decode cX4_advance 136 = .ok (.getfield 9, 3) := by decide +kernel
theorem dX4_advance_139 : decode cX4_advance 139 = .ok (.aload_n 0, 1) := by decide +kernel
theorem dX4_advance_140 : decode cX4_advance 140 = .ok (.getfield 36, 3) := by decide +kernel
theorem dX4_advance_143 : decode cX4_advance 143 = .ok (.baload, 1) := by decide +kernel
theorem dX4_advance_144 : decode cX4_advance 144 = .ok (.bipush 57, 2) := by decide +kernel
theorem dX4_advance_146 : decode cX4_advance 146 = .ok (.if_icmp .gt 10, 3) := by decide +kernel
theorem dX4_advance_149 : decode cX4_advance 149 = .ok (.aload_n 0, 1) := by decide +kernel
theorem dX4_advance_150 : decode cX4_advance 150 = .ok (.invokevirtual 146, 3) := by decide +kernel
theorem dX4_advance_153 : decode cX4_advance 153 = .ok (.goto 54, 3) := by decide +kernel
theorem dX4_advance_156 : decode cX4_advance 156 = .ok (.aload_n 0, 1) := by decide +kernel
theorem dX4_advance_157 : decode cX4_advance 157 = .ok (.aload_n 0, 1) := by decide +kernel
theorem dX4_advance_158 : decode cX4_advance 158 = .ok (.getfield 9, 3) := by decide +kernel
theorem dX4_advance_161 : decode cX4_advance 161 = .ok (.aload_n 0, 1) := by decide +kernel
theorem dX4_advance_162 : decode cX4_advance 162 = .ok (.getfield 36, 3) := by decide +kernel
theorem dX4_advance_165 : decode cX4_advance 165 = .ok (.baload, 1) := by decide +kernel
theorem dX4_advance_166 : decode cX4_advance 166 = .ok (.bipush 58, 2) := by decide +kernel
theorem dX4_advance_168 : decode cX4_advance 168 = .ok (.if_icmp .ne 7, 3) := by decide +kernel
theorem dX4_advance_171 : decode cX4_advance 171 = .ok (.iconst 3, 1) := by decide +kernel
theorem dX4_advance_172 : decode cX4_advance 172 = .ok (.goto 22, 3) := by decide +kernel
theorem dX4_advance_175 : decode cX4_advance 175 = .ok (.aload_n 0, 1) := by decide +kernel
theorem dX4_advance_176 : decode cX4_advance 176 = .ok (.getfield 9, 3) := by decide +kernel
theorem dX4_advance_179 : decode cX4_advance 179 = .ok (.aload_n 0, 1) := by decide +kernel
theorem dX4_advance_180 : decode cX4_advance 180 = .ok (.getfield 36, 3) := by decide +kernel
theorem dX4_advance_183 : decode cX4_advance 183 = .ok (.baload, 1) := by decide +kernel
theorem dX4_advance_184 : decode cX4_advance 184 = .ok (.bipush 59, 2) := by decide +kernel
theorem dX4_advance_186 : decode cX4_advance 186 = .ok (.if_icmp .ne 7, 3) := by decide +kernel
theorem dX4_advance_189 : decode cX4_advance 189 = .ok (.iconst 4, 1) := by decide +kernel
theorem dX4_advance_190 : decode cX4_advance 190 = .ok (.goto 4, 3) := by decide +kernel
theorem dX4_advance_193 : decode cX4_advance 193 = .ok (.iconst 0, 1) := by decide +kernel
theorem dX4_advance_194 : decode cX4_advance 194 = .ok (.putfield 55, 3) := by decide +kernel
theorem dX4_advance_197 : decode cX4_advance 197 = .ok (.aload_n 0, 1) := by decide +kernel
theorem dX4_advance_198 : decode cX4_advance 198 = .ok (.dup, 1) := by decide +kernel
theorem dX4_advance_199 : decode cX4_advance 199 = .ok (.getfield 36, 3) := by decide +kernel
theorem dX4_advance_202 : decode cX4_advance 202 = .ok (.iconst 1, 1) := by decide +kernel
theorem dX4_advance_203 : decode cX4_advance 203 = .ok (.iadd, 1) := by decide +kernel
theorem dX4_advance_204 : decode cX4_advance 204 = .ok (.putfield 36, 3) := by decide +kernel
theorem dX4_advance_207 : decode cX4_advance 207 = .ok (.aload_n 0, 1) := by decide +kernel
theorem dX4_advance_208 : decode cX4_advance 208 = .ok (.aload_n 0, 1) := by decide +kernel
theorem dX4_advance_209 : decode cX4_advance 209 = .ok (.getfield 36, 3) := by decide +kernel
theorem dX4_advance_212 : decode cX4_advance 212 = .ok (.aload_n 0, 1) := by decide +kernel
theorem dX4_advance_213 : decode cX4_advance 213 = .ok (.getfield 62, 3) := by decide +kernel
theorem dX4_advance_216 : decode cX4_advance 216 = .ok (.isub, 1) := by decide +kernel
theorem dX4_advance_217 : decode cX4_advance 217 = .ok (.putfield 110, 3) := by decide +kernel
theorem dX4_advance_220 : decode cX4_advance 220 = .ok (.return_, 1) := by decide +kernel
theorem dX4_takeFigures_0 : decode cX4_takeFigures 0 = .ok (.aload_n 0, 1) := by decide +kernel
theorem dX4_takeFigures_1 : decode cX4_takeFigures 1 = .ok (.getfield 36, 3) := by decide +kernel
theorem dX4_takeFigures_4 : decode cX4_takeFigures 4 = .ok (.aload_n 0, 1) := by decide +kernel
theorem dX4_takeFigures_5 : decode cX4_takeFigures 5 = .ok (.getfield 33, 3) := by decide +kernel
theorem dX4_takeFigures_8 : decode cX4_takeFigures 8 = .ok (.if_icmp .ge 81, 3) := by decide +kernel
theorem dX4_takeFigures_11 : decode cX4_takeFigures 11 = .ok (.aload_n 0, 1) := by decide +kernel
theorem dX4_takeFigures_12 : decode cX4_takeFigures 12 = .ok (.getfield 9, 3) := by decide +kernel
theorem dX4_takeFigures_15 : decode cX4_takeFigures 15 = .ok (.aload_n 0, 1) := by decide +kernel
theorem dX4_takeFigures_16 : decode cX4_takeFigures 16 = .ok (.getfield 36, 3) := by decide +kernel
theorem dX4_takeFigures_19 : decode cX4_takeFigures 19 = .ok (.baload, 1) := by decide +kernel
theorem dX4_takeFigures_20 : decode cX4_takeFigures 20 = .ok (.bipush 48, 2) := by decide +kernel
theorem dX4_takeFigures_22 : decode cX4_takeFigures 22 = .ok (.if_icmp .lt 67, 3) := by decide +kernel
theorem dX4_takeFigures_25 : decode cX4_takeFigures 25 = .ok (.aload_n 0, 1) := by decide +kernel
theorem dX4_takeFigures_26 : decode cX4_takeFigures 26 = .ok (.getfield 9, 3) := by decide +kernel
theorem dX4_takeFigures_29 : decode cX4_takeFigures 29 = .ok (.aload_n 0, 1) := by decide +kernel
theorem dX4_takeFigures_30 : decode cX4_takeFigures 30 = .ok (.getfield 36, 3) := by decide +kernel
theorem dX4_takeFigures_33 : decode cX4_takeFigures 33 = .ok (.baload, 1) := by decide +kernel
theorem dX4_takeFigures_34 : decode cX4_takeFigures 34 = .ok (.bipush 57, 2) := by decide +kernel
theorem dX4_takeFigures_36 : decode cX4_takeFigures 36 = .ok (.if_icmp .gt 53, 3) := by decide +kernel
theorem dX4_takeFigures_39 : decode cX4_takeFigures 39 = .ok (.aload_n 0, 1) := by decide +kernel
theorem dX4_takeFigures_40 : decode cX4_takeFigures 40 = .ok (.getfield 36, 3) := by decide +kernel
theorem dX4_takeFigures_43 : decode cX4_takeFigures 43 = .ok (.aload_n 0, 1) := by decide +kernel
theorem dX4_takeFigures_44 : decode cX4_takeFigures 44 = .ok (.getfield 62, 3) := by decide +kernel
theorem dX4_takeFigures_47 : decode cX4_takeFigures 47 = .ok (.isub, 1) := by decide +kernel
theorem dX4_takeFigures_48 : decode cX4_takeFigures 48 = .ok (.iconst 2, 1) := by decide +kernel
theorem dX4_takeFigures_49 : decode cX4_takeFigures 49 = .ok (.if_icmp .ge 27, 3) := by decide +kernel
theorem dX4_takeFigures_52 : decode cX4_takeFigures 52 = .ok (.aload_n 0, 1) := by decide +kernel
theorem dX4_takeFigures_53 : decode cX4_takeFigures 53 = .ok (.aload_n 0, 1) := by decide +kernel
theorem dX4_takeFigures_54 : decode cX4_takeFigures 54 = .ok (.getfield 107, 3) := by decide +kernel
theorem dX4_takeFigures_57 : decode cX4_takeFigures 57 = .ok (.bipush 10, 2) := by decide +kernel
theorem dX4_takeFigures_59 : decode cX4_takeFigures 59 = .ok (.imul, 1) := by decide +kernel
theorem dX4_takeFigures_60 : decode cX4_takeFigures 60 = .ok (.aload_n 0, 1) := by decide +kernel
theorem dX4_takeFigures_61 : decode cX4_takeFigures 61 = .ok (.getfield 9, 3) := by decide +kernel
theorem dX4_takeFigures_64 : decode cX4_takeFigures 64 = .ok (.aload_n 0, 1) := by decide +kernel
theorem dX4_takeFigures_65 : decode cX4_takeFigures 65 = .ok (.getfield 36, 3) := by decide +kernel
theorem dX4_takeFigures_68 : decode cX4_takeFigures 68 = .ok (.baload, 1) := by decide +kernel
theorem dX4_takeFigures_69 : decode cX4_takeFigures 69 = .ok (.iadd, 1) := by decide +kernel
theorem dX4_takeFigures_70 : decode cX4_takeFigures 70 = .ok (.bipush 48, 2) := by decide +kernel
theorem dX4_takeFigures_72 : decode cX4_takeFigures 72 = .ok (.isub, 1) := by decide +kernel
theorem dX4_takeFigures_73 : decode cX4_takeFigures 73 = .ok (.putfield 107, 3) := by decide +kernel
theorem dX4_takeFigures_76 : decode cX4_takeFigures 76 = .ok (.aload_n 0, 1) := by decide +kernel
theorem dX4_takeFigures_77 : decode cX4_takeFigures 77 = .ok (.dup, 1) := by decide +kernel
theorem dX4_takeFigures_78 : decode cX4_takeFigures 78 = .ok (.getfield 36, 3) := by decide +kernel
theorem dX4_takeFigures_81 : decode cX4_takeFigures 81 = .ok (.iconst 1, 1) := by decide +kernel
theorem dX4_takeFigures_82 : decode cX4_takeFigures 82 = .ok (.iadd, 1) := by decide +kernel
theorem dX4_takeFigures_83 : decode cX4_takeFigures 83 = .ok (.putfield 36, 3) := by decide +kernel
theorem dX4_takeFigures_86 : decode cX4_takeFigures 86 = .ok (.goto (-86), 3) := by decide +kernel
theorem dX4_takeFigures_89 : decode cX4_takeFigures 89 = .ok (.aload_n 0, 1) := by decide +kernel
theorem dX4_takeFigures_90 : decode cX4_takeFigures 90 = .ok (.aload_n 0, 1) := by decide +kernel
theorem dX4_takeFigures_91 : decode cX4_takeFigures 91 = .ok (.getfield 36, 3) := by decide +kernel
theorem dX4_takeFigures_94 : decode cX4_takeFigures 94 = .ok (.aload_n 0, 1) := by decide +kernel
theorem dX4_takeFigures_95 : decode cX4_takeFigures 95 = .ok (.getfield 62, 3) := by decide +kernel
theorem dX4_takeFigures_98 : decode cX4_takeFigures 98 = .ok (.isub, 1) := by decide +kernel
theorem dX4_takeFigures_99 : decode cX4_takeFigures 99 = .ok (.iconst 2, 1) := by decide +kernel
theorem dX4_takeFigures_100 : decode cX4_takeFigures 100 = .ok (.if_icmp .le 7, 3) := by decide +kernel
theorem dX4_takeFigures_103 : decode cX4_takeFigures 103 = .ok (.iconst 0, 1) := by decide +kernel
theorem dX4_takeFigures_104 : decode cX4_takeFigures 104 = .ok (.goto 4, 3) := by decide +kernel
theorem dX4_takeFigures_107 : decode cX4_takeFigures 107 = .ok (.iconst 2, 1) := by decide +kernel
theorem dX4_takeFigures_108 : decode cX4_takeFigures 108 = .ok (.putfield 55, 3) := by decide +kernel
theorem dX4_takeFigures_111 : decode cX4_takeFigures 111 = .ok (.return_, 1) := by decide +kernel
theorem dX4_isLetter_0 : decode cX4_isLetter 0 = .ok (.aload_n 0, 1) := by decide +kernel
theorem dX4_isLetter_1 : decode cX4_isLetter 1 = .ok (.getfield 9, 3) := by decide +kernel
theorem dX4_isLetter_4 : decode cX4_isLetter 4 = .ok (.iload_n 1, 1) := by decide +kernel
theorem dX4_isLetter_5 : decode cX4_isLetter 5 = .ok (.baload, 1) := by decide +kernel
theorem dX4_isLetter_6 : decode cX4_isLetter 6 = .ok (.bipush 97, 2) := by decide +kernel
theorem dX4_isLetter_8 : decode cX4_isLetter 8 = .ok (.if_icmp .lt 18, 3) := by decide +kernel
theorem dX4_isLetter_11 : decode cX4_isLetter 11 = .ok (.aload_n 0, 1) := by decide +kernel
theorem dX4_isLetter_12 : decode cX4_isLetter 12 = .ok (.getfield 9, 3) := by decide +kernel
theorem dX4_isLetter_15 : decode cX4_isLetter 15 = .ok (.iload_n 1, 1) := by decide +kernel
theorem dX4_isLetter_16 : decode cX4_isLetter 16 = .ok (.baload, 1) := by decide +kernel
theorem dX4_isLetter_17 : decode cX4_isLetter 17 = .ok (.bipush 122, 2) := by decide +kernel
theorem dX4_isLetter_19 : decode cX4_isLetter 19 = .ok (.if_icmp .gt 7, 3) := by decide +kernel
theorem dX4_isLetter_22 : decode cX4_isLetter 22 = .ok (.iconst 1, 1) := by decide +kernel
theorem dX4_isLetter_23 : decode cX4_isLetter 23 = .ok (.goto 4, 3) := by decide +kernel
theorem dX4_isLetter_26 : decode cX4_isLetter 26 = .ok (.iconst 0, 1) := by decide +kernel
theorem dX4_isLetter_27 : decode cX4_isLetter 27 = .ok (.ireturn, 1) := by decide +kernel
theorem dX4_letterAt_0 : decode cX4_letterAt 0 = .ok (.iload_n 1, 1) := by decide +kernel
theorem dX4_letterAt_1 : decode cX4_letterAt 1 = .ok (.ifCond .lt 25, 3) := by decide +kernel
theorem dX4_letterAt_4 : decode cX4_letterAt 4 = .ok (.iload_n 1, 1) := by decide +kernel
theorem dX4_letterAt_5 : decode cX4_letterAt 5 = .ok (.aload_n 0, 1) := by decide +kernel
theorem dX4_letterAt_6 : decode cX4_letterAt 6 = .ok (.getfield 33, 3) := by decide +kernel
theorem dX4_letterAt_9 : decode cX4_letterAt 9 = .ok (.if_icmp .ge 17, 3) := by decide +kernel
theorem dX4_letterAt_12 : decode cX4_letterAt 12 = .ok (.aload_n 0, 1) := by decide +kernel
theorem dX4_letterAt_13 : decode cX4_letterAt 13 = .ok (.getfield 9, 3) := by decide +kernel
theorem dX4_letterAt_16 : decode cX4_letterAt 16 = .ok (.iload_n 1, 1) := by decide +kernel
theorem dX4_letterAt_17 : decode cX4_letterAt 17 = .ok (.baload, 1) := by decide +kernel
theorem dX4_letterAt_18 : decode cX4_letterAt 18 = .ok (.bipush 97, 2) := by decide +kernel
theorem dX4_letterAt_20 : decode cX4_letterAt 20 = .ok (.isub, 1) := by decide +kernel
theorem dX4_letterAt_21 : decode cX4_letterAt 21 = .ok (.iconst 1, 1) := by decide +kernel
theorem dX4_letterAt_22 : decode cX4_letterAt 22 = .ok (.iadd, 1) := by decide +kernel
theorem dX4_letterAt_23 : decode cX4_letterAt 23 = .ok (.goto 4, 3) := by decide +kernel
theorem dX4_letterAt_26 : decode cX4_letterAt 26 = .ok (.iconst 0, 1) := by decide +kernel
theorem dX4_letterAt_27 : decode cX4_letterAt 27 = .ok (.ireturn, 1) := by decide +kernel
theorem dX4_wordAtHand_0 : decode cX4_wordAtHand 0 = .ok (.iconst 0, 1) := by decide +kernel
theorem dX4_wordAtHand_1 : decode cX4_wordAtHand 1 = .ok (.istore_n 1, 1) := by decide +kernel
theorem dX4_wordAtHand_2 : decode cX4_wordAtHand 2 = .ok (.iconst 0, 1) := by decide +kernel
theorem dX4_wordAtHand_3 : decode cX4_wordAtHand 3 = .ok (.istore_n 2, 1) := by decide +kernel
theorem dX4_wordAtHand_4 : decode cX4_wordAtHand 4 = .ok (.iload_n 2, 1) := by decide +kernel
theorem dX4_wordAtHand_5 : decode cX4_wordAtHand 5 = .ok (.aload_n 0, 1) := by decide +kernel
theorem dX4_wordAtHand_6 : decode cX4_wordAtHand 6 = .ok (.getfield 110, 3) := by decide +kernel
theorem dX4_wordAtHand_9 : decode cX4_wordAtHand 9 = .ok (.if_icmp .ge 32, 3) := by decide +kernel
theorem dX4_wordAtHand_12 : decode cX4_wordAtHand 12 = .ok (.iload_n 2, 1) := by decide +kernel
theorem dX4_wordAtHand_13 : decode cX4_wordAtHand 13 = .ok (.bipush 6, 2) := by decide +kernel
theorem dX4_wordAtHand_15 : decode cX4_wordAtHand 15 = .ok (.if_icmp .ge 26, 3) := by decide +kernel
theorem dX4_wordAtHand_18 : decode cX4_wordAtHand 18 = .ok (.iload_n 1, 1) := by decide +kernel
theorem dX4_wordAtHand_19 : decode cX4_wordAtHand 19 = .ok (.aload_n 0, 1) := by decide +kernel
theorem dX4_wordAtHand_20 : decode cX4_wordAtHand 20 = .ok (.aload_n 0, 1) := by decide +kernel
theorem dX4_wordAtHand_21 : decode cX4_wordAtHand 21 = .ok (.getfield 62, 3) := by decide +kernel
theorem dX4_wordAtHand_24 : decode cX4_wordAtHand 24 = .ok (.iload_n 2, 1) := by decide +kernel
theorem dX4_wordAtHand_25 : decode cX4_wordAtHand 25 = .ok (.iadd, 1) := by decide +kernel
theorem dX4_wordAtHand_26 : decode cX4_wordAtHand 26 = .ok (.invokevirtual 113, 3) := by decide +kernel
theorem dX4_wordAtHand_29 : decode cX4_wordAtHand 29 = .ok (.iconst 5, 1) := by decide +kernel
theorem dX4_wordAtHand_30 : decode cX4_wordAtHand 30 = .ok (.iload_n 2, 1) := by decide +kernel
theorem dX4_wordAtHand_31 : decode cX4_wordAtHand 31 = .ok (.imul, 1) := by decide +kernel
theorem dX4_wordAtHand_32 : decode cX4_wordAtHand 32 = .ok (.ishl, 1) := by decide +kernel
theorem dX4_wordAtHand_33 : decode cX4_wordAtHand 33 = .ok (.ior, 1) := by decide +kernel
theorem dX4_wordAtHand_34 : decode cX4_wordAtHand 34 = .ok (.istore_n 1, 1) := by decide +kernel
theorem dX4_wordAtHand_35 : decode cX4_wordAtHand 35 = .ok (.iinc 2 1, 3) := by decide +kernel
theorem dX4_wordAtHand_38 : decode cX4_wordAtHand 38 = .ok (.goto (-34), 3) := by decide +kernel
theorem dX4_wordAtHand_41 : decode cX4_wordAtHand 41 = .ok (.iload_n 1, 1) := by decide +kernel
theorem dX4_wordAtHand_42 : decode cX4_wordAtHand 42 = .ok (.ireturn, 1) := by decide +kernel
theorem dX4_isNamed_0 : decode cX4_isNamed 0 = .ok (.aload_n 0, 1) := by decide +kernel
theorem dX4_isNamed_1 : decode cX4_isNamed 1 = .ok (.getfield 110, 3) := by decide +kernel
theorem dX4_isNamed_4 : decode cX4_isNamed 4 = .ok (.aload_n 1, 1) := by decide +kernel
theorem dX4_isNamed_5 : decode cX4_isNamed 5 = .ok (.invokevirtual 149, 3) := by decide +kernel
theorem dX4_isNamed_8 : decode cX4_isNamed 8 = .ok (.if_icmp .eq 5, 3) := by decide +kernel
theorem dX4_isNamed_11 : decode cX4_isNamed 11 = .ok (.iconst 0, 1) := by decide +kernel
theorem dX4_isNamed_12 : decode cX4_isNamed 12 = .ok (.ireturn, 1) := by decide +kernel
theorem dX4_isNamed_13 : decode cX4_isNamed 13 = .ok (.iconst 0, 1) := by decide +kernel
theorem dX4_isNamed_14 : decode cX4_isNamed 14 = .ok (.istore_n 2, 1) := by decide +kernel
theorem dX4_isNamed_15 : decode cX4_isNamed 15 = .ok (.iload_n 2, 1) := by decide +kernel
theorem dX4_isNamed_16 : decode cX4_isNamed 16 = .ok (.aload_n 0, 1) := by decide +kernel
theorem dX4_isNamed_17 : decode cX4_isNamed 17 = .ok (.getfield 110, 3) := by decide +kernel
theorem dX4_isNamed_20 : decode cX4_isNamed 20 = .ok (.if_icmp .ge 30, 3) := by decide +kernel
theorem dX4_isNamed_23 : decode cX4_isNamed 23 = .ok (.aload_n 0, 1) := by decide +kernel
theorem dX4_isNamed_24 : decode cX4_isNamed 24 = .ok (.getfield 9, 3) := by decide +kernel
theorem dX4_isNamed_27 : decode cX4_isNamed 27 = .ok (.aload_n 0, 1) := by decide +kernel
theorem dX4_isNamed_28 : decode cX4_isNamed 28 = .ok (.getfield 62, 3) := by decide +kernel
theorem dX4_isNamed_31 : decode cX4_isNamed 31 = .ok (.iload_n 2, 1) := by decide +kernel
theorem dX4_isNamed_32 : decode cX4_isNamed 32 = .ok (.iadd, 1) := by decide +kernel
theorem dX4_isNamed_33 : decode cX4_isNamed 33 = .ok (.baload, 1) := by decide +kernel
theorem dX4_isNamed_34 : decode cX4_isNamed 34 = .ok (.aload_n 1, 1) := by decide +kernel
theorem dX4_isNamed_35 : decode cX4_isNamed 35 = .ok (.iload_n 2, 1) := by decide +kernel
theorem dX4_isNamed_36 : decode cX4_isNamed 36 = .ok (.invokevirtual 153, 3) := by decide +kernel
theorem dX4_isNamed_39 : decode cX4_isNamed 39 = .ok (.if_icmp .eq 5, 3) := by decide +kernel
theorem dX4_isNamed_42 : decode cX4_isNamed 42 = .ok (.iconst 0, 1) := by decide +kernel
theorem dX4_isNamed_43 : decode cX4_isNamed 43 = .ok (.ireturn, 1) := by decide +kernel
theorem dX4_isNamed_44 : decode cX4_isNamed 44 = .ok (.iinc 2 1, 3) := by decide +kernel
theorem dX4_isNamed_47 : decode cX4_isNamed 47 = .ok (.goto (-32), 3) := by decide +kernel
theorem dX4_isNamed_50 : decode cX4_isNamed 50 = .ok (.iconst 1, 1) := by decide +kernel
theorem dX4_isNamed_51 : decode cX4_isNamed 51 = .ok (.ireturn, 1) := by decide +kernel
theorem dX4_settingNamed_0 : decode cX4_settingNamed 0 = .ok (.aload_n 0, 1) := by decide +kernel
theorem dX4_settingNamed_1 : decode cX4_settingNamed 1 = .ok (.ldc 157, 2) := by decide +kernel
theorem dX4_settingNamed_3 : decode cX4_settingNamed 3 = .ok (.invokevirtual 71, 3) := by decide +kernel
theorem dX4_settingNamed_6 : decode cX4_settingNamed 6 = .ok (.ifCond .eq 5, 3) := by decide +kernel
theorem dX4_settingNamed_9 : decode cX4_settingNamed 9 = .ok (.iconst 0, 1) := by decide +kernel
theorem dX4_settingNamed_10 : decode cX4_settingNamed 10 = .ok (.ireturn, 1) := by decide +kernel
theorem dX4_settingNamed_11 : decode cX4_settingNamed 11 = .ok (.aload_n 0, 1) := by decide +kernel
theorem dX4_settingNamed_12 : decode cX4_settingNamed 12 = .ok (.ldc 159, 2) := by decide +kernel
theorem dX4_settingNamed_14 : decode cX4_settingNamed 14 = .ok (.invokevirtual 71, 3) := by decide +kernel
theorem dX4_settingNamed_17 : decode cX4_settingNamed 17 = .ok (.ifCond .eq 5, 3) := by decide +kernel
theorem dX4_settingNamed_20 : decode cX4_settingNamed 20 = .ok (.iconst 1, 1) := by decide +kernel
theorem dX4_settingNamed_21 : decode cX4_settingNamed 21 = .ok (.ireturn, 1) := by decide +kernel
theorem dX4_settingNamed_22 : decode cX4_settingNamed 22 = .ok (.aload_n 0, 1) := by decide +kernel
theorem dX4_settingNamed_23 : decode cX4_settingNamed 23 = .ok (.ldc 161, 2) := by decide +kernel
theorem dX4_settingNamed_25 : decode cX4_settingNamed 25 = .ok (.invokevirtual 71, 3) := by decide +kernel
theorem dX4_settingNamed_28 : decode cX4_settingNamed 28 = .ok (.ifCond .eq 5, 3) := by decide +kernel
theorem dX4_settingNamed_31 : decode cX4_settingNamed 31 = .ok (.iconst 2, 1) := by decide +kernel
theorem dX4_settingNamed_32 : decode cX4_settingNamed 32 = .ok (.ireturn, 1) := by decide +kernel
theorem dX4_settingNamed_33 : decode cX4_settingNamed 33 = .ok (.aload_n 0, 1) := by decide +kernel
theorem dX4_settingNamed_34 : decode cX4_settingNamed 34 = .ok (.ldc 163, 2) := by decide +kernel
theorem dX4_settingNamed_36 : decode cX4_settingNamed 36 = .ok (.invokevirtual 71, 3) := by decide +kernel
theorem dX4_settingNamed_39 : decode cX4_settingNamed 39 = .ok (.ifCond .eq 5, 3) := by decide +kernel
theorem dX4_settingNamed_42 : decode cX4_settingNamed 42 = .ok (.iconst 3, 1) := by decide +kernel
theorem dX4_settingNamed_43 : decode cX4_settingNamed 43 = .ok (.ireturn, 1) := by decide +kernel
theorem dX4_settingNamed_44 : decode cX4_settingNamed 44 = .ok (.aload_n 0, 1) := by decide +kernel
theorem dX4_settingNamed_45 : decode cX4_settingNamed 45 = .ok (.ldc 165, 2) := by decide +kernel
theorem dX4_settingNamed_47 : decode cX4_settingNamed 47 = .ok (.invokevirtual 71, 3) := by decide +kernel
theorem dX4_settingNamed_50 : decode cX4_settingNamed 50 = .ok (.ifCond .eq 5, 3) := by decide +kernel
theorem dX4_settingNamed_53 : decode cX4_settingNamed 53 = .ok (.iconst 4, 1) := by decide +kernel
theorem dX4_settingNamed_54 : decode cX4_settingNamed 54 = .ok (.ireturn, 1) := by decide +kernel
theorem dX4_settingNamed_55 : decode cX4_settingNamed 55 = .ok (.aload_n 0, 1) := by decide +kernel
theorem dX4_settingNamed_56 : decode cX4_settingNamed 56 = .ok (.ldc 167, 2) := by decide +kernel
theorem dX4_settingNamed_58 : decode cX4_settingNamed 58 = .ok (.invokevirtual 71, 3) := by decide +kernel
theorem dX4_settingNamed_61 : decode cX4_settingNamed 61 = .ok (.ifCond .eq 7, 3) := by decide +kernel
theorem dX4_settingNamed_64 : decode cX4_settingNamed 64 = .ok (.iconst 5, 1) := by decide +kernel
theorem dX4_settingNamed_65 : decode cX4_settingNamed 65 = .ok (.goto 5, 3) := by decide +kernel
theorem dX4_settingNamed_68 : decode cX4_settingNamed 68 = .ok (.bipush (-4), 2) := by decide +kernel
theorem dX4_settingNamed_70 : decode cX4_settingNamed 70 = .ok (.ireturn, 1) := by decide +kernel
theorem dX5_init_0 : decode cX5_init 0 = .ok (.aload_n 0, 1) := by decide +kernel
theorem dX5_init_1 : decode cX5_init 1 = .ok (.invokespecial 3, 3) := by decide +kernel
theorem dX5_init_4 : decode cX5_init 4 = .ok (.aload_n 0, 1) := by decide +kernel
theorem dX5_init_5 : decode cX5_init 5 = .ok (.bipush 6, 2) := by decide +kernel
theorem dX5_init_7 : decode cX5_init 7 = .ok (.newarray .int, 2) := by decide +kernel
theorem dX5_init_9 : decode cX5_init 9 = .ok (.putfield 9, 3) := by decide +kernel
theorem dX5_init_12 : decode cX5_init 12 = .ok (.aload_n 0, 1) := by decide +kernel
theorem dX5_init_13 : decode cX5_init 13 = .ok (.bipush 6, 2) := by decide +kernel
theorem dX5_init_15 : decode cX5_init 15 = .ok (.newarray .int, 2) := by decide +kernel
theorem dX5_init_17 : decode cX5_init 17 = .ok (.putfield 15, 3) := by decide +kernel
theorem dX5_init_20 : decode cX5_init 20 = .ok (.aload_n 0, 1) := by decide +kernel
theorem dX5_init_21 : decode cX5_init 21 = .ok (.bipush 6, 2) := by decide +kernel
theorem dX5_init_23 : decode cX5_init 23 = .ok (.newarray .int, 2) := by decide +kernel
theorem dX5_init_25 : decode cX5_init 25 = .ok (.putfield 18, 3) := by decide +kernel
theorem dX5_init_28 : decode cX5_init 28 = .ok (.aload_n 0, 1) := by decide +kernel
theorem dX5_init_29 : decode cX5_init 29 = .ok (.bipush 48, 2) := by decide +kernel
theorem dX5_init_31 : decode cX5_init 31 = .ok (.newarray .int, 2) := by decide +kernel
theorem dX5_init_33 : decode cX5_init 33 = .ok (.putfield 21, 3) := by decide +kernel
theorem dX5_init_36 : decode cX5_init 36 = .ok (.aload_n 0, 1) := by decide +kernel
theorem dX5_init_37 : decode cX5_init 37 = .ok (.bipush 48, 2) := by decide +kernel
theorem dX5_init_39 : decode cX5_init 39 = .ok (.newarray .int, 2) := by decide +kernel
theorem dX5_init_41 : decode cX5_init 41 = .ok (.putfield 24, 3) := by decide +kernel
theorem dX5_init_44 : decode cX5_init 44 = .ok (.return_, 1) := by decide +kernel
theorem dX5_copyFrom_0 : decode cX5_copyFrom 0 = .ok (.aload_n 0, 1) := by decide +kernel
theorem dX5_copyFrom_1 : decode cX5_copyFrom 1 = .ok (.aload_n 1, 1) := by decide +kernel
theorem dX5_copyFrom_2 : decode cX5_copyFrom 2 = .ok (.getfield 27, 3) := by decide +kernel
theorem dX5_copyFrom_5 : decode cX5_copyFrom 5 = .ok (.putfield 27, 3) := by decide +kernel
theorem dX5_copyFrom_8 : decode cX5_copyFrom 8 = .ok (.aload_n 1, 1) := by decide +kernel
theorem dX5_copyFrom_9 : decode cX5_copyFrom 9 = .ok (.getfield 9, 3) := by decide +kernel
theorem dX5_copyFrom_12 : decode cX5_copyFrom 12 = .ok (.iconst 0, 1) := by decide +kernel
theorem dX5_copyFrom_13 : decode cX5_copyFrom 13 = .ok (.aload_n 0, 1) := by decide +kernel
theorem dX5_copyFrom_14 : decode cX5_copyFrom 14 = .ok (.getfield 9, 3) := by decide +kernel
theorem dX5_copyFrom_17 : decode cX5_copyFrom 17 = .ok (.iconst 0, 1) := by decide +kernel
theorem dX5_copyFrom_18 : decode cX5_copyFrom 18 = .ok (.bipush 6, 2) := by decide +kernel
theorem dX5_copyFrom_20 : decode cX5_copyFrom 20 = .ok (.invokestatic 31, 3) := by decide +kernel
theorem dX5_copyFrom_23 : decode cX5_copyFrom 23 = .ok (.aload_n 1, 1) := by decide +kernel
theorem dX5_copyFrom_24 : decode cX5_copyFrom 24 = .ok (.getfield 15, 3) := by decide +kernel
theorem dX5_copyFrom_27 : decode cX5_copyFrom 27 = .ok (.iconst 0, 1) := by decide +kernel
theorem dX5_copyFrom_28 : decode cX5_copyFrom 28 = .ok (.aload_n 0, 1) := by decide +kernel
theorem dX5_copyFrom_29 : decode cX5_copyFrom 29 = .ok (.getfield 15, 3) := by decide +kernel
theorem dX5_copyFrom_32 : decode cX5_copyFrom 32 = .ok (.iconst 0, 1) := by decide +kernel
theorem dX5_copyFrom_33 : decode cX5_copyFrom 33 = .ok (.bipush 6, 2) := by decide +kernel
theorem dX5_copyFrom_35 : decode cX5_copyFrom 35 = .ok (.invokestatic 31, 3) := by decide +kernel
theorem dX5_copyFrom_38 : decode cX5_copyFrom 38 = .ok (.aload_n 1, 1) := by decide +kernel
theorem dX5_copyFrom_39 : decode cX5_copyFrom 39 = .ok (.getfield 18, 3) := by decide +kernel
theorem dX5_copyFrom_42 : decode cX5_copyFrom 42 = .ok (.iconst 0, 1) := by decide +kernel
theorem dX5_copyFrom_43 : decode cX5_copyFrom 43 = .ok (.aload_n 0, 1) := by decide +kernel
theorem dX5_copyFrom_44 : decode cX5_copyFrom 44 = .ok (.getfield 18, 3) := by decide +kernel
theorem dX5_copyFrom_47 : decode cX5_copyFrom 47 = .ok (.iconst 0, 1) := by decide +kernel
theorem dX5_copyFrom_48 : decode cX5_copyFrom 48 = .ok (.bipush 6, 2) := by decide +kernel
theorem dX5_copyFrom_50 : decode cX5_copyFrom 50 = .ok (.invokestatic 31, 3) := by decide +kernel
theorem dX5_copyFrom_53 : decode cX5_copyFrom 53 = .ok (.aload_n 1, 1) := by decide +kernel
theorem dX5_copyFrom_54 : decode cX5_copyFrom 54 = .ok (.getfield 21, 3) := by decide +kernel
theorem dX5_copyFrom_57 : decode cX5_copyFrom 57 = .ok (.iconst 0, 1) := by decide +kernel
theorem dX5_copyFrom_58 : decode cX5_copyFrom 58 = .ok (.aload_n 0, 1) := by decide +kernel
theorem dX5_copyFrom_59 : decode cX5_copyFrom 59 = .ok (.getfield 21, 3) := by decide +kernel
theorem dX5_copyFrom_62 : decode cX5_copyFrom 62 = .ok (.iconst 0, 1) := by decide +kernel
theorem dX5_copyFrom_63 : decode cX5_copyFrom 63 = .ok (.bipush 48, 2) := by decide +kernel
theorem dX5_copyFrom_65 : decode cX5_copyFrom 65 = .ok (.invokestatic 31, 3) := by decide +kernel
theorem dX5_copyFrom_68 : decode cX5_copyFrom 68 = .ok (.aload_n 1, 1) := by decide +kernel
theorem dX5_copyFrom_69 : decode cX5_copyFrom 69 = .ok (.getfield 24, 3) := by decide +kernel
theorem dX5_copyFrom_72 : decode cX5_copyFrom 72 = .ok (.iconst 0, 1) := by decide +kernel
theorem dX5_copyFrom_73 : decode cX5_copyFrom 73 = .ok (.aload_n 0, 1) := by decide +kernel
theorem dX5_copyFrom_74 : decode cX5_copyFrom 74 = .ok (.getfield 24, 3) := by decide +kernel
theorem dX5_copyFrom_77 : decode cX5_copyFrom 77 = .ok (.iconst 0, 1) := by decide +kernel
theorem dX5_copyFrom_78 : decode cX5_copyFrom 78 = .ok (.bipush 48, 2) := by decide +kernel
theorem dX5_copyFrom_80 : decode cX5_copyFrom 80 = .ok (.invokestatic 31, 3) := by decide +kernel
theorem dX5_copyFrom_83 : decode cX5_copyFrom 83 = .ok (.return_, 1) := by decide +kernel
theorem dX5_withSign_0 : decode cX5_withSign 0 = .ok (.iconst 0, 1) := by decide +kernel
theorem dX5_withSign_1 : decode cX5_withSign 1 = .ok (.istore_n 2, 1) := by decide +kernel
theorem dX5_withSign_2 : decode cX5_withSign 2 = .ok (.iload_n 2, 1) := by decide +kernel
theorem dX5_withSign_3 : decode cX5_withSign 3 = .ok (.aload_n 0, 1) := by decide +kernel
theorem dX5_withSign_4 : decode cX5_withSign 4 = .ok (.getfield 27, 3) := by decide +kernel
theorem dX5_withSign_7 : decode cX5_withSign 7 = .ok (.if_icmp .ge 21, 3) := by decide +kernel
theorem dX5_withSign_10 : decode cX5_withSign 10 = .ok (.aload_n 0, 1) := by decide +kernel
theorem dX5_withSign_11 : decode cX5_withSign 11 = .ok (.getfield 9, 3) := by decide +kernel
theorem dX5_withSign_14 : decode cX5_withSign 14 = .ok (.iload_n 2, 1) := by decide +kernel
theorem dX5_withSign_15 : decode cX5_withSign 15 = .ok (.iaload, 1) := by decide +kernel
theorem dX5_withSign_16 : decode cX5_withSign 16 = .ok (.iload_n 1, 1) := by decide +kernel
theorem dX5_withSign_17 : decode cX5_withSign 17 = .ok (.if_icmp .ne 5, 3) := by decide +kernel
theorem dX5_withSign_20 : decode cX5_withSign 20 = .ok (.iload_n 2, 1) := by decide +kernel
theorem dX5_withSign_21 : decode cX5_withSign 21 = .ok (.ireturn, 1) := by decide +kernel
theorem dX5_withSign_22 : decode cX5_withSign 22 = .ok (.iinc 2 1, 3) := by decide +kernel
theorem dX5_withSign_25 : decode cX5_withSign 25 = .ok (.goto (-23), 3) := by decide +kernel
theorem dX5_withSign_28 : decode cX5_withSign 28 = .ok (.bipush (-4), 2) := by decide +kernel
theorem dX5_withSign_30 : decode cX5_withSign 30 = .ok (.ireturn, 1) := by decide +kernel
theorem dX5_addShape_0 : decode cX5_addShape 0 = .ok (.aload_n 0, 1) := by decide +kernel
theorem dX5_addShape_1 : decode cX5_addShape 1 = .ok (.getfield 27, 3) := by decide +kernel
theorem dX5_addShape_4 : decode cX5_addShape 4 = .ok (.bipush 6, 2) := by decide +kernel
theorem dX5_addShape_6 : decode cX5_addShape 6 = .ok (.if_icmp .ge 43, 3) := by decide +kernel
theorem dX5_addShape_9 : decode cX5_addShape 9 = .ok (.aload_n 0, 1) := by decide +kernel
theorem dX5_addShape_10 : decode cX5_addShape 10 = .ok (.getfield 9, 3) := by decide +kernel
theorem dX5_addShape_13 : decode cX5_addShape 13 = .ok (.aload_n 0, 1) := by decide +kernel
theorem dX5_addShape_14 : decode cX5_addShape 14 = .ok (.getfield 27, 3) := by decide +kernel
theorem dX5_addShape_17 : decode cX5_addShape 17 = .ok (.iload_n 1, 1) := by decide +kernel
theorem dX5_addShape_18 : decode cX5_addShape 18 = .ok (.iastore, 1) := by decide +kernel
theorem dX5_addShape_19 : decode cX5_addShape 19 = .ok (.aload_n 0, 1) := by decide +kernel
theorem dX5_addShape_20 : decode cX5_addShape 20 = .ok (.getfield 15, 3) := by decide +kernel
theorem dX5_addShape_23 : decode cX5_addShape 23 = .ok (.aload_n 0, 1) := by decide +kernel
theorem dX5_addShape_24 : decode cX5_addShape 24 = .ok (.getfield 27, 3) := by decide +kernel
theorem dX5_addShape_27 : decode cX5_addShape 27 = .ok (.iload_n 2, 1) := by decide +kernel
theorem dX5_addShape_28 : decode cX5_addShape 28 = .ok (.iastore, 1) := by decide +kernel
theorem dX5_addShape_29 : decode cX5_addShape 29 = .ok (.aload_n 0, 1) := by decide +kernel
theorem dX5_addShape_30 : decode cX5_addShape 30 = .ok (.getfield 18, 3) := by decide +kernel
theorem dX5_addShape_33 : decode cX5_addShape 33 = .ok (.aload_n 0, 1) := by decide +kernel
theorem dX5_addShape_34 : decode cX5_addShape 34 = .ok (.getfield 27, 3) := by decide +kernel
theorem dX5_addShape_37 : decode cX5_addShape 37 = .ok (.iconst 0, 1) := by decide +kernel
theorem dX5_addShape_38 : decode cX5_addShape 38 = .ok (.iastore, 1) := by decide +kernel
theorem dX5_addShape_39 : decode cX5_addShape 39 = .ok (.aload_n 0, 1) := by decide +kernel
theorem dX5_addShape_40 : decode cX5_addShape 40 = .ok (.dup, 1) := by decide +kernel
theorem dX5_addShape_41 : decode cX5_addShape 41 = .ok (.getfield 27, 3) := by decide +kernel
theorem dX5_addShape_44 : decode cX5_addShape 44 = .ok (.iconst 1, 1) := by decide +kernel
theorem dX5_addShape_45 : decode cX5_addShape 45 = .ok (.iadd, 1) := by decide +kernel
theorem dX5_addShape_46 : decode cX5_addShape 46 = .ok (.putfield 27, 3) := by decide +kernel
theorem dX5_addShape_49 : decode cX5_addShape 49 = .ok (.return_, 1) := by decide +kernel
theorem dX5_addStep_0 : decode cX5_addStep 0 = .ok (.aload_n 0, 1) := by decide +kernel
theorem dX5_addStep_1 : decode cX5_addStep 1 = .ok (.getfield 27, 3) := by decide +kernel
theorem dX5_addStep_4 : decode cX5_addStep 4 = .ok (.iconst 1, 1) := by decide +kernel
theorem dX5_addStep_5 : decode cX5_addStep 5 = .ok (.isub, 1) := by decide +kernel
theorem dX5_addStep_6 : decode cX5_addStep 6 = .ok (.istore_n 3, 1) := by decide +kernel
theorem dX5_addStep_7 : decode cX5_addStep 7 = .ok (.iload_n 3, 1) := by decide +kernel
theorem dX5_addStep_8 : decode cX5_addStep 8 = .ok (.ifCond .lt 53, 3) := by decide +kernel
theorem dX5_addStep_11 : decode cX5_addStep 11 = .ok (.aload_n 0, 1) := by decide +kernel
theorem dX5_addStep_12 : decode cX5_addStep 12 = .ok (.getfield 18, 3) := by decide +kernel
theorem dX5_addStep_15 : decode cX5_addStep 15 = .ok (.iload_n 3, 1) := by decide +kernel
theorem dX5_addStep_16 : decode cX5_addStep 16 = .ok (.iaload, 1) := by decide +kernel
theorem dX5_addStep_17 : decode cX5_addStep 17 = .ok (.bipush 8, 2) := by decide +kernel
theorem dX5_addStep_19 : decode cX5_addStep 19 = .ok (.if_icmp .ge 42, 3) := by decide +kernel
theorem dX5_addStep_22 : decode cX5_addStep 22 = .ok (.iload_n 3, 1) := by decide +kernel
theorem dX5_addStep_23 : decode cX5_addStep 23 = .ok (.bipush 8, 2) := by decide +kernel
theorem dX5_addStep_25 : decode cX5_addStep 25 = .ok (.imul, 1) := by decide +kernel
theorem dX5_addStep_26 : decode cX5_addStep 26 = .ok (.aload_n 0, 1) := by decide +kernel
theorem dX5_addStep_27 : decode cX5_addStep 27 = .ok (.getfield 18, 3) := by decide +kernel
theorem dX5_addStep_30 : decode cX5_addStep 30 = .ok (.iload_n 3, 1) := by decide +kernel
theorem dX5_addStep_31 : decode cX5_addStep 31 = .ok (.iaload, 1) := by decide +kernel
theorem dX5_addStep_32 : decode cX5_addStep 32 = .ok (.iadd, 1) := by decide +kernel
theorem dX5_addStep_33 : decode cX5_addStep 33 = .ok (.istore 4, 2) := by decide +kernel
theorem dX5_addStep_35 : decode cX5_addStep 35 = .ok (.aload_n 0, 1) := by decide +kernel
theorem dX5_addStep_36 : decode cX5_addStep 36 = .ok (.getfield 21, 3) := by decide +kernel
theorem dX5_addStep_39 : decode cX5_addStep 39 = .ok (.iload 4, 2) := by decide +kernel
theorem dX5_addStep_41 : decode cX5_addStep 41 = .ok (.iload_n 1, 1) := by decide +kernel
theorem dX5_addStep_42 : decode cX5_addStep 42 = .ok (.iastore, 1) := by decide +kernel
theorem dX5_addStep_43 : decode cX5_addStep 43 = .ok (.aload_n 0, 1) := by decide +kernel
theorem dX5_addStep_44 : decode cX5_addStep 44 = .ok (.getfield 24, 3) := by decide +kernel
theorem dX5_addStep_47 : decode cX5_addStep 47 = .ok (.iload 4, 2) := by decide +kernel
theorem dX5_addStep_49 : decode cX5_addStep 49 = .ok (.iload_n 2, 1) := by decide +kernel
theorem dX5_addStep_50 : decode cX5_addStep 50 = .ok (.iastore, 1) := by decide +kernel
theorem dX5_addStep_51 : decode cX5_addStep 51 = .ok (.aload_n 0, 1) := by decide +kernel
theorem dX5_addStep_52 : decode cX5_addStep 52 = .ok (.getfield 18, 3) := by decide +kernel
theorem dX5_addStep_55 : decode cX5_addStep 55 = .ok (.iload_n 3, 1) := by decide +kernel
theorem dX5_addStep_56 : decode cX5_addStep 56 = .ok (.dup2, 1) := by decide +kernel
theorem dX5_addStep_57 : decode cX5_addStep 57 = .ok (.iaload, 1) := by decide +kernel
theorem dX5_addStep_58 : decode cX5_addStep 58 = .ok (.iconst 1, 1) := by decide +kernel
theorem dX5_addStep_59 : decode cX5_addStep 59 = .ok (.iadd, 1) := by decide +kernel
theorem dX5_addStep_60 : decode cX5_addStep 60 = .ok (.iastore, 1) := by decide +kernel
theorem dX5_addStep_61 : decode cX5_addStep 61 = .ok (.return_, 1) := by decide +kernel
theorem dX5_depthOf_0 : decode cX5_depthOf 0 = .ok (.aload_n 0, 1) := by decide +kernel
theorem dX5_depthOf_1 : decode cX5_depthOf 1 = .ok (.getfield 21, 3) := by decide +kernel
theorem dX5_depthOf_4 : decode cX5_depthOf 4 = .ok (.iload_n 1, 1) := by decide +kernel
theorem dX5_depthOf_5 : decode cX5_depthOf 5 = .ok (.bipush 8, 2) := by decide +kernel
theorem dX5_depthOf_7 : decode cX5_depthOf 7 = .ok (.imul, 1) := by decide +kernel
theorem dX5_depthOf_8 : decode cX5_depthOf 8 = .ok (.iload_n 2, 1) := by decide +kernel
theorem dX5_depthOf_9 : decode cX5_depthOf 9 = .ok (.iadd, 1) := by decide +kernel
theorem dX5_depthOf_10 : decode cX5_depthOf 10 = .ok (.iaload, 1) := by decide +kernel
theorem dX5_depthOf_11 : decode cX5_depthOf 11 = .ok (.ireturn, 1) := by decide +kernel
theorem dX5_extentOf_0 : decode cX5_extentOf 0 = .ok (.aload_n 0, 1) := by decide +kernel
theorem dX5_extentOf_1 : decode cX5_extentOf 1 = .ok (.getfield 24, 3) := by decide +kernel
theorem dX5_extentOf_4 : decode cX5_extentOf 4 = .ok (.iload_n 1, 1) := by decide +kernel
theorem dX5_extentOf_5 : decode cX5_extentOf 5 = .ok (.bipush 8, 2) := by decide +kernel
theorem dX5_extentOf_7 : decode cX5_extentOf 7 = .ok (.imul, 1) := by decide +kernel
theorem dX5_extentOf_8 : decode cX5_extentOf 8 = .ok (.iload_n 2, 1) := by decide +kernel
theorem dX5_extentOf_9 : decode cX5_extentOf 9 = .ok (.iadd, 1) := by decide +kernel
theorem dX5_extentOf_10 : decode cX5_extentOf 10 = .ok (.iaload, 1) := by decide +kernel
theorem dX5_extentOf_11 : decode cX5_extentOf 11 = .ok (.ireturn, 1) := by decide +kernel
theorem dX5_greatestExtent_0 : decode cX5_greatestExtent 0 = .ok (.iconst 0, 1) := by decide +kernel
theorem dX5_greatestExtent_1 : decode cX5_greatestExtent 1 = .ok (.istore_n 2, 1) := by decide +kernel
theorem dX5_greatestExtent_2 : decode cX5_greatestExtent 2 = .ok (.iconst 0, 1) := by decide +kernel
theorem dX5_greatestExtent_3 : decode cX5_greatestExtent 3 = .ok (.istore_n 3, 1) := by decide +kernel
theorem dX5_greatestExtent_4 : decode cX5_greatestExtent 4 = .ok (.iload_n 3, 1) := by decide +kernel
theorem dX5_greatestExtent_5 : decode cX5_greatestExtent 5 = .ok (.aload_n 0, 1) := by decide +kernel
theorem dX5_greatestExtent_6 : decode cX5_greatestExtent 6 = .ok (.getfield 18, 3) := by decide +kernel
theorem dX5_greatestExtent_9 : decode cX5_greatestExtent 9 = .ok (.iload_n 1, 1) := by decide +kernel
theorem dX5_greatestExtent_10 : decode cX5_greatestExtent 10 = .ok (.iaload, 1) := by decide +kernel
theorem dX5_greatestExtent_11 : decode cX5_greatestExtent 11 = .ok (.if_icmp .ge 20, 3) := by decide +kernel
theorem dX5_greatestExtent_14 : decode cX5_greatestExtent 14 = .ok (.iload_n 2, 1) := by decide +kernel
theorem dX5_greatestExtent_15 : decode cX5_greatestExtent 15 = .ok (.aload_n 0, 1) := by decide +kernel
theorem dX5_greatestExtent_16 : decode cX5_greatestExtent 16 = .ok (.iload_n 1, 1) := by decide +kernel
theorem dX5_greatestExtent_17 : decode cX5_greatestExtent 17 = .ok (.iload_n 3, 1) := by decide +kernel
theorem dX5_greatestExtent_18 : decode cX5_greatestExtent 18 = .ok (.invokevirtual 37, 3) := by decide +kernel
theorem dX5_greatestExtent_21 : decode cX5_greatestExtent 21 = .ok (.invokestatic 41, 3) := by decide +kernel
theorem dX5_greatestExtent_24 : decode cX5_greatestExtent 24 = .ok (.istore_n 2, 1) := by decide +kernel
theorem dX5_greatestExtent_25 : decode cX5_greatestExtent 25 = .ok (.iinc 3 1, 3) := by decide +kernel
theorem dX5_greatestExtent_28 : decode cX5_greatestExtent 28 = .ok (.goto (-24), 3) := by decide +kernel
theorem dX5_greatestExtent_31 : decode cX5_greatestExtent 31 = .ok (.iload_n 2, 1) := by decide +kernel
theorem dX5_greatestExtent_32 : decode cX5_greatestExtent 32 = .ok (.ireturn, 1) := by decide +kernel
theorem dX6_init_0 : decode cX6_init 0 = .ok (.aload_n 0, 1) := by decide +kernel
theorem dX6_init_1 : decode cX6_init 1 = .ok (.invokespecial 3, 3) := by decide +kernel
theorem dX6_init_4 : decode cX6_init 4 = .ok (.aload_n 0, 1) := by decide +kernel
theorem dX6_init_5 : decode cX6_init 5 = .ok (.sipush 400, 3) := by decide +kernel
theorem dX6_init_8 : decode cX6_init 8 = .ok (.newarray .byte, 2) := by decide +kernel
theorem dX6_init_10 : decode cX6_init 10 = .ok (.putfield 9, 3) := by decide +kernel
theorem dX6_init_13 : decode cX6_init 13 = .ok (.aload_n 0, 1) := by decide +kernel
theorem dX6_init_14 : decode cX6_init 14 = .ok (.new 13, 3) := by decide +kernel
theorem dX6_init_17 : decode cX6_init 17 = .ok (.dup, 1) := by decide +kernel
theorem dX6_init_18 : decode cX6_init 18 = .ok (.invokespecial 15, 3) := by decide +kernel
theorem dX6_init_21 : decode cX6_init 21 = .ok (.putfield 16, 3) := by decide +kernel
theorem dX6_init_24 : decode cX6_init 24 = .ok (.aload_n 0, 1) := by decide +kernel
theorem dX6_init_25 : decode cX6_init 25 = .ok (.new 20, 3) := by decide +kernel
theorem dX6_init_28 : decode cX6_init 28 = .ok (.dup, 1) := by decide +kernel
theorem dX6_init_29 : decode cX6_init 29 = .ok (.invokespecial 22, 3) := by decide +kernel
theorem dX6_init_32 : decode cX6_init 32 = .ok (.putfield 23, 3) := by decide +kernel
theorem dX6_init_35 : decode cX6_init 35 = .ok (.aload_n 0, 1) := by decide +kernel
theorem dX6_init_36 : decode cX6_init 36 = .ok (.new 13, 3) := by decide +kernel
theorem dX6_init_39 : decode cX6_init 39 = .ok (.dup, 1) := by decide +kernel
theorem dX6_init_40 : decode cX6_init 40 = .ok (.invokespecial 15, 3) := by decide +kernel
theorem dX6_init_43 : decode cX6_init 43 = .ok (.putfield 27, 3) := by decide +kernel
theorem dX6_init_46 : decode cX6_init 46 = .ok (.aload_n 0, 1) := by decide +kernel
theorem dX6_init_47 : decode cX6_init 47 = .ok (.new 20, 3) := by decide +kernel
theorem dX6_init_50 : decode cX6_init 50 = .ok (.dup, 1) := by decide +kernel
theorem dX6_init_51 : decode cX6_init 51 = .ok (.invokespecial 22, 3) := by decide +kernel
theorem dX6_init_54 : decode cX6_init 54 = .ok (.putfield 30, 3) := by decide +kernel
theorem dX6_init_57 : decode cX6_init 57 = .ok (.aload_n 0, 1) := by decide +kernel
theorem dX6_init_58 : decode cX6_init 58 = .ok (.new 33, 3) := by decide +kernel
theorem dX6_init_61 : decode cX6_init 61 = .ok (.dup, 1) := by decide +kernel
theorem dX6_init_62 : decode cX6_init 62 = .ok (.aload_n 0, 1) := by decide +kernel
theorem dX6_init_63 : decode cX6_init 63 = .ok (.getfield 9, 3) := by decide +kernel
theorem dX6_init_66 : decode cX6_init 66 = .ok (.aload_n 0, 1) := by decide +kernel
theorem dX6_init_67 : decode cX6_init 67 = .ok (.getfield 27, 3) := by decide +kernel
theorem dX6_init_70 : decode cX6_init 70 = .ok (.aload_n 0, 1) := by decide +kernel
theorem dX6_init_71 : decode cX6_init 71 = .ok (.getfield 30, 3) := by decide +kernel
theorem dX6_init_74 : decode cX6_init 74 = .ok (.invokespecial 35, 3) := by decide +kernel
theorem dX6_init_77 : decode cX6_init 77 = .ok (.putfield 38, 3) := by decide +kernel
theorem dX6_init_80 : decode cX6_init 80 = .ok (.aload_n 0, 1) := by decide +kernel
theorem dX6_init_81 : decode cX6_init 81 = .ok (.new 42, 3) := by decide +kernel
theorem dX6_init_84 : decode cX6_init 84 = .ok (.dup, 1) := by decide +kernel
theorem dX6_init_85 : decode cX6_init 85 = .ok (.aload_n 0, 1) := by decide +kernel
theorem dX6_init_86 : decode cX6_init 86 = .ok (.getfield 16, 3) := by decide +kernel
theorem dX6_init_89 : decode cX6_init 89 = .ok (.aload_n 0, 1) := by decide +kernel
theorem dX6_init_90 : decode cX6_init 90 = .ok (.getfield 23, 3) := by decide +kernel
theorem dX6_init_93 : decode cX6_init 93 = .ok (.invokespecial 44, 3) := by decide +kernel
theorem dX6_init_96 : decode cX6_init 96 = .ok (.putfield 47, 3) := by decide +kernel
theorem dX6_init_99 : decode cX6_init 99 = .ok (.aload_n 0, 1) := by decide +kernel
theorem dX6_init_100 : decode cX6_init 100 = .ok (.new 51, 3) := by decide +kernel
theorem dX6_init_103 : decode cX6_init 103 = .ok (.dup, 1) := by decide +kernel
theorem dX6_init_104 : decode cX6_init 104 = .ok (.invokespecial 53, 3) := by decide +kernel
theorem dX6_init_107 : decode cX6_init 107 = .ok (.putfield 54, 3) := by decide +kernel
theorem dX6_init_110 : decode cX6_init 110 = .ok (.aload_n 0, 1) := by decide +kernel
theorem dX6_init_111 : decode cX6_init 111 = .ok (.new 58, 3) := by decide +kernel
theorem dX6_init_114 : decode cX6_init 114 = .ok (.dup, 1) := by decide +kernel
theorem dX6_init_115 : decode cX6_init 115 = .ok (.aload_n 0, 1) := by decide +kernel
theorem dX6_init_116 : decode cX6_init 116 = .ok (.getfield 23, 3) := by decide +kernel
theorem dX6_init_119 : decode cX6_init 119 = .ok (.aload_n 0, 1) := by decide +kernel
theorem dX6_init_120 : decode cX6_init 120 = .ok (.getfield 47, 3) := by decide +kernel
theorem dX6_init_123 : decode cX6_init 123 = .ok (.aload_n 0, 1) := by decide +kernel
theorem dX6_init_124 : decode cX6_init 124 = .ok (.getfield 54, 3) := by decide +kernel
theorem dX6_init_127 : decode cX6_init 127 = .ok (.invokespecial 60, 3) := by decide +kernel
theorem dX6_init_130 : decode cX6_init 130 = .ok (.putfield 63, 3) := by decide +kernel
theorem dX6_init_133 : decode cX6_init 133 = .ok (.aload_n 0, 1) := by decide +kernel
theorem dX6_init_134 : decode cX6_init 134 = .ok (.new 58, 3) := by decide +kernel
theorem dX6_init_137 : decode cX6_init 137 = .ok (.dup, 1) := by decide +kernel
theorem dX6_init_138 : decode cX6_init 138 = .ok (.aload_n 0, 1) := by decide +kernel
theorem dX6_init_139 : decode cX6_init 139 = .ok (.getfield 23, 3) := by decide +kernel
theorem dX6_init_142 : decode cX6_init 142 = .ok (.aload_n 0, 1) := by decide +kernel
theorem dX6_init_143 : decode cX6_init 143 = .ok (.getfield 47, 3) := by decide +kernel
theorem dX6_init_146 : decode cX6_init 146 = .ok (.aload_n 0, 1) := by decide +kernel
theorem dX6_init_147 : decode cX6_init 147 = .ok (.getfield 54, 3) := by decide +kernel
theorem dX6_init_150 : decode cX6_init 150 = .ok (.invokespecial 60, 3) := by decide +kernel
theorem dX6_init_153 : decode cX6_init 153 = .ok (.putfield 67, 3) := by decide +kernel
theorem dX6_init_156 : decode cX6_init 156 = .ok (.aload_n 0, 1) := by decide +kernel
theorem dX6_init_157 : decode cX6_init 157 = .ok (.iconst 1, 1) := by decide +kernel
theorem dX6_init_158 : decode cX6_init 158 = .ok (.putfield 70, 3) := by decide +kernel
theorem dX6_init_161 : decode cX6_init 161 = .ok (.aload_n 0, 1) := by decide +kernel
theorem dX6_init_162 : decode cX6_init 162 = .ok (.new 20, 3) := by decide +kernel
theorem dX6_init_165 : decode cX6_init 165 = .ok (.dup, 1) := by decide +kernel
theorem dX6_init_166 : decode cX6_init 166 = .ok (.invokespecial 22, 3) := by decide +kernel
theorem dX6_init_169 : decode cX6_init 169 = .ok (.putfield 74, 3) := by decide +kernel
theorem dX6_init_172 : decode cX6_init 172 = .ok (.aload_n 0, 1) := by decide +kernel
theorem dX6_init_173 : decode cX6_init 173 = .ok (.new 20, 3) := by decide +kernel
theorem dX6_init_176 : decode cX6_init 176 = .ok (.dup, 1) := by decide +kernel
theorem dX6_init_177 : decode cX6_init 177 = .ok (.invokespecial 22, 3) := by decide +kernel
theorem dX6_init_180 : decode cX6_init 180 = .ok (.putfield 77, 3) := by decide +kernel
theorem dX6_init_183 : decode cX6_init 183 = .ok (.return_, 1) := by decide +kernel
theorem dX6_feed_0 : decode cX6_feed 0 = .ok (.iload_n 1, 1) := by decide +kernel
theorem dX6_feed_1 : decode cX6_feed 1 = .ok (.ifCond .lt 9, 3) := by decide +kernel
theorem dX6_feed_4 : decode cX6_feed 4 = .ok (.iload_n 1, 1) := by decide +kernel
theorem dX6_feed_5 : decode cX6_feed 5 = .ok (.bipush 127, 2) := by decide +kernel
theorem dX6_feed_7 : decode cX6_feed 7 = .ok (.if_icmp .le 5, 3) := by decide +kernel
theorem dX6_feed_10 : decode cX6_feed 10 = .ok (.iconst (-1), 1) := by decide +kernel
theorem dX6_feed_11 : decode cX6_feed 11 = .ok (.ireturn, 1) := by decide +kernel
theorem dX6_feed_12 : decode cX6_feed 12 = .ok (.aload_n 0, 1) := by decide +kernel
theorem dX6_feed_13 : decode cX6_feed 13 = .ok (.getfield 80, 3) := by decide +kernel
theorem dX6_feed_16 : decode cX6_feed 16 = .ok (.sipush 400, 3) := by decide +kernel
theorem dX6_feed_19 : decode cX6_feed 19 = .ok (.if_icmp .lt 6, 3) := by decide +kernel
theorem dX6_feed_22 : decode cX6_feed 22 = .ok (.bipush (-3), 2) := by decide +kernel
theorem dX6_feed_24 : decode cX6_feed 24 = .ok (.ireturn, 1) := by decide +kernel
theorem dX6_feed_25 : decode cX6_feed 25 = .ok (.aload_n 0, 1) := by decide +kernel
theorem dX6_feed_26 : decode cX6_feed 26 = .ok (.getfield 9, 3) := by decide +kernel
theorem dX6_feed_29 : decode cX6_feed 29 = .ok (.aload_n 0, 1) := by decide +kernel
theorem dX6_feed_30 : decode cX6_feed 30 = .ok (.getfield 80, 3) := by decide +kernel
theorem dX6_feed_33 : decode cX6_feed 33 = .ok (.iload_n 1, 1) := by decide +kernel
theorem dX6_feed_34 : decode cX6_feed 34 = .ok (.i2b, 1) := by decide +kernel
theorem dX6_feed_35 : decode cX6_feed 35 = .ok (.bastore, 1) := by decide +kernel
theorem dX6_feed_36 : decode cX6_feed 36 = .ok (.aload_n 0, 1) := by decide +kernel
theorem dX6_feed_37 : decode cX6_feed 37 = .ok (.dup, 1) := by decide +kernel
theorem dX6_feed_38 : decode cX6_feed 38 = .ok (.getfield 80, 3) := by decide +kernel
theorem dX6_feed_41 : decode cX6_feed 41 = .ok (.iconst 1, 1) := by decide +kernel
theorem dX6_feed_42 : decode cX6_feed 42 = .ok (.iadd, 1) := by decide +kernel
theorem dX6_feed_43 : decode cX6_feed 43 = .ok (.putfield 80, 3) := by decide +kernel
theorem dX6_feed_46 : decode cX6_feed 46 = .ok (.aload_n 0, 1) := by decide +kernel
theorem dX6_feed_47 : decode cX6_feed 47 = .ok (.getfield 80, 3) := by decide +kernel
theorem dX6_feed_50 : decode cX6_feed 50 = .ok (.ireturn, 1) := by decide +kernel
theorem dX6_end_0 : decode cX6_end 0 = .ok (.iload_n 1, 1) := by decide +kernel
theorem dX6_end_1 : decode cX6_end 1 = .ok (.ifCond .lt 11, 3) := by decide +kernel
theorem dX6_end_4 : decode cX6_end 4 = .ok (.iload_n 1, 1) := by decide +kernel
theorem dX6_end_5 : decode cX6_end 5 = .ok (.aload_n 0, 1) := by decide +kernel
theorem dX6_end_6 : decode cX6_end 6 = .ok (.getfield 80, 3) := by decide +kernel
theorem dX6_end_9 : decode cX6_end 9 = .ok (.if_icmp .le 5, 3) := by decide +kernel
theorem dX6_end_12 : decode cX6_end 12 = .ok (.iconst (-1), 1) := by decide +kernel
theorem dX6_end_13 : decode cX6_end 13 = .ok (.ireturn, 1) := by decide +kernel
theorem dX6_end_14 : decode cX6_end 14 = .ok (.aload_n 0, 1) := by decide +kernel
theorem dX6_end_15 : decode cX6_end 15 = .ok (.getfield 80, 3) := by decide +kernel
theorem dX6_end_18 : decode cX6_end 18 = .ok (.istore_n 2, 1) := by decide +kernel
theorem dX6_end_19 : decode cX6_end 19 = .ok (.aload_n 0, 1) := by decide +kernel
theorem dX6_end_20 : decode cX6_end 20 = .ok (.iload_n 1, 1) := by decide +kernel
theorem dX6_end_21 : decode cX6_end 21 = .ok (.putfield 80, 3) := by decide +kernel
theorem dX6_end_24 : decode cX6_end 24 = .ok (.iload_n 2, 1) := by decide +kernel
theorem dX6_end_25 : decode cX6_end 25 = .ok (.ireturn, 1) := by decide +kernel
theorem dX6_text_0 : decode cX6_text 0 = .ok (.aload_n 0, 1) := by decide +kernel
theorem dX6_text_1 : decode cX6_text 1 = .ok (.getfield 30, 3) := by decide +kernel
theorem dX6_text_4 : decode cX6_text 4 = .ok (.aload_n 0, 1) := by decide +kernel
theorem dX6_text_5 : decode cX6_text 5 = .ok (.getfield 23, 3) := by decide +kernel
theorem dX6_text_8 : decode cX6_text 8 = .ok (.invokevirtual 84, 3) := by decide +kernel
theorem dX6_text_11 : decode cX6_text 11 = .ok (.aload_n 0, 1) := by decide +kernel
theorem dX6_text_12 : decode cX6_text 12 = .ok (.getfield 38, 3) := by decide +kernel
theorem dX6_text_15 : decode cX6_text 15 = .ok (.aload_n 0, 1) := by decide +kernel
theorem dX6_text_16 : decode cX6_text 16 = .ok (.getfield 80, 3) := by decide +kernel
theorem dX6_text_19 : decode cX6_text 19 = .ok (.invokevirtual 88, 3) := by decide +kernel
theorem dX6_text_22 : decode cX6_text 22 = .ok (.istore_n 1, 1) := by decide +kernel
theorem dX6_text_23 : decode cX6_text 23 = .ok (.aload_n 0, 1) := by decide +kernel
theorem dX6_text_24 : decode cX6_text 24 = .ok (.iconst 0, 1) := by decide +kernel
theorem dX6_text_25 : decode cX6_text 25 = .ok (.putfield 80, 3) := by decide +kernel
theorem dX6_text_28 : decode cX6_text 28 = .ok (.aload_n 0, 1) := by decide +kernel
theorem dX6_text_29 : decode cX6_text 29 = .ok (.getfield 38, 3) := by decide +kernel
theorem dX6_text_32 : decode cX6_text 32 = .ok (.invokevirtual 92, 3) := by decide +kernel
theorem dX6_text_35 : decode cX6_text 35 = .ok (.ifCond .ne 40, 3) := by decide +kernel
theorem dX6_text_38 : decode cX6_text 38 = .ok (.aload_n 0, 1) := by decide +kernel
theorem dX6_text_39 : decode cX6_text 39 = .ok (.getfield 16, 3) := by decide +kernel
theorem dX6_text_42 : decode cX6_text 42 = .ok (.aload_n 0, 1) := by decide +kernel
theorem dX6_text_43 : decode cX6_text 43 = .ok (.getfield 27, 3) := by decide +kernel
theorem dX6_text_46 : decode cX6_text 46 = .ok (.invokevirtual 96, 3) := by decide +kernel
theorem dX6_text_49 : decode cX6_text 49 = .ok (.aload_n 0, 1) := by decide +kernel
theorem dX6_text_50 : decode cX6_text 50 = .ok (.getfield 23, 3) := by decide +kernel
theorem dX6_text_53 : decode cX6_text 53 = .ok (.aload_n 0, 1) := by decide +kernel
theorem dX6_text_54 : decode cX6_text 54 = .ok (.getfield 30, 3) := by decide +kernel
theorem dX6_text_57 : decode cX6_text 57 = .ok (.invokevirtual 100, 3) := by decide +kernel
theorem dX6_text_60 : decode cX6_text 60 = .ok (.aload_n 0, 1) := by decide +kernel
theorem dX6_text_61 : decode cX6_text 61 = .ok (.iconst 0, 1) := by decide +kernel
theorem dX6_text_62 : decode cX6_text 62 = .ok (.putfield 102, 3) := by decide +kernel
theorem dX6_text_65 : decode cX6_text 65 = .ok (.aload_n 0, 1) := by decide +kernel
theorem dX6_text_66 : decode cX6_text 66 = .ok (.iconst 0, 1) := by decide +kernel
theorem dX6_text_67 : decode cX6_text 67 = .ok (.putfield 105, 3) := by decide +kernel
theorem dX6_text_70 : decode cX6_text 70 = .ok (.aload_n 0, 1) := by decide +kernel
theorem dX6_text_71 : decode cX6_text 71 = .ok (.iconst 1, 1) := by decide +kernel
theorem dX6_text_72 : decode cX6_text 72 = .ok (.putfield 70, 3) := by decide +kernel
theorem dX6_text_75 : decode cX6_text 75 = .ok (.iload_n 1, 1) := by decide +kernel
theorem dX6_text_76 : decode cX6_text 76 = .ok (.ireturn, 1) := by decide +kernel
theorem dX6_fault_0 : decode cX6_fault 0 = .ok (.aload_n 0, 1) := by decide +kernel
theorem dX6_fault_1 : decode cX6_fault 1 = .ok (.getfield 38, 3) := by decide +kernel
theorem dX6_fault_4 : decode cX6_fault 4 = .ok (.invokevirtual 92, 3) := by decide +kernel
theorem dX6_fault_7 : decode cX6_fault 7 = .ok (.ireturn, 1) := by decide +kernel
theorem dX6_rule_0 : decode cX6_rule 0 = .ok (.iload_n 1, 1) := by decide +kernel
theorem dX6_rule_1 : decode cX6_rule 1 = .ok (.bipush 8, 2) := by decide +kernel
theorem dX6_rule_3 : decode cX6_rule 3 = .ok (.if_icmp .lt 22, 3) := by decide +kernel
theorem dX6_rule_6 : decode cX6_rule 6 = .ok (.iload_n 1, 1) := by decide +kernel
theorem dX6_rule_7 : decode cX6_rule 7 = .ok (.bipush 14, 2) := by decide +kernel
theorem dX6_rule_9 : decode cX6_rule 9 = .ok (.if_icmp .ge 16, 3) := by decide +kernel
theorem dX6_rule_12 : decode cX6_rule 12 = .ok (.aload_n 0, 1) := by decide +kernel
theorem dX6_rule_13 : decode cX6_rule 13 = .ok (.getfield 23, 3) := by decide +kernel
theorem dX6_rule_16 : decode cX6_rule 16 = .ok (.getfield 108, 3) := by decide +kernel
theorem dX6_rule_19 : decode cX6_rule 19 = .ok (.iload_n 1, 1) := by decide +kernel
theorem dX6_rule_20 : decode cX6_rule 20 = .ok (.bipush 8, 2) := by decide +kernel
theorem dX6_rule_22 : decode cX6_rule 22 = .ok (.isub, 1) := by decide +kernel
theorem dX6_rule_23 : decode cX6_rule 23 = .ok (.iaload, 1) := by decide +kernel
theorem dX6_rule_24 : decode cX6_rule 24 = .ok (.ireturn, 1) := by decide +kernel
theorem dX6_rule_25 : decode cX6_rule 25 = .ok (.iload_n 1, 1) := by decide +kernel
theorem dX6_rule_26 : decode cX6_rule 26 = .ok (.tableswitch 181 0 15 #[78, 86, 94, 102, 110, 118, 126, 138, 181, 181, 181, 181, 181, 181, 150, 155], 78) := by decide +kernel
theorem dX6_rule_104 : decode cX6_rule 104 = .ok (.aload_n 0, 1) := by decide +kernel
theorem dX6_rule_105 : decode cX6_rule 105 = .ok (.getfield 16, 3) := by decide +kernel
theorem dX6_rule_108 : decode cX6_rule 108 = .ok (.getfield 112, 3) := by decide +kernel
theorem dX6_rule_111 : decode cX6_rule 111 = .ok (.ireturn, 1) := by decide +kernel
theorem dX6_rule_112 : decode cX6_rule 112 = .ok (.aload_n 0, 1) := by decide +kernel
theorem dX6_rule_113 : decode cX6_rule 113 = .ok (.getfield 23, 3) := by decide +kernel
theorem dX6_rule_116 : decode cX6_rule 116 = .ok (.getfield 115, 3) := by decide +kernel
theorem dX6_rule_119 : decode cX6_rule 119 = .ok (.ireturn, 1) := by decide +kernel
theorem dX6_rule_120 : decode cX6_rule 120 = .ok (.aload_n 0, 1) := by decide +kernel
theorem dX6_rule_121 : decode cX6_rule 121 = .ok (.getfield 23, 3) := by decide +kernel
theorem dX6_rule_124 : decode cX6_rule 124 = .ok (.getfield 116, 3) := by decide +kernel
theorem dX6_rule_127 : decode cX6_rule 127 = .ok (.ireturn, 1) := by decide +kernel
theorem dX6_rule_128 : decode cX6_rule 128 = .ok (.aload_n 0, 1) := by decide +kernel
theorem dX6_rule_129 : decode cX6_rule 129 = .ok (.getfield 23, 3) := by decide +kernel
theorem dX6_rule_132 : decode cX6_rule 132 = .ok (.invokevirtual 119, 3) := by decide +kernel
theorem dX6_rule_135 : decode cX6_rule 135 = .ok (.ireturn, 1) := by decide +kernel
theorem dX6_rule_136 : decode cX6_rule 136 = .ok (.aload_n 0, 1) := by decide +kernel
theorem dX6_rule_137 : decode cX6_rule 137 = .ok (.invokevirtual 122, 3) := by decide +kernel
theorem dX6_rule_140 : decode cX6_rule 140 = .ok (.getfield 126, 3) := by decide +kernel
theorem dX6_rule_143 : decode cX6_rule 143 = .ok (.ireturn, 1) := by decide +kernel
theorem dX6_rule_144 : decode cX6_rule 144 = .ok (.aload_n 0, 1) := by decide +kernel
theorem dX6_rule_145 : decode cX6_rule 145 = .ok (.invokevirtual 122, 3) := by decide +kernel
theorem dX6_rule_148 : decode cX6_rule 148 = .ok (.invokevirtual 129, 3) := by decide +kernel
theorem dX6_rule_151 : decode cX6_rule 151 = .ok (.ireturn, 1) := by decide +kernel
theorem dX6_rule_152 : decode cX6_rule 152 = .ok (.aload_n 0, 1) := by decide +kernel
theorem dX6_rule_153 : decode cX6_rule 153 = .ok (.invokevirtual 122, 3) := by decide +kernel
theorem dX6_rule_156 : decode cX6_rule 156 = .ok (.iconst 0, 1) := by decide +kernel
theorem dX6_rule_157 : decode cX6_rule 157 = .ok (.sipush 152, 3) := by decide +kernel
theorem dX6_rule_160 : decode cX6_rule 160 = .ok (.invokevirtual 132, 3) := by decide +kernel
theorem dX6_rule_163 : decode cX6_rule 163 = .ok (.ireturn, 1) := by decide +kernel
theorem dX6_rule_164 : decode cX6_rule 164 = .ok (.aload_n 0, 1) := by decide +kernel
theorem dX6_rule_165 : decode cX6_rule 165 = .ok (.invokevirtual 122, 3) := by decide +kernel
theorem dX6_rule_168 : decode cX6_rule 168 = .ok (.iconst 0, 1) := by decide +kernel
theorem dX6_rule_169 : decode cX6_rule 169 = .ok (.sipush 152, 3) := by decide +kernel
theorem dX6_rule_172 : decode cX6_rule 172 = .ok (.invokevirtual 136, 3) := by decide +kernel
theorem dX6_rule_175 : decode cX6_rule 175 = .ok (.ireturn, 1) := by decide +kernel
theorem dX6_rule_176 : decode cX6_rule 176 = .ok (.aload_n 0, 1) := by decide +kernel
theorem dX6_rule_177 : decode cX6_rule 177 = .ok (.getfield 80, 3) := by decide +kernel
theorem dX6_rule_180 : decode cX6_rule 180 = .ok (.ireturn, 1) := by decide +kernel
theorem dX6_rule_181 : decode cX6_rule 181 = .ok (.aload_n 0, 1) := by decide +kernel
theorem dX6_rule_182 : decode cX6_rule 182 = .ok (.getfield 102, 3) := by decide +kernel
theorem dX6_rule_185 : decode cX6_rule 185 = .ok (.ifCond .eq 7, 3) := by decide +kernel
theorem dX6_rule_188 : decode cX6_rule 188 = .ok (.iconst 1, 1) := by decide +kernel
theorem dX6_rule_189 : decode cX6_rule 189 = .ok (.goto 4, 3) := by decide +kernel
theorem dX6_rule_192 : decode cX6_rule 192 = .ok (.iconst 0, 1) := by decide +kernel
theorem dX6_rule_193 : decode cX6_rule 193 = .ok (.aload_n 0, 1) := by decide +kernel
theorem dX6_rule_194 : decode cX6_rule 194 = .ok (.getfield 105, 3) := by decide +kernel
theorem dX6_rule_197 : decode cX6_rule 197 = .ok (.ifCond .eq 7, 3) := by decide +kernel
theorem dX6_rule_200 : decode cX6_rule 200 = .ok (.iconst 1, 1) := by decide +kernel
theorem dX6_rule_201 : decode cX6_rule 201 = .ok (.goto 4, 3) := by decide +kernel
theorem dX6_rule_204 : decode cX6_rule 204 = .ok (.iconst 0, 1) := by decide +kernel
theorem dX6_rule_205 : decode cX6_rule 205 = .ok (.iadd, 1) := by decide +kernel
theorem dX6_rule_206 : decode cX6_rule 206 = .ok (.ireturn, 1) := by decide +kernel
theorem dX6_rule_207 : decode cX6_rule 207 = .ok (.iconst (-1), 1) := by decide +kernel
theorem dX6_rule_208 : decode cX6_rule 208 = .ok (.ireturn, 1) := by decide +kernel
theorem dX6_shape_0 : decode cX6_shape 0 = .ok (.aload_n 0, 1) := by decide +kernel
theorem dX6_shape_1 : decode cX6_shape 1 = .ok (.iload_n 1, 1) := by decide +kernel
theorem dX6_shape_2 : decode cX6_shape 2 = .ok (.invokevirtual 139, 3) := by decide +kernel
theorem dX6_shape_5 : decode cX6_shape 5 = .ok (.ifCond .ne 5, 3) := by decide +kernel
theorem dX6_shape_8 : decode cX6_shape 8 = .ok (.iconst (-1), 1) := by decide +kernel
theorem dX6_shape_9 : decode cX6_shape 9 = .ok (.ireturn, 1) := by decide +kernel
theorem dX6_shape_10 : decode cX6_shape 10 = .ok (.iload_n 2, 1) := by decide +kernel
theorem dX6_shape_11 : decode cX6_shape 11 = .ok (.tableswitch 68 0 3 #[29, 39, 49, 59], 29) := by decide +kernel
theorem dX6_shape_40 : decode cX6_shape 40 = .ok (.aload_n 0, 1) := by decide +kernel
theorem dX6_shape_41 : decode cX6_shape 41 = .ok (.getfield 16, 3) := by decide +kernel
theorem dX6_shape_44 : decode cX6_shape 44 = .ok (.getfield 143, 3) := by decide +kernel
theorem dX6_shape_47 : decode cX6_shape 47 = .ok (.iload_n 1, 1) := by decide +kernel
theorem dX6_shape_48 : decode cX6_shape 48 = .ok (.iaload, 1) := by decide +kernel
theorem dX6_shape_49 : decode cX6_shape 49 = .ok (.ireturn, 1) := by decide +kernel
theorem dX6_shape_50 : decode cX6_shape 50 = .ok (.aload_n 0, 1) := by decide +kernel
theorem dX6_shape_51 : decode cX6_shape 51 = .ok (.getfield 16, 3) := by decide +kernel
theorem dX6_shape_54 : decode cX6_shape 54 = .ok (.getfield 146, 3) := by decide +kernel
theorem dX6_shape_57 : decode cX6_shape 57 = .ok (.iload_n 1, 1) := by decide +kernel
theorem dX6_shape_58 : decode cX6_shape 58 = .ok (.iaload, 1) := by decide +kernel
theorem dX6_shape_59 : decode cX6_shape 59 = .ok (.ireturn, 1) := by decide +kernel
theorem dX6_shape_60 : decode cX6_shape 60 = .ok (.aload_n 0, 1) := by decide +kernel
theorem dX6_shape_61 : decode cX6_shape 61 = .ok (.getfield 16, 3) := by decide +kernel
theorem dX6_shape_64 : decode cX6_shape 64 = .ok (.getfield 149, 3) := by decide +kernel
theorem dX6_shape_67 : decode cX6_shape 67 = .ok (.iload_n 1, 1) := by decide +kernel
theorem dX6_shape_68 : decode cX6_shape 68 = .ok (.iaload, 1) := by decide +kernel
theorem dX6_shape_69 : decode cX6_shape 69 = .ok (.ireturn, 1) := by decide +kernel
theorem dX6_shape_70 : decode cX6_shape 70 = .ok (.aload_n 0, 1) := by decide +kernel
theorem dX6_shape_71 : decode cX6_shape 71 = .ok (.getfield 16, 3) := by decide +kernel
theorem dX6_shape_74 : decode cX6_shape 74 = .ok (.iload_n 1, 1) := by decide +kernel
theorem dX6_shape_75 : decode cX6_shape 75 = .ok (.invokevirtual 152, 3) := by decide +kernel
theorem dX6_shape_78 : decode cX6_shape 78 = .ok (.ireturn, 1) := by decide +kernel
theorem dX6_shape_79 : decode cX6_shape 79 = .ok (.iconst (-1), 1) := by decide +kernel
theorem dX6_shape_80 : decode cX6_shape 80 = .ok (.ireturn, 1) := by decide +kernel
theorem dX6_step_0 : decode cX6_step 0 = .ok (.aload_n 0, 1) := by decide +kernel
theorem dX6_step_1 : decode cX6_step 1 = .ok (.iload_n 1, 1) := by decide +kernel
theorem dX6_step_2 : decode cX6_step 2 = .ok (.invokevirtual 139, 3) := by decide +kernel
theorem dX6_step_5 : decode cX6_step 5 = .ok (.ifCond .eq 16, 3) := by decide +kernel
theorem dX6_step_8 : decode cX6_step 8 = .ok (.iload_n 2, 1) := by decide +kernel
theorem dX6_step_9 : decode cX6_step 9 = .ok (.ifCond .lt 12, 3) := by decide +kernel
theorem dX6_step_12 : decode cX6_step 12 = .ok (.iload_n 3, 1) := by decide +kernel
theorem dX6_step_13 : decode cX6_step 13 = .ok (.ifCond .lt 8, 3) := by decide +kernel
theorem dX6_step_16 : decode cX6_step 16 = .ok (.iload_n 3, 1) := by decide +kernel
theorem dX6_step_17 : decode cX6_step 17 = .ok (.iconst 1, 1) := by decide +kernel
theorem dX6_step_18 : decode cX6_step 18 = .ok (.if_icmp .le 5, 3) := by decide +kernel
theorem dX6_step_21 : decode cX6_step 21 = .ok (.iconst (-1), 1) := by decide +kernel
theorem dX6_step_22 : decode cX6_step 22 = .ok (.ireturn, 1) := by decide +kernel
theorem dX6_step_23 : decode cX6_step 23 = .ok (.iload_n 2, 1) := by decide +kernel
theorem dX6_step_24 : decode cX6_step 24 = .ok (.aload_n 0, 1) := by decide +kernel
theorem dX6_step_25 : decode cX6_step 25 = .ok (.getfield 16, 3) := by decide +kernel
theorem dX6_step_28 : decode cX6_step 28 = .ok (.getfield 149, 3) := by decide +kernel
theorem dX6_step_31 : decode cX6_step 31 = .ok (.iload_n 1, 1) := by decide +kernel
theorem dX6_step_32 : decode cX6_step 32 = .ok (.iaload, 1) := by decide +kernel
theorem dX6_step_33 : decode cX6_step 33 = .ok (.if_icmp .lt 6, 3) := by decide +kernel
theorem dX6_step_36 : decode cX6_step 36 = .ok (.bipush (-4), 2) := by decide +kernel
theorem dX6_step_38 : decode cX6_step 38 = .ok (.ireturn, 1) := by decide +kernel
theorem dX6_step_39 : decode cX6_step 39 = .ok (.iload_n 3, 1) := by decide +kernel
theorem dX6_step_40 : decode cX6_step 40 = .ok (.ifCond .ne 15, 3) := by decide +kernel
theorem dX6_step_43 : decode cX6_step 43 = .ok (.aload_n 0, 1) := by decide +kernel
theorem dX6_step_44 : decode cX6_step 44 = .ok (.getfield 16, 3) := by decide +kernel
theorem dX6_step_47 : decode cX6_step 47 = .ok (.iload_n 1, 1) := by decide +kernel
theorem dX6_step_48 : decode cX6_step 48 = .ok (.iload_n 2, 1) := by decide +kernel
theorem dX6_step_49 : decode cX6_step 49 = .ok (.invokevirtual 155, 3) := by decide +kernel
theorem dX6_step_52 : decode cX6_step 52 = .ok (.goto 12, 3) := by decide +kernel
theorem dX6_step_55 : decode cX6_step 55 = .ok (.aload_n 0, 1) := by decide +kernel
theorem dX6_step_56 : decode cX6_step 56 = .ok (.getfield 16, 3) := by decide +kernel
theorem dX6_step_59 : decode cX6_step 59 = .ok (.iload_n 1, 1) := by decide +kernel
theorem dX6_step_60 : decode cX6_step 60 = .ok (.iload_n 2, 1) := by decide +kernel
theorem dX6_step_61 : decode cX6_step 61 = .ok (.invokevirtual 158, 3) := by decide +kernel
theorem dX6_step_64 : decode cX6_step 64 = .ok (.ireturn, 1) := by decide +kernel
theorem dX6_par_0 : decode cX6_par 0 = .ok (.aload_n 0, 1) := by decide +kernel
theorem dX6_par_1 : decode cX6_par 1 = .ok (.iload_n 1, 1) := by decide +kernel
theorem dX6_par_2 : decode cX6_par 2 = .ok (.invokevirtual 161, 3) := by decide +kernel
theorem dX6_par_5 : decode cX6_par 5 = .ok (.ifCond .ne 5, 3) := by decide +kernel
theorem dX6_par_8 : decode cX6_par 8 = .ok (.iconst (-1), 1) := by decide +kernel
theorem dX6_par_9 : decode cX6_par 9 = .ok (.ireturn, 1) := by decide +kernel
theorem dX6_par_10 : decode cX6_par 10 = .ok (.iload_n 2, 1) := by decide +kernel
theorem dX6_par_11 : decode cX6_par 11 = .ok (.tableswitch 65 0 3 #[29, 39, 49, 59], 29) := by decide +kernel
theorem dX6_par_40 : decode cX6_par 40 = .ok (.aload_n 0, 1) := by decide +kernel
theorem dX6_par_41 : decode cX6_par 41 = .ok (.getfield 23, 3) := by decide +kernel
theorem dX6_par_44 : decode cX6_par 44 = .ok (.getfield 164, 3) := by decide +kernel
theorem dX6_par_47 : decode cX6_par 47 = .ok (.iload_n 1, 1) := by decide +kernel
theorem dX6_par_48 : decode cX6_par 48 = .ok (.iaload, 1) := by decide +kernel
theorem dX6_par_49 : decode cX6_par 49 = .ok (.ireturn, 1) := by decide +kernel
theorem dX6_par_50 : decode cX6_par 50 = .ok (.aload_n 0, 1) := by decide +kernel
theorem dX6_par_51 : decode cX6_par 51 = .ok (.getfield 23, 3) := by decide +kernel
theorem dX6_par_54 : decode cX6_par 54 = .ok (.getfield 167, 3) := by decide +kernel
theorem dX6_par_57 : decode cX6_par 57 = .ok (.iload_n 1, 1) := by decide +kernel
theorem dX6_par_58 : decode cX6_par 58 = .ok (.iaload, 1) := by decide +kernel
theorem dX6_par_59 : decode cX6_par 59 = .ok (.ireturn, 1) := by decide +kernel
theorem dX6_par_60 : decode cX6_par 60 = .ok (.aload_n 0, 1) := by decide +kernel
theorem dX6_par_61 : decode cX6_par 61 = .ok (.getfield 23, 3) := by decide +kernel
theorem dX6_par_64 : decode cX6_par 64 = .ok (.getfield 170, 3) := by decide +kernel
theorem dX6_par_67 : decode cX6_par 67 = .ok (.iload_n 1, 1) := by decide +kernel
theorem dX6_par_68 : decode cX6_par 68 = .ok (.iaload, 1) := by decide +kernel
theorem dX6_par_69 : decode cX6_par 69 = .ok (.ireturn, 1) := by decide +kernel
theorem dX6_par_70 : decode cX6_par 70 = .ok (.aload_n 0, 1) := by decide +kernel
theorem dX6_par_71 : decode cX6_par 71 = .ok (.iload_n 1, 1) := by decide +kernel
theorem dX6_par_72 : decode cX6_par 72 = .ok (.invokevirtual 173, 3) := by decide +kernel
theorem dX6_par_75 : decode cX6_par 75 = .ok (.ireturn, 1) := by decide +kernel
theorem dX6_par_76 : decode cX6_par 76 = .ok (.aload_n 0, 1) := by decide +kernel
theorem dX6_par_77 : decode cX6_par 77 = .ok (.iload_n 1, 1) := by decide +kernel
theorem dX6_par_78 : decode cX6_par 78 = .ok (.iload_n 2, 1) := by decide +kernel
theorem dX6_par_79 : decode cX6_par 79 = .ok (.invokevirtual 176, 3) := by decide +kernel
theorem dX6_par_82 : decode cX6_par 82 = .ok (.ireturn, 1) := by decide +kernel
theorem dX6_word_0 : decode cX6_word 0 = .ok (.aload_n 0, 1) := by decide +kernel
theorem dX6_word_1 : decode cX6_word 1 = .ok (.iload_n 1, 1) := by decide +kernel
theorem dX6_word_2 : decode cX6_word 2 = .ok (.invokevirtual 161, 3) := by decide +kernel
theorem dX6_word_5 : decode cX6_word 5 = .ok (.ifCond .eq 16, 3) := by decide +kernel
theorem dX6_word_8 : decode cX6_word 8 = .ok (.iload_n 2, 1) := by decide +kernel
theorem dX6_word_9 : decode cX6_word 9 = .ok (.ifCond .lt 12, 3) := by decide +kernel
theorem dX6_word_12 : decode cX6_word 12 = .ok (.iload_n 3, 1) := by decide +kernel
theorem dX6_word_13 : decode cX6_word 13 = .ok (.ifCond .lt 8, 3) := by decide +kernel
theorem dX6_word_16 : decode cX6_word 16 = .ok (.iload_n 3, 1) := by decide +kernel
theorem dX6_word_17 : decode cX6_word 17 = .ok (.iconst 4, 1) := by decide +kernel
theorem dX6_word_18 : decode cX6_word 18 = .ok (.if_icmp .le 5, 3) := by decide +kernel
theorem dX6_word_21 : decode cX6_word 21 = .ok (.iconst (-1), 1) := by decide +kernel
theorem dX6_word_22 : decode cX6_word 22 = .ok (.ireturn, 1) := by decide +kernel
theorem dX6_word_23 : decode cX6_word 23 = .ok (.iload_n 2, 1) := by decide +kernel
theorem dX6_word_24 : decode cX6_word 24 = .ok (.aload_n 0, 1) := by decide +kernel
theorem dX6_word_25 : decode cX6_word 25 = .ok (.getfield 23, 3) := by decide +kernel
theorem dX6_word_28 : decode cX6_word 28 = .ok (.getfield 164, 3) := by decide +kernel
theorem dX6_word_31 : decode cX6_word 31 = .ok (.iload_n 1, 1) := by decide +kernel
theorem dX6_word_32 : decode cX6_word 32 = .ok (.iaload, 1) := by decide +kernel
theorem dX6_word_33 : decode cX6_word 33 = .ok (.if_icmp .lt 6, 3) := by decide +kernel
theorem dX6_word_36 : decode cX6_word 36 = .ok (.bipush (-4), 2) := by decide +kernel
theorem dX6_word_38 : decode cX6_word 38 = .ok (.ireturn, 1) := by decide +kernel
theorem dX6_word_39 : decode cX6_word 39 = .ok (.aload_n 0, 1) := by decide +kernel
theorem dX6_word_40 : decode cX6_word 40 = .ok (.getfield 23, 3) := by decide +kernel
theorem dX6_word_43 : decode cX6_word 43 = .ok (.iload_n 1, 1) := by decide +kernel
theorem dX6_word_44 : decode cX6_word 44 = .ok (.iload_n 2, 1) := by decide +kernel
theorem dX6_word_45 : decode cX6_word 45 = .ok (.invokevirtual 179, 3) := by decide +kernel
theorem dX6_word_48 : decode cX6_word 48 = .ok (.istore 4, 2) := by decide +kernel
theorem dX6_word_50 : decode cX6_word 50 = .ok (.iload_n 3, 1) := by decide +kernel
theorem dX6_word_51 : decode cX6_word 51 = .ok (.tableswitch 61 0 3 #[29, 35, 41, 51], 29) := by decide +kernel
theorem dX6_word_80 : decode cX6_word 80 = .ok (.iload 4, 2) := by decide +kernel
theorem dX6_word_82 : decode cX6_word 82 = .ok (.invokestatic 182, 3) := by decide +kernel
theorem dX6_word_85 : decode cX6_word 85 = .ok (.ireturn, 1) := by decide +kernel
theorem dX6_word_86 : decode cX6_word 86 = .ok (.iload 4, 2) := by decide +kernel
theorem dX6_word_88 : decode cX6_word 88 = .ok (.invokestatic 185, 3) := by decide +kernel
theorem dX6_word_91 : decode cX6_word 91 = .ok (.ireturn, 1) := by decide +kernel
theorem dX6_word_92 : decode cX6_word 92 = .ok (.aload_n 0, 1) := by decide +kernel
theorem dX6_word_93 : decode cX6_word 93 = .ok (.getfield 23, 3) := by decide +kernel
theorem dX6_word_96 : decode cX6_word 96 = .ok (.iload 4, 2) := by decide +kernel
theorem dX6_word_98 : decode cX6_word 98 = .ok (.invokevirtual 188, 3) := by decide +kernel
theorem dX6_word_101 : decode cX6_word 101 = .ok (.ireturn, 1) := by decide +kernel
theorem dX6_word_102 : decode cX6_word 102 = .ok (.aload_n 0, 1) := by decide +kernel
theorem dX6_word_103 : decode cX6_word 103 = .ok (.invokevirtual 122, 3) := by decide +kernel
theorem dX6_word_106 : decode cX6_word 106 = .ok (.iload_n 1, 1) := by decide +kernel
theorem dX6_word_107 : decode cX6_word 107 = .ok (.iload_n 2, 1) := by decide +kernel
theorem dX6_word_108 : decode cX6_word 108 = .ok (.invokevirtual 191, 3) := by decide +kernel
theorem dX6_word_111 : decode cX6_word 111 = .ok (.ireturn, 1) := by decide +kernel
theorem dX6_word_112 : decode cX6_word 112 = .ok (.aload_n 0, 1) := by decide +kernel
theorem dX6_word_113 : decode cX6_word 113 = .ok (.invokevirtual 122, 3) := by decide +kernel
theorem dX6_word_116 : decode cX6_word 116 = .ok (.iload_n 1, 1) := by decide +kernel
theorem dX6_word_117 : decode cX6_word 117 = .ok (.iload_n 2, 1) := by decide +kernel
theorem dX6_word_118 : decode cX6_word 118 = .ok (.invokevirtual 194, 3) := by decide +kernel
theorem dX6_word_121 : decode cX6_word 121 = .ok (.ireturn, 1) := by decide +kernel
theorem dX6_letter_0 : decode cX6_letter 0 = .ok (.aload_n 0, 1) := by decide +kernel
theorem dX6_letter_1 : decode cX6_letter 1 = .ok (.iload_n 1, 1) := by decide +kernel
theorem dX6_letter_2 : decode cX6_letter 2 = .ok (.invokevirtual 161, 3) := by decide +kernel
theorem dX6_letter_5 : decode cX6_letter 5 = .ok (.ifCond .eq 11, 3) := by decide +kernel
theorem dX6_letter_8 : decode cX6_letter 8 = .ok (.iload_n 2, 1) := by decide +kernel
theorem dX6_letter_9 : decode cX6_letter 9 = .ok (.ifCond .lt 7, 3) := by decide +kernel
theorem dX6_letter_12 : decode cX6_letter 12 = .ok (.iload_n 3, 1) := by decide +kernel
theorem dX6_letter_13 : decode cX6_letter 13 = .ok (.ifCond .ge 5, 3) := by decide +kernel
theorem dX6_letter_16 : decode cX6_letter 16 = .ok (.iconst (-1), 1) := by decide +kernel
theorem dX6_letter_17 : decode cX6_letter 17 = .ok (.ireturn, 1) := by decide +kernel
theorem dX6_letter_18 : decode cX6_letter 18 = .ok (.iload_n 2, 1) := by decide +kernel
theorem dX6_letter_19 : decode cX6_letter 19 = .ok (.aload_n 0, 1) := by decide +kernel
theorem dX6_letter_20 : decode cX6_letter 20 = .ok (.getfield 23, 3) := by decide +kernel
theorem dX6_letter_23 : decode cX6_letter 23 = .ok (.getfield 164, 3) := by decide +kernel
theorem dX6_letter_26 : decode cX6_letter 26 = .ok (.iload_n 1, 1) := by decide +kernel
theorem dX6_letter_27 : decode cX6_letter 27 = .ok (.iaload, 1) := by decide +kernel
theorem dX6_letter_28 : decode cX6_letter 28 = .ok (.if_icmp .lt 6, 3) := by decide +kernel
theorem dX6_letter_31 : decode cX6_letter 31 = .ok (.bipush (-4), 2) := by decide +kernel
theorem dX6_letter_33 : decode cX6_letter 33 = .ok (.ireturn, 1) := by decide +kernel
theorem dX6_letter_34 : decode cX6_letter 34 = .ok (.aload_n 0, 1) := by decide +kernel
theorem dX6_letter_35 : decode cX6_letter 35 = .ok (.getfield 23, 3) := by decide +kernel
theorem dX6_letter_38 : decode cX6_letter 38 = .ok (.iload_n 1, 1) := by decide +kernel
theorem dX6_letter_39 : decode cX6_letter 39 = .ok (.iload_n 2, 1) := by decide +kernel
theorem dX6_letter_40 : decode cX6_letter 40 = .ok (.invokevirtual 179, 3) := by decide +kernel
theorem dX6_letter_43 : decode cX6_letter 43 = .ok (.istore 4, 2) := by decide +kernel
theorem dX6_letter_45 : decode cX6_letter 45 = .ok (.iload_n 3, 1) := by decide +kernel
theorem dX6_letter_46 : decode cX6_letter 46 = .ok (.iload 4, 2) := by decide +kernel
theorem dX6_letter_48 : decode cX6_letter 48 = .ok (.invokestatic 182, 3) := by decide +kernel
theorem dX6_letter_51 : decode cX6_letter 51 = .ok (.if_icmp .lt 8, 3) := by decide +kernel
theorem dX6_letter_54 : decode cX6_letter 54 = .ok (.bipush (-4), 2) := by decide +kernel
theorem dX6_letter_56 : decode cX6_letter 56 = .ok (.goto 9, 3) := by decide +kernel
theorem dX6_letter_59 : decode cX6_letter 59 = .ok (.iload 4, 2) := by decide +kernel
theorem dX6_letter_61 : decode cX6_letter 61 = .ok (.iload_n 3, 1) := by decide +kernel
theorem dX6_letter_62 : decode cX6_letter 62 = .ok (.invokestatic 197, 3) := by decide +kernel
theorem dX6_letter_65 : decode cX6_letter 65 = .ok (.ireturn, 1) := by decide +kernel
theorem dX6_drawn_0 : decode cX6_drawn 0 = .ok (.aload_n 0, 1) := by decide +kernel
theorem dX6_drawn_1 : decode cX6_drawn 1 = .ok (.iload_n 1, 1) := by decide +kernel
theorem dX6_drawn_2 : decode cX6_drawn 2 = .ok (.invokevirtual 161, 3) := by decide +kernel
theorem dX6_drawn_5 : decode cX6_drawn 5 = .ok (.ifCond .eq 16, 3) := by decide +kernel
theorem dX6_drawn_8 : decode cX6_drawn 8 = .ok (.iload_n 2, 1) := by decide +kernel
theorem dX6_drawn_9 : decode cX6_drawn 9 = .ok (.ifCond .lt 12, 3) := by decide +kernel
theorem dX6_drawn_12 : decode cX6_drawn 12 = .ok (.iload_n 3, 1) := by decide +kernel
theorem dX6_drawn_13 : decode cX6_drawn 13 = .ok (.ifCond .lt 8, 3) := by decide +kernel
theorem dX6_drawn_16 : decode cX6_drawn 16 = .ok (.iload_n 3, 1) := by decide +kernel
theorem dX6_drawn_17 : decode cX6_drawn 17 = .ok (.iconst 2, 1) := by decide +kernel
theorem dX6_drawn_18 : decode cX6_drawn 18 = .ok (.if_icmp .le 5, 3) := by decide +kernel
theorem dX6_drawn_21 : decode cX6_drawn 21 = .ok (.iconst (-1), 1) := by decide +kernel
theorem dX6_drawn_22 : decode cX6_drawn 22 = .ok (.ireturn, 1) := by decide +kernel
theorem dX6_drawn_23 : decode cX6_drawn 23 = .ok (.aload_n 0, 1) := by decide +kernel
theorem dX6_drawn_24 : decode cX6_drawn 24 = .ok (.getfield 47, 3) := by decide +kernel
theorem dX6_drawn_27 : decode cX6_drawn 27 = .ok (.iload_n 1, 1) := by decide +kernel
theorem dX6_drawn_28 : decode cX6_drawn 28 = .ok (.invokevirtual 200, 3) := by decide +kernel
theorem dX6_drawn_31 : decode cX6_drawn 31 = .ok (.iload_n 2, 1) := by decide +kernel
theorem dX6_drawn_32 : decode cX6_drawn 32 = .ok (.aload_n 0, 1) := by decide +kernel
theorem dX6_drawn_33 : decode cX6_drawn 33 = .ok (.getfield 47, 3) := by decide +kernel
theorem dX6_drawn_36 : decode cX6_drawn 36 = .ok (.getfield 204, 3) := by decide +kernel
theorem dX6_drawn_39 : decode cX6_drawn 39 = .ok (.if_icmp .lt 6, 3) := by decide +kernel
theorem dX6_drawn_42 : decode cX6_drawn 42 = .ok (.bipush (-4), 2) := by decide +kernel
theorem dX6_drawn_44 : decode cX6_drawn 44 = .ok (.ireturn, 1) := by decide +kernel
theorem dX6_drawn_45 : decode cX6_drawn 45 = .ok (.iload_n 3, 1) := by decide +kernel
theorem dX6_drawn_46 : decode cX6_drawn 46 = .ok (.lookupswitch 46 #[(0, 26), (1, 36)], 26) := by decide +kernel
theorem dX6_drawn_72 : decode cX6_drawn 72 = .ok (.aload_n 0, 1) := by decide +kernel
theorem dX6_drawn_73 : decode cX6_drawn 73 = .ok (.getfield 47, 3) := by decide +kernel
theorem dX6_drawn_76 : decode cX6_drawn 76 = .ok (.getfield 206, 3) := by decide +kernel
theorem dX6_drawn_79 : decode cX6_drawn 79 = .ok (.iload_n 2, 1) := by decide +kernel
theorem dX6_drawn_80 : decode cX6_drawn 80 = .ok (.iaload, 1) := by decide +kernel
theorem dX6_drawn_81 : decode cX6_drawn 81 = .ok (.ireturn, 1) := by decide +kernel
theorem dX6_drawn_82 : decode cX6_drawn 82 = .ok (.aload_n 0, 1) := by decide +kernel
theorem dX6_drawn_83 : decode cX6_drawn 83 = .ok (.getfield 47, 3) := by decide +kernel
theorem dX6_drawn_86 : decode cX6_drawn 86 = .ok (.getfield 209, 3) := by decide +kernel
theorem dX6_drawn_89 : decode cX6_drawn 89 = .ok (.iload_n 2, 1) := by decide +kernel
theorem dX6_drawn_90 : decode cX6_drawn 90 = .ok (.iaload, 1) := by decide +kernel
theorem dX6_drawn_91 : decode cX6_drawn 91 = .ok (.ireturn, 1) := by decide +kernel
theorem dX6_drawn_92 : decode cX6_drawn 92 = .ok (.aload_n 0, 1) := by decide +kernel
theorem dX6_drawn_93 : decode cX6_drawn 93 = .ok (.getfield 47, 3) := by decide +kernel
theorem dX6_drawn_96 : decode cX6_drawn 96 = .ok (.getfield 212, 3) := by decide +kernel
theorem dX6_drawn_99 : decode cX6_drawn 99 = .ok (.iload_n 2, 1) := by decide +kernel
theorem dX6_drawn_100 : decode cX6_drawn 100 = .ok (.iaload, 1) := by decide +kernel
theorem dX6_drawn_101 : decode cX6_drawn 101 = .ok (.ireturn, 1) := by decide +kernel
theorem dX6_reach_0 : decode cX6_reach 0 = .ok (.aload_n 0, 1) := by decide +kernel
theorem dX6_reach_1 : decode cX6_reach 1 = .ok (.iload_n 1, 1) := by decide +kernel
theorem dX6_reach_2 : decode cX6_reach 2 = .ok (.invokevirtual 161, 3) := by decide +kernel
theorem dX6_reach_5 : decode cX6_reach 5 = .ok (.ifCond .eq 7, 3) := by decide +kernel
theorem dX6_reach_8 : decode cX6_reach 8 = .ok (.iload_n 2, 1) := by decide +kernel
theorem dX6_reach_9 : decode cX6_reach 9 = .ok (.ifCond .ge 5, 3) := by decide +kernel
theorem dX6_reach_12 : decode cX6_reach 12 = .ok (.iconst (-1), 1) := by decide +kernel
theorem dX6_reach_13 : decode cX6_reach 13 = .ok (.ireturn, 1) := by decide +kernel
theorem dX6_reach_14 : decode cX6_reach 14 = .ok (.aload_n 0, 1) := by decide +kernel
theorem dX6_reach_15 : decode cX6_reach 15 = .ok (.getfield 23, 3) := by decide +kernel
theorem dX6_reach_18 : decode cX6_reach 18 = .ok (.iload_n 1, 1) := by decide +kernel
theorem dX6_reach_19 : decode cX6_reach 19 = .ok (.invokevirtual 215, 3) := by decide +kernel
theorem dX6_reach_22 : decode cX6_reach 22 = .ok (.ifCond .ne 6, 3) := by decide +kernel
theorem dX6_reach_25 : decode cX6_reach 25 = .ok (.bipush (-4), 2) := by decide +kernel
theorem dX6_reach_27 : decode cX6_reach 27 = .ok (.ireturn, 1) := by decide +kernel
theorem dX6_reach_28 : decode cX6_reach 28 = .ok (.aload_n 0, 1) := by decide +kernel
theorem dX6_reach_29 : decode cX6_reach 29 = .ok (.getfield 47, 3) := by decide +kernel
theorem dX6_reach_32 : decode cX6_reach 32 = .ok (.iload_n 1, 1) := by decide +kernel
theorem dX6_reach_33 : decode cX6_reach 33 = .ok (.invokevirtual 200, 3) := by decide +kernel
theorem dX6_reach_36 : decode cX6_reach 36 = .ok (.aload_n 0, 1) := by decide +kernel
theorem dX6_reach_37 : decode cX6_reach 37 = .ok (.getfield 47, 3) := by decide +kernel
theorem dX6_reach_40 : decode cX6_reach 40 = .ok (.iload_n 2, 1) := by decide +kernel
theorem dX6_reach_41 : decode cX6_reach 41 = .ok (.invokevirtual 218, 3) := by decide +kernel
theorem dX6_reach_44 : decode cX6_reach 44 = .ok (.ireturn, 1) := by decide +kernel
theorem dX6_line_0 : decode cX6_line 0 = .ok (.aload_n 0, 1) := by decide +kernel
theorem dX6_line_1 : decode cX6_line 1 = .ok (.invokevirtual 122, 3) := by decide +kernel
theorem dX6_line_4 : decode cX6_line 4 = .ok (.astore_n 3, 1) := by decide +kernel
theorem dX6_line_5 : decode cX6_line 5 = .ok (.iload_n 1, 1) := by decide +kernel
theorem dX6_line_6 : decode cX6_line 6 = .ok (.ifCond .lt 21, 3) := by decide +kernel
theorem dX6_line_9 : decode cX6_line 9 = .ok (.iload_n 1, 1) := by decide +kernel
theorem dX6_line_10 : decode cX6_line 10 = .ok (.aload_n 3, 1) := by decide +kernel
theorem dX6_line_11 : decode cX6_line 11 = .ok (.getfield 126, 3) := by decide +kernel
theorem dX6_line_14 : decode cX6_line 14 = .ok (.if_icmp .ge 13, 3) := by decide +kernel
theorem dX6_line_17 : decode cX6_line 17 = .ok (.iload_n 2, 1) := by decide +kernel
theorem dX6_line_18 : decode cX6_line 18 = .ok (.ifCond .lt 9, 3) := by decide +kernel
theorem dX6_line_21 : decode cX6_line 21 = .ok (.iload_n 2, 1) := by decide +kernel
theorem dX6_line_22 : decode cX6_line 22 = .ok (.bipush 7, 2) := by decide +kernel
theorem dX6_line_24 : decode cX6_line 24 = .ok (.if_icmp .le 5, 3) := by decide +kernel
theorem dX6_line_27 : decode cX6_line 27 = .ok (.iconst (-1), 1) := by decide +kernel
theorem dX6_line_28 : decode cX6_line 28 = .ok (.ireturn, 1) := by decide +kernel
theorem dX6_line_29 : decode cX6_line 29 = .ok (.aload_n 3, 1) := by decide +kernel
theorem dX6_line_30 : decode cX6_line 30 = .ok (.getfield 221, 3) := by decide +kernel
theorem dX6_line_33 : decode cX6_line 33 = .ok (.iload_n 1, 1) := by decide +kernel
theorem dX6_line_34 : decode cX6_line 34 = .ok (.iaload, 1) := by decide +kernel
theorem dX6_line_35 : decode cX6_line 35 = .ok (.ifCond .ge 6, 3) := by decide +kernel
theorem dX6_line_38 : decode cX6_line 38 = .ok (.bipush (-4), 2) := by decide +kernel
theorem dX6_line_40 : decode cX6_line 40 = .ok (.ireturn, 1) := by decide +kernel
theorem dX6_line_41 : decode cX6_line 41 = .ok (.iload_n 2, 1) := by decide +kernel
theorem dX6_line_42 : decode cX6_line 42 = .ok (.tableswitch 98 0 6 #[42, 49, 56, 63, 70, 77, 84], 42) := by decide +kernel
theorem dX6_line_84 : decode cX6_line 84 = .ok (.aload_n 3, 1) := by decide +kernel
theorem dX6_line_85 : decode cX6_line 85 = .ok (.getfield 221, 3) := by decide +kernel
theorem dX6_line_88 : decode cX6_line 88 = .ok (.iload_n 1, 1) := by decide +kernel
theorem dX6_line_89 : decode cX6_line 89 = .ok (.iaload, 1) := by decide +kernel
theorem dX6_line_90 : decode cX6_line 90 = .ok (.ireturn, 1) := by decide +kernel
theorem dX6_line_91 : decode cX6_line 91 = .ok (.aload_n 3, 1) := by decide +kernel
theorem dX6_line_92 : decode cX6_line 92 = .ok (.getfield 224, 3) := by decide +kernel
theorem dX6_line_95 : decode cX6_line 95 = .ok (.iload_n 1, 1) := by decide +kernel
theorem dX6_line_96 : decode cX6_line 96 = .ok (.iaload, 1) := by decide +kernel
theorem dX6_line_97 : decode cX6_line 97 = .ok (.ireturn, 1) := by decide +kernel
theorem dX6_line_98 : decode cX6_line 98 = .ok (.aload_n 3, 1) := by decide +kernel
theorem dX6_line_99 : decode cX6_line 99 = .ok (.getfield 227, 3) := by decide +kernel
theorem dX6_line_102 : decode cX6_line 102 = .ok (.iload_n 1, 1) := by decide +kernel
theorem dX6_line_103 : decode cX6_line 103 = .ok (.iaload, 1) := by decide +kernel
theorem dX6_line_104 : decode cX6_line 104 = .ok (.ireturn, 1) := by decide +kernel
theorem dX6_line_105 : decode cX6_line 105 = .ok (.aload_n 3, 1) := by decide +kernel
theorem dX6_line_106 : decode cX6_line 106 = .ok (.getfield 230, 3) := by decide +kernel
theorem dX6_line_109 : decode cX6_line 109 = .ok (.iload_n 1, 1) := by decide +kernel
theorem dX6_line_110 : decode cX6_line 110 = .ok (.iaload, 1) := by decide +kernel
theorem dX6_line_111 : decode cX6_line 111 = .ok (.ireturn, 1) := by decide +kernel
theorem dX6_line_112 : decode cX6_line 112 = .ok (.aload_n 3, 1) := by decide +kernel
theorem dX6_line_113 : decode cX6_line 113 = .ok (.getfield 233, 3) := by decide +kernel
theorem dX6_line_116 : decode cX6_line 116 = .ok (.iload_n 1, 1) := by decide +kernel
theorem dX6_line_117 : decode cX6_line 117 = .ok (.iaload, 1) := by decide +kernel
theorem dX6_line_118 : decode cX6_line 118 = .ok (.ireturn, 1) := by decide +kernel
theorem dX6_line_119 : decode cX6_line 119 = .ok (.aload_n 3, 1) := by decide +kernel
theorem dX6_line_120 : decode cX6_line 120 = .ok (.getfield 236, 3) := by decide +kernel
theorem dX6_line_123 : decode cX6_line 123 = .ok (.iload_n 1, 1) := by decide +kernel
theorem dX6_line_124 : decode cX6_line 124 = .ok (.iaload, 1) := by decide +kernel
theorem dX6_line_125 : decode cX6_line 125 = .ok (.ireturn, 1) := by decide +kernel
theorem dX6_line_126 : decode cX6_line 126 = .ok (.aload_n 3, 1) := by decide +kernel
theorem dX6_line_127 : decode cX6_line 127 = .ok (.iload_n 1, 1) := by decide +kernel
theorem dX6_line_128 : decode cX6_line 128 = .ok (.invokevirtual 239, 3) := by decide +kernel
theorem dX6_line_131 : decode cX6_line 131 = .ok (.ifCond .eq 7, 3) := by decide +kernel
theorem dX6_line_134 : decode cX6_line 134 = .ok (.iconst 1, 1) := by decide +kernel
theorem dX6_line_135 : decode cX6_line 135 = .ok (.goto 4, 3) := by decide +kernel
theorem dX6_line_138 : decode cX6_line 138 = .ok (.iconst 0, 1) := by decide +kernel
theorem dX6_line_139 : decode cX6_line 139 = .ok (.ireturn, 1) := by decide +kernel
theorem dX6_line_140 : decode cX6_line 140 = .ok (.aload_n 3, 1) := by decide +kernel
theorem dX6_line_141 : decode cX6_line 141 = .ok (.getfield 242, 3) := by decide +kernel
theorem dX6_line_144 : decode cX6_line 144 = .ok (.iload_n 1, 1) := by decide +kernel
theorem dX6_line_145 : decode cX6_line 145 = .ok (.baload, 1) := by decide +kernel
theorem dX6_line_146 : decode cX6_line 146 = .ok (.ifCond .eq 7, 3) := by decide +kernel
theorem dX6_line_149 : decode cX6_line 149 = .ok (.iconst 1, 1) := by decide +kernel
theorem dX6_line_150 : decode cX6_line 150 = .ok (.goto 4, 3) := by decide +kernel
theorem dX6_line_153 : decode cX6_line 153 = .ok (.iconst 0, 1) := by decide +kernel
theorem dX6_line_154 : decode cX6_line 154 = .ok (.ireturn, 1) := by decide +kernel
theorem dX6_sign_0 : decode cX6_sign 0 = .ok (.aload_n 0, 1) := by decide +kernel
theorem dX6_sign_1 : decode cX6_sign 1 = .ok (.invokevirtual 122, 3) := by decide +kernel
theorem dX6_sign_4 : decode cX6_sign 4 = .ok (.astore_n 3, 1) := by decide +kernel
theorem dX6_sign_5 : decode cX6_sign 5 = .ok (.iload_n 1, 1) := by decide +kernel
theorem dX6_sign_6 : decode cX6_sign 6 = .ok (.ifCond .lt 15, 3) := by decide +kernel
theorem dX6_sign_9 : decode cX6_sign 9 = .ok (.iload_n 1, 1) := by decide +kernel
theorem dX6_sign_10 : decode cX6_sign 10 = .ok (.aload_n 3, 1) := by decide +kernel
theorem dX6_sign_11 : decode cX6_sign 11 = .ok (.getfield 126, 3) := by decide +kernel
theorem dX6_sign_14 : decode cX6_sign 14 = .ok (.if_icmp .ge 7, 3) := by decide +kernel
theorem dX6_sign_17 : decode cX6_sign 17 = .ok (.iload_n 2, 1) := by decide +kernel
theorem dX6_sign_18 : decode cX6_sign 18 = .ok (.ifCond .ge 5, 3) := by decide +kernel
theorem dX6_sign_21 : decode cX6_sign 21 = .ok (.iconst (-1), 1) := by decide +kernel
theorem dX6_sign_22 : decode cX6_sign 22 = .ok (.ireturn, 1) := by decide +kernel
theorem dX6_sign_23 : decode cX6_sign 23 = .ok (.aload_n 3, 1) := by decide +kernel
theorem dX6_sign_24 : decode cX6_sign 24 = .ok (.getfield 221, 3) := by decide +kernel
theorem dX6_sign_27 : decode cX6_sign 27 = .ok (.iload_n 1, 1) := by decide +kernel
theorem dX6_sign_28 : decode cX6_sign 28 = .ok (.iaload, 1) := by decide +kernel
theorem dX6_sign_29 : decode cX6_sign 29 = .ok (.istore 4, 2) := by decide +kernel
theorem dX6_sign_31 : decode cX6_sign 31 = .ok (.iload 4, 2) := by decide +kernel
theorem dX6_sign_33 : decode cX6_sign 33 = .ok (.ifCond .ge 6, 3) := by decide +kernel
theorem dX6_sign_36 : decode cX6_sign 36 = .ok (.bipush (-4), 2) := by decide +kernel
theorem dX6_sign_38 : decode cX6_sign 38 = .ok (.ireturn, 1) := by decide +kernel
theorem dX6_sign_39 : decode cX6_sign 39 = .ok (.iload_n 2, 1) := by decide +kernel
theorem dX6_sign_40 : decode cX6_sign 40 = .ok (.istore 5, 2) := by decide +kernel
theorem dX6_sign_42 : decode cX6_sign 42 = .ok (.iconst 0, 1) := by decide +kernel
theorem dX6_sign_43 : decode cX6_sign 43 = .ok (.istore 6, 2) := by decide +kernel
theorem dX6_sign_45 : decode cX6_sign 45 = .ok (.iload 6, 2) := by decide +kernel
theorem dX6_sign_47 : decode cX6_sign 47 = .ok (.aload_n 3, 1) := by decide +kernel
theorem dX6_sign_48 : decode cX6_sign 48 = .ok (.getfield 227, 3) := by decide +kernel
theorem dX6_sign_51 : decode cX6_sign 51 = .ok (.iload_n 1, 1) := by decide +kernel
theorem dX6_sign_52 : decode cX6_sign 52 = .ok (.iaload, 1) := by decide +kernel
theorem dX6_sign_53 : decode cX6_sign 53 = .ok (.if_icmp .ge 102, 3) := by decide +kernel
theorem dX6_sign_56 : decode cX6_sign 56 = .ok (.aload_n 0, 1) := by decide +kernel
theorem dX6_sign_57 : decode cX6_sign 57 = .ok (.getfield 23, 3) := by decide +kernel
theorem dX6_sign_60 : decode cX6_sign 60 = .ok (.iload 4, 2) := by decide +kernel
theorem dX6_sign_62 : decode cX6_sign 62 = .ok (.aload_n 3, 1) := by decide +kernel
theorem dX6_sign_63 : decode cX6_sign 63 = .ok (.getfield 224, 3) := by decide +kernel
theorem dX6_sign_66 : decode cX6_sign 66 = .ok (.iload_n 1, 1) := by decide +kernel
theorem dX6_sign_67 : decode cX6_sign 67 = .ok (.iaload, 1) := by decide +kernel
theorem dX6_sign_68 : decode cX6_sign 68 = .ok (.iload 6, 2) := by decide +kernel
theorem dX6_sign_70 : decode cX6_sign 70 = .ok (.iadd, 1) := by decide +kernel
theorem dX6_sign_71 : decode cX6_sign 71 = .ok (.invokevirtual 179, 3) := by decide +kernel
theorem dX6_sign_74 : decode cX6_sign 74 = .ok (.istore 7, 2) := by decide +kernel
theorem dX6_sign_76 : decode cX6_sign 76 = .ok (.iload 7, 2) := by decide +kernel
theorem dX6_sign_78 : decode cX6_sign 78 = .ok (.invokestatic 182, 3) := by decide +kernel
theorem dX6_sign_81 : decode cX6_sign 81 = .ok (.istore 8, 2) := by decide +kernel
theorem dX6_sign_83 : decode cX6_sign 83 = .ok (.iload 5, 2) := by decide +kernel
theorem dX6_sign_85 : decode cX6_sign 85 = .ok (.iload 8, 2) := by decide +kernel
theorem dX6_sign_87 : decode cX6_sign 87 = .ok (.if_icmp .ge 11, 3) := by decide +kernel
theorem dX6_sign_90 : decode cX6_sign 90 = .ok (.iload 7, 2) := by decide +kernel
theorem dX6_sign_92 : decode cX6_sign 92 = .ok (.iload 5, 2) := by decide +kernel
theorem dX6_sign_94 : decode cX6_sign 94 = .ok (.invokestatic 197, 3) := by decide +kernel
theorem dX6_sign_97 : decode cX6_sign 97 = .ok (.ireturn, 1) := by decide +kernel
theorem dX6_sign_98 : decode cX6_sign 98 = .ok (.iload 6, 2) := by decide +kernel
theorem dX6_sign_100 : decode cX6_sign 100 = .ok (.aload_n 3, 1) := by decide +kernel
theorem dX6_sign_101 : decode cX6_sign 101 = .ok (.getfield 227, 3) := by decide +kernel
theorem dX6_sign_104 : decode cX6_sign 104 = .ok (.iload_n 1, 1) := by decide +kernel
theorem dX6_sign_105 : decode cX6_sign 105 = .ok (.iaload, 1) := by decide +kernel
theorem dX6_sign_106 : decode cX6_sign 106 = .ok (.iconst 1, 1) := by decide +kernel
theorem dX6_sign_107 : decode cX6_sign 107 = .ok (.isub, 1) := by decide +kernel
theorem dX6_sign_108 : decode cX6_sign 108 = .ok (.if_icmp .ne 7, 3) := by decide +kernel
theorem dX6_sign_111 : decode cX6_sign 111 = .ok (.iconst 1, 1) := by decide +kernel
theorem dX6_sign_112 : decode cX6_sign 112 = .ok (.goto 4, 3) := by decide +kernel
theorem dX6_sign_115 : decode cX6_sign 115 = .ok (.iconst 0, 1) := by decide +kernel
theorem dX6_sign_116 : decode cX6_sign 116 = .ok (.istore 9, 2) := by decide +kernel
theorem dX6_sign_118 : decode cX6_sign 118 = .ok (.iload 5, 2) := by decide +kernel
theorem dX6_sign_120 : decode cX6_sign 120 = .ok (.iload 8, 2) := by decide +kernel
theorem dX6_sign_122 : decode cX6_sign 122 = .ok (.if_icmp .ne 10, 3) := by decide +kernel
theorem dX6_sign_125 : decode cX6_sign 125 = .ok (.iload 9, 2) := by decide +kernel
theorem dX6_sign_127 : decode cX6_sign 127 = .ok (.ifCond .ne 5, 3) := by decide +kernel
theorem dX6_sign_130 : decode cX6_sign 130 = .ok (.iconst 0, 1) := by decide +kernel
theorem dX6_sign_131 : decode cX6_sign 131 = .ok (.ireturn, 1) := by decide +kernel
theorem dX6_sign_132 : decode cX6_sign 132 = .ok (.iload 5, 2) := by decide +kernel
theorem dX6_sign_134 : decode cX6_sign 134 = .ok (.iload 8, 2) := by decide +kernel
theorem dX6_sign_136 : decode cX6_sign 136 = .ok (.iconst 1, 1) := by decide +kernel
theorem dX6_sign_137 : decode cX6_sign 137 = .ok (.iadd, 1) := by decide +kernel
theorem dX6_sign_138 : decode cX6_sign 138 = .ok (.isub, 1) := by decide +kernel
theorem dX6_sign_139 : decode cX6_sign 139 = .ok (.istore 5, 2) := by decide +kernel
theorem dX6_sign_141 : decode cX6_sign 141 = .ok (.iload 5, 2) := by decide +kernel
theorem dX6_sign_143 : decode cX6_sign 143 = .ok (.ifCond .ge 6, 3) := by decide +kernel
theorem dX6_sign_146 : decode cX6_sign 146 = .ok (.bipush (-4), 2) := by decide +kernel
theorem dX6_sign_148 : decode cX6_sign 148 = .ok (.ireturn, 1) := by decide +kernel
theorem dX6_sign_149 : decode cX6_sign 149 = .ok (.iinc 6 1, 3) := by decide +kernel
theorem dX6_sign_152 : decode cX6_sign 152 = .ok (.goto (-107), 3) := by decide +kernel
theorem dX6_sign_155 : decode cX6_sign 155 = .ok (.bipush (-4), 2) := by decide +kernel
theorem dX6_sign_157 : decode cX6_sign 157 = .ok (.ireturn, 1) := by decide +kernel
theorem dX6_best_0 : decode cX6_best 0 = .ok (.aload_n 0, 1) := by decide +kernel
theorem dX6_best_1 : decode cX6_best 1 = .ok (.iload_n 1, 1) := by decide +kernel
theorem dX6_best_2 : decode cX6_best 2 = .ok (.invokevirtual 161, 3) := by decide +kernel
theorem dX6_best_5 : decode cX6_best 5 = .ok (.ifCond .ne 5, 3) := by decide +kernel
theorem dX6_best_8 : decode cX6_best 8 = .ok (.iconst (-1), 1) := by decide +kernel
theorem dX6_best_9 : decode cX6_best 9 = .ok (.ireturn, 1) := by decide +kernel
theorem dX6_best_10 : decode cX6_best 10 = .ok (.aload_n 0, 1) := by decide +kernel
theorem dX6_best_11 : decode cX6_best 11 = .ok (.getfield 23, 3) := by decide +kernel
theorem dX6_best_14 : decode cX6_best 14 = .ok (.iload_n 1, 1) := by decide +kernel
theorem dX6_best_15 : decode cX6_best 15 = .ok (.invokevirtual 215, 3) := by decide +kernel
theorem dX6_best_18 : decode cX6_best 18 = .ok (.ifCond .eq 11, 3) := by decide +kernel
theorem dX6_best_21 : decode cX6_best 21 = .ok (.aload_n 0, 1) := by decide +kernel
theorem dX6_best_22 : decode cX6_best 22 = .ok (.iload_n 1, 1) := by decide +kernel
theorem dX6_best_23 : decode cX6_best 23 = .ok (.invokevirtual 246, 3) := by decide +kernel
theorem dX6_best_26 : decode cX6_best 26 = .ok (.goto 5, 3) := by decide +kernel
theorem dX6_best_29 : decode cX6_best 29 = .ok (.bipush (-4), 2) := by decide +kernel
theorem dX6_best_31 : decode cX6_best 31 = .ok (.ireturn, 1) := by decide +kernel
theorem dX6_tried_0 : decode cX6_tried 0 = .ok (.aload_n 0, 1) := by decide +kernel
theorem dX6_tried_1 : decode cX6_tried 1 = .ok (.iload_n 1, 1) := by decide +kernel
theorem dX6_tried_2 : decode cX6_tried 2 = .ok (.invokevirtual 161, 3) := by decide +kernel
theorem dX6_tried_5 : decode cX6_tried 5 = .ok (.ifCond .eq 10, 3) := by decide +kernel
theorem dX6_tried_8 : decode cX6_tried 8 = .ok (.iload_n 2, 1) := by decide +kernel
theorem dX6_tried_9 : decode cX6_tried 9 = .ok (.invokestatic 249, 3) := by decide +kernel
theorem dX6_tried_12 : decode cX6_tried 12 = .ok (.ifCond .ne 5, 3) := by decide +kernel
theorem dX6_tried_15 : decode cX6_tried 15 = .ok (.iconst (-1), 1) := by decide +kernel
theorem dX6_tried_16 : decode cX6_tried 16 = .ok (.ireturn, 1) := by decide +kernel
theorem dX6_tried_17 : decode cX6_tried 17 = .ok (.aload_n 0, 1) := by decide +kernel
theorem dX6_tried_18 : decode cX6_tried 18 = .ok (.getfield 23, 3) := by decide +kernel
theorem dX6_tried_21 : decode cX6_tried 21 = .ok (.iload_n 1, 1) := by decide +kernel
theorem dX6_tried_22 : decode cX6_tried 22 = .ok (.invokevirtual 215, 3) := by decide +kernel
theorem dX6_tried_25 : decode cX6_tried 25 = .ok (.ifCond .ne 6, 3) := by decide +kernel
theorem dX6_tried_28 : decode cX6_tried 28 = .ok (.bipush (-4), 2) := by decide +kernel
theorem dX6_tried_30 : decode cX6_tried 30 = .ok (.ireturn, 1) := by decide +kernel
theorem dX6_tried_31 : decode cX6_tried 31 = .ok (.aload_n 0, 1) := by decide +kernel
theorem dX6_tried_32 : decode cX6_tried 32 = .ok (.iload_n 1, 1) := by decide +kernel
theorem dX6_tried_33 : decode cX6_tried 33 = .ok (.iload_n 2, 1) := by decide +kernel
theorem dX6_tried_34 : decode cX6_tried 34 = .ok (.invokevirtual 252, 3) := by decide +kernel
theorem dX6_tried_37 : decode cX6_tried 37 = .ok (.aload_n 0, 1) := by decide +kernel
theorem dX6_tried_38 : decode cX6_tried 38 = .ok (.getfield 67, 3) := by decide +kernel
theorem dX6_tried_41 : decode cX6_tried 41 = .ok (.getfield 126, 3) := by decide +kernel
theorem dX6_tried_44 : decode cX6_tried 44 = .ok (.ireturn, 1) := by decide +kernel
theorem dX6_set_0 : decode cX6_set 0 = .ok (.iload_n 1, 1) := by decide +kernel
theorem dX6_set_1 : decode cX6_set 1 = .ok (.bipush 8, 2) := by decide +kernel
theorem dX6_set_3 : decode cX6_set 3 = .ok (.if_icmp .lt 9, 3) := by decide +kernel
theorem dX6_set_6 : decode cX6_set 6 = .ok (.iload_n 1, 1) := by decide +kernel
theorem dX6_set_7 : decode cX6_set 7 = .ok (.bipush 14, 2) := by decide +kernel
theorem dX6_set_9 : decode cX6_set 9 = .ok (.if_icmp .lt 5, 3) := by decide +kernel
theorem dX6_set_12 : decode cX6_set 12 = .ok (.iconst (-1), 1) := by decide +kernel
theorem dX6_set_13 : decode cX6_set 13 = .ok (.ireturn, 1) := by decide +kernel
theorem dX6_set_14 : decode cX6_set 14 = .ok (.iload_n 1, 1) := by decide +kernel
theorem dX6_set_15 : decode cX6_set 15 = .ok (.bipush 8, 2) := by decide +kernel
theorem dX6_set_17 : decode cX6_set 17 = .ok (.isub, 1) := by decide +kernel
theorem dX6_set_18 : decode cX6_set 18 = .ok (.istore_n 3, 1) := by decide +kernel
theorem dX6_set_19 : decode cX6_set 19 = .ok (.iload_n 2, 1) := by decide +kernel
theorem dX6_set_20 : decode cX6_set 20 = .ok (.getstatic 256, 3) := by decide +kernel
theorem dX6_set_23 : decode cX6_set 23 = .ok (.iload_n 3, 1) := by decide +kernel
theorem dX6_set_24 : decode cX6_set 24 = .ok (.iaload, 1) := by decide +kernel
theorem dX6_set_25 : decode cX6_set 25 = .ok (.if_icmp .lt 12, 3) := by decide +kernel
theorem dX6_set_28 : decode cX6_set 28 = .ok (.iload_n 2, 1) := by decide +kernel
theorem dX6_set_29 : decode cX6_set 29 = .ok (.getstatic 259, 3) := by decide +kernel
theorem dX6_set_32 : decode cX6_set 32 = .ok (.iload_n 3, 1) := by decide +kernel
theorem dX6_set_33 : decode cX6_set 33 = .ok (.iaload, 1) := by decide +kernel
theorem dX6_set_34 : decode cX6_set 34 = .ok (.if_icmp .le 5, 3) := by decide +kernel
theorem dX6_set_37 : decode cX6_set 37 = .ok (.iconst (-1), 1) := by decide +kernel
theorem dX6_set_38 : decode cX6_set 38 = .ok (.ireturn, 1) := by decide +kernel
theorem dX6_set_39 : decode cX6_set 39 = .ok (.aload_n 0, 1) := by decide +kernel
theorem dX6_set_40 : decode cX6_set 40 = .ok (.getfield 23, 3) := by decide +kernel
theorem dX6_set_43 : decode cX6_set 43 = .ok (.getfield 108, 3) := by decide +kernel
theorem dX6_set_46 : decode cX6_set 46 = .ok (.iload_n 3, 1) := by decide +kernel
theorem dX6_set_47 : decode cX6_set 47 = .ok (.iaload, 1) := by decide +kernel
theorem dX6_set_48 : decode cX6_set 48 = .ok (.istore 4, 2) := by decide +kernel
theorem dX6_set_50 : decode cX6_set 50 = .ok (.aload_n 0, 1) := by decide +kernel
theorem dX6_set_51 : decode cX6_set 51 = .ok (.getfield 23, 3) := by decide +kernel
theorem dX6_set_54 : decode cX6_set 54 = .ok (.getfield 108, 3) := by decide +kernel
theorem dX6_set_57 : decode cX6_set 57 = .ok (.iload_n 3, 1) := by decide +kernel
theorem dX6_set_58 : decode cX6_set 58 = .ok (.iload_n 2, 1) := by decide +kernel
theorem dX6_set_59 : decode cX6_set 59 = .ok (.iastore, 1) := by decide +kernel
theorem dX6_set_60 : decode cX6_set 60 = .ok (.aload_n 0, 1) := by decide +kernel
theorem dX6_set_61 : decode cX6_set 61 = .ok (.iconst 1, 1) := by decide +kernel
theorem dX6_set_62 : decode cX6_set 62 = .ok (.putfield 70, 3) := by decide +kernel
theorem dX6_set_65 : decode cX6_set 65 = .ok (.iload 4, 2) := by decide +kernel
theorem dX6_set_67 : decode cX6_set 67 = .ok (.ireturn, 1) := by decide +kernel
theorem dX6_drop_0 : decode cX6_drop 0 = .ok (.aload_n 0, 1) := by decide +kernel
theorem dX6_drop_1 : decode cX6_drop 1 = .ok (.iload_n 1, 1) := by decide +kernel
theorem dX6_drop_2 : decode cX6_drop 2 = .ok (.invokevirtual 161, 3) := by decide +kernel
theorem dX6_drop_5 : decode cX6_drop 5 = .ok (.ifCond .ne 5, 3) := by decide +kernel
theorem dX6_drop_8 : decode cX6_drop 8 = .ok (.iconst (-1), 1) := by decide +kernel
theorem dX6_drop_9 : decode cX6_drop 9 = .ok (.ireturn, 1) := by decide +kernel
theorem dX6_drop_10 : decode cX6_drop 10 = .ok (.iload_n 2, 1) := by decide +kernel
theorem dX6_drop_11 : decode cX6_drop 11 = .ok (.bipush (-4), 2) := by decide +kernel
theorem dX6_drop_13 : decode cX6_drop 13 = .ok (.if_icmp .ne 11, 3) := by decide +kernel
theorem dX6_drop_16 : decode cX6_drop 16 = .ok (.iload_n 3, 1) := by decide +kernel
theorem dX6_drop_17 : decode cX6_drop 17 = .ok (.ifCond .ne 7, 3) := by decide +kernel
theorem dX6_drop_20 : decode cX6_drop 20 = .ok (.iconst 1, 1) := by decide +kernel
theorem dX6_drop_21 : decode cX6_drop 21 = .ok (.goto 4, 3) := by decide +kernel
theorem dX6_drop_24 : decode cX6_drop 24 = .ok (.iconst 0, 1) := by decide +kernel
theorem dX6_drop_25 : decode cX6_drop 25 = .ok (.istore 4, 2) := by decide +kernel
theorem dX6_drop_27 : decode cX6_drop 27 = .ok (.iload 4, 2) := by decide +kernel
theorem dX6_drop_29 : decode cX6_drop 29 = .ok (.ifCond .ne 20, 3) := by decide +kernel
theorem dX6_drop_32 : decode cX6_drop 32 = .ok (.aload_n 0, 1) := by decide +kernel
theorem dX6_drop_33 : decode cX6_drop 33 = .ok (.iload_n 2, 1) := by decide +kernel
theorem dX6_drop_34 : decode cX6_drop 34 = .ok (.invokevirtual 139, 3) := by decide +kernel
theorem dX6_drop_37 : decode cX6_drop 37 = .ok (.ifCond .eq 10, 3) := by decide +kernel
theorem dX6_drop_40 : decode cX6_drop 40 = .ok (.iload_n 3, 1) := by decide +kernel
theorem dX6_drop_41 : decode cX6_drop 41 = .ok (.invokestatic 249, 3) := by decide +kernel
theorem dX6_drop_44 : decode cX6_drop 44 = .ok (.ifCond .ne 5, 3) := by decide +kernel
theorem dX6_drop_47 : decode cX6_drop 47 = .ok (.iconst (-1), 1) := by decide +kernel
theorem dX6_drop_48 : decode cX6_drop 48 = .ok (.ireturn, 1) := by decide +kernel
theorem dX6_drop_49 : decode cX6_drop 49 = .ok (.aload_n 0, 1) := by decide +kernel
theorem dX6_drop_50 : decode cX6_drop 50 = .ok (.getfield 23, 3) := by decide +kernel
theorem dX6_drop_53 : decode cX6_drop 53 = .ok (.getfield 170, 3) := by decide +kernel
theorem dX6_drop_56 : decode cX6_drop 56 = .ok (.iload_n 1, 1) := by decide +kernel
theorem dX6_drop_57 : decode cX6_drop 57 = .ok (.iaload, 1) := by decide +kernel
theorem dX6_drop_58 : decode cX6_drop 58 = .ok (.istore 5, 2) := by decide +kernel
theorem dX6_drop_60 : decode cX6_drop 60 = .ok (.aload_n 0, 1) := by decide +kernel
theorem dX6_drop_61 : decode cX6_drop 61 = .ok (.getfield 23, 3) := by decide +kernel
theorem dX6_drop_64 : decode cX6_drop 64 = .ok (.getfield 167, 3) := by decide +kernel
theorem dX6_drop_67 : decode cX6_drop 67 = .ok (.iload_n 1, 1) := by decide +kernel
theorem dX6_drop_68 : decode cX6_drop 68 = .ok (.iload_n 2, 1) := by decide +kernel
theorem dX6_drop_69 : decode cX6_drop 69 = .ok (.iastore, 1) := by decide +kernel
theorem dX6_drop_70 : decode cX6_drop 70 = .ok (.aload_n 0, 1) := by decide +kernel
theorem dX6_drop_71 : decode cX6_drop 71 = .ok (.getfield 23, 3) := by decide +kernel
theorem dX6_drop_74 : decode cX6_drop 74 = .ok (.getfield 170, 3) := by decide +kernel
theorem dX6_drop_77 : decode cX6_drop 77 = .ok (.iload_n 1, 1) := by decide +kernel
theorem dX6_drop_78 : decode cX6_drop 78 = .ok (.iload_n 3, 1) := by decide +kernel
theorem dX6_drop_79 : decode cX6_drop 79 = .ok (.iastore, 1) := by decide +kernel
theorem dX6_drop_80 : decode cX6_drop 80 = .ok (.aload_n 0, 1) := by decide +kernel
theorem dX6_drop_81 : decode cX6_drop 81 = .ok (.iconst 1, 1) := by decide +kernel
theorem dX6_drop_82 : decode cX6_drop 82 = .ok (.putfield 70, 3) := by decide +kernel
theorem dX6_drop_85 : decode cX6_drop 85 = .ok (.iload 5, 2) := by decide +kernel
theorem dX6_drop_87 : decode cX6_drop 87 = .ok (.ireturn, 1) := by decide +kernel
theorem dX6_fit_0 : decode cX6_fit 0 = .ok (.iconst 0, 1) := by decide +kernel
theorem dX6_fit_1 : decode cX6_fit 1 = .ok (.istore_n 1, 1) := by decide +kernel
theorem dX6_fit_2 : decode cX6_fit 2 = .ok (.iconst 0, 1) := by decide +kernel
theorem dX6_fit_3 : decode cX6_fit 3 = .ok (.istore_n 2, 1) := by decide +kernel
theorem dX6_fit_4 : decode cX6_fit 4 = .ok (.iload_n 2, 1) := by decide +kernel
theorem dX6_fit_5 : decode cX6_fit 5 = .ok (.aload_n 0, 1) := by decide +kernel
theorem dX6_fit_6 : decode cX6_fit 6 = .ok (.getfield 23, 3) := by decide +kernel
theorem dX6_fit_9 : decode cX6_fit 9 = .ok (.getfield 115, 3) := by decide +kernel
theorem dX6_fit_12 : decode cX6_fit 12 = .ok (.if_icmp .ge 52, 3) := by decide +kernel
theorem dX6_fit_15 : decode cX6_fit 15 = .ok (.aload_n 0, 1) := by decide +kernel
theorem dX6_fit_16 : decode cX6_fit 16 = .ok (.getfield 23, 3) := by decide +kernel
theorem dX6_fit_19 : decode cX6_fit 19 = .ok (.iload_n 2, 1) := by decide +kernel
theorem dX6_fit_20 : decode cX6_fit 20 = .ok (.invokevirtual 215, 3) := by decide +kernel
theorem dX6_fit_23 : decode cX6_fit 23 = .ok (.ifCond .eq 35, 3) := by decide +kernel
theorem dX6_fit_26 : decode cX6_fit 26 = .ok (.aload_n 0, 1) := by decide +kernel
theorem dX6_fit_27 : decode cX6_fit 27 = .ok (.iload_n 2, 1) := by decide +kernel
theorem dX6_fit_28 : decode cX6_fit 28 = .ok (.invokevirtual 246, 3) := by decide +kernel
theorem dX6_fit_31 : decode cX6_fit 31 = .ok (.istore_n 3, 1) := by decide +kernel
theorem dX6_fit_32 : decode cX6_fit 32 = .ok (.iload_n 3, 1) := by decide +kernel
theorem dX6_fit_33 : decode cX6_fit 33 = .ok (.aload_n 0, 1) := by decide +kernel
theorem dX6_fit_34 : decode cX6_fit 34 = .ok (.getfield 23, 3) := by decide +kernel
theorem dX6_fit_37 : decode cX6_fit 37 = .ok (.getfield 170, 3) := by decide +kernel
theorem dX6_fit_40 : decode cX6_fit 40 = .ok (.iload_n 2, 1) := by decide +kernel
theorem dX6_fit_41 : decode cX6_fit 41 = .ok (.iaload, 1) := by decide +kernel
theorem dX6_fit_42 : decode cX6_fit 42 = .ok (.if_icmp .eq 16, 3) := by decide +kernel
theorem dX6_fit_45 : decode cX6_fit 45 = .ok (.aload_n 0, 1) := by decide +kernel
theorem dX6_fit_46 : decode cX6_fit 46 = .ok (.getfield 23, 3) := by decide +kernel
theorem dX6_fit_49 : decode cX6_fit 49 = .ok (.getfield 170, 3) := by decide +kernel
theorem dX6_fit_52 : decode cX6_fit 52 = .ok (.iload_n 2, 1) := by decide +kernel
theorem dX6_fit_53 : decode cX6_fit 53 = .ok (.iload_n 3, 1) := by decide +kernel
theorem dX6_fit_54 : decode cX6_fit 54 = .ok (.iastore, 1) := by decide +kernel
theorem dX6_fit_55 : decode cX6_fit 55 = .ok (.iinc 1 1, 3) := by decide +kernel
theorem dX6_fit_58 : decode cX6_fit 58 = .ok (.iinc 2 1, 3) := by decide +kernel
theorem dX6_fit_61 : decode cX6_fit 61 = .ok (.goto (-57), 3) := by decide +kernel
theorem dX6_fit_64 : decode cX6_fit 64 = .ok (.aload_n 0, 1) := by decide +kernel
theorem dX6_fit_65 : decode cX6_fit 65 = .ok (.iconst 1, 1) := by decide +kernel
theorem dX6_fit_66 : decode cX6_fit 66 = .ok (.putfield 70, 3) := by decide +kernel
theorem dX6_fit_69 : decode cX6_fit 69 = .ok (.iload_n 1, 1) := by decide +kernel
theorem dX6_fit_70 : decode cX6_fit 70 = .ok (.ireturn, 1) := by decide +kernel
theorem dX6_cut_0 : decode cX6_cut 0 = .ok (.aload_n 0, 1) := by decide +kernel
theorem dX6_cut_1 : decode cX6_cut 1 = .ok (.iload_n 1, 1) := by decide +kernel
theorem dX6_cut_2 : decode cX6_cut 2 = .ok (.invokevirtual 161, 3) := by decide +kernel
theorem dX6_cut_5 : decode cX6_cut 5 = .ok (.ifCond .eq 20, 3) := by decide +kernel
theorem dX6_cut_8 : decode cX6_cut 8 = .ok (.iload_n 2, 1) := by decide +kernel
theorem dX6_cut_9 : decode cX6_cut 9 = .ok (.ifCond .le 16, 3) := by decide +kernel
theorem dX6_cut_12 : decode cX6_cut 12 = .ok (.iload_n 2, 1) := by decide +kernel
theorem dX6_cut_13 : decode cX6_cut 13 = .ok (.aload_n 0, 1) := by decide +kernel
theorem dX6_cut_14 : decode cX6_cut 14 = .ok (.getfield 23, 3) := by decide +kernel
theorem dX6_cut_17 : decode cX6_cut 17 = .ok (.getfield 164, 3) := by decide +kernel
theorem dX6_cut_20 : decode cX6_cut 20 = .ok (.iload_n 1, 1) := by decide +kernel
theorem dX6_cut_21 : decode cX6_cut 21 = .ok (.iaload, 1) := by decide +kernel
theorem dX6_cut_22 : decode cX6_cut 22 = .ok (.if_icmp .lt 5, 3) := by decide +kernel
theorem dX6_cut_25 : decode cX6_cut 25 = .ok (.iconst (-1), 1) := by decide +kernel
theorem dX6_cut_26 : decode cX6_cut 26 = .ok (.ireturn, 1) := by decide +kernel
theorem dX6_cut_27 : decode cX6_cut 27 = .ok (.aload_n 0, 1) := by decide +kernel
theorem dX6_cut_28 : decode cX6_cut 28 = .ok (.getfield 23, 3) := by decide +kernel
theorem dX6_cut_31 : decode cX6_cut 31 = .ok (.getfield 115, 3) := by decide +kernel
theorem dX6_cut_34 : decode cX6_cut 34 = .ok (.bipush 8, 2) := by decide +kernel
theorem dX6_cut_36 : decode cX6_cut 36 = .ok (.if_icmp .lt 6, 3) := by decide +kernel
theorem dX6_cut_39 : decode cX6_cut 39 = .ok (.bipush (-3), 2) := by decide +kernel
theorem dX6_cut_41 : decode cX6_cut 41 = .ok (.ireturn, 1) := by decide +kernel
theorem dX6_cut_42 : decode cX6_cut 42 = .ok (.aload_n 0, 1) := by decide +kernel
theorem dX6_cut_43 : decode cX6_cut 43 = .ok (.getfield 23, 3) := by decide +kernel
theorem dX6_cut_46 : decode cX6_cut 46 = .ok (.iload_n 1, 1) := by decide +kernel
theorem dX6_cut_47 : decode cX6_cut 47 = .ok (.iload_n 2, 1) := by decide +kernel
theorem dX6_cut_48 : decode cX6_cut 48 = .ok (.invokevirtual 262, 3) := by decide +kernel
theorem dX6_cut_51 : decode cX6_cut 51 = .ok (.aload_n 0, 1) := by decide +kernel
theorem dX6_cut_52 : decode cX6_cut 52 = .ok (.iconst 1, 1) := by decide +kernel
theorem dX6_cut_53 : decode cX6_cut 53 = .ok (.putfield 70, 3) := by decide +kernel
theorem dX6_cut_56 : decode cX6_cut 56 = .ok (.aload_n 0, 1) := by decide +kernel
theorem dX6_cut_57 : decode cX6_cut 57 = .ok (.getfield 23, 3) := by decide +kernel
theorem dX6_cut_60 : decode cX6_cut 60 = .ok (.getfield 115, 3) := by decide +kernel
theorem dX6_cut_63 : decode cX6_cut 63 = .ok (.ireturn, 1) := by decide +kernel
theorem dX6_join_0 : decode cX6_join 0 = .ok (.aload_n 0, 1) := by decide +kernel
theorem dX6_join_1 : decode cX6_join 1 = .ok (.iload_n 1, 1) := by decide +kernel
theorem dX6_join_2 : decode cX6_join 2 = .ok (.invokevirtual 161, 3) := by decide +kernel
theorem dX6_join_5 : decode cX6_join 5 = .ok (.ifCond .ne 5, 3) := by decide +kernel
theorem dX6_join_8 : decode cX6_join 8 = .ok (.iconst (-1), 1) := by decide +kernel
theorem dX6_join_9 : decode cX6_join 9 = .ok (.ireturn, 1) := by decide +kernel
theorem dX6_join_10 : decode cX6_join 10 = .ok (.iload_n 1, 1) := by decide +kernel
theorem dX6_join_11 : decode cX6_join 11 = .ok (.iconst 1, 1) := by decide +kernel
theorem dX6_join_12 : decode cX6_join 12 = .ok (.iadd, 1) := by decide +kernel
theorem dX6_join_13 : decode cX6_join 13 = .ok (.aload_n 0, 1) := by decide +kernel
theorem dX6_join_14 : decode cX6_join 14 = .ok (.getfield 23, 3) := by decide +kernel
theorem dX6_join_17 : decode cX6_join 17 = .ok (.getfield 115, 3) := by decide +kernel
theorem dX6_join_20 : decode cX6_join 20 = .ok (.if_icmp .lt 6, 3) := by decide +kernel
theorem dX6_join_23 : decode cX6_join 23 = .ok (.bipush (-4), 2) := by decide +kernel
theorem dX6_join_25 : decode cX6_join 25 = .ok (.ireturn, 1) := by decide +kernel
theorem dX6_join_26 : decode cX6_join 26 = .ok (.aload_n 0, 1) := by decide +kernel
theorem dX6_join_27 : decode cX6_join 27 = .ok (.getfield 23, 3) := by decide +kernel
theorem dX6_join_30 : decode cX6_join 30 = .ok (.iload_n 1, 1) := by decide +kernel
theorem dX6_join_31 : decode cX6_join 31 = .ok (.invokevirtual 265, 3) := by decide +kernel
theorem dX6_join_34 : decode cX6_join 34 = .ok (.aload_n 0, 1) := by decide +kernel
theorem dX6_join_35 : decode cX6_join 35 = .ok (.iconst 1, 1) := by decide +kernel
theorem dX6_join_36 : decode cX6_join 36 = .ok (.putfield 70, 3) := by decide +kernel
theorem dX6_join_39 : decode cX6_join 39 = .ok (.aload_n 0, 1) := by decide +kernel
theorem dX6_join_40 : decode cX6_join 40 = .ok (.getfield 23, 3) := by decide +kernel
theorem dX6_join_43 : decode cX6_join 43 = .ok (.getfield 164, 3) := by decide +kernel
theorem dX6_join_46 : decode cX6_join 46 = .ok (.iload_n 1, 1) := by decide +kernel
theorem dX6_join_47 : decode cX6_join 47 = .ok (.iaload, 1) := by decide +kernel
theorem dX6_join_48 : decode cX6_join 48 = .ok (.ireturn, 1) := by decide +kernel
theorem dX6_move_0 : decode cX6_move 0 = .ok (.aload_n 0, 1) := by decide +kernel
theorem dX6_move_1 : decode cX6_move 1 = .ok (.iload_n 1, 1) := by decide +kernel
theorem dX6_move_2 : decode cX6_move 2 = .ok (.invokevirtual 161, 3) := by decide +kernel
theorem dX6_move_5 : decode cX6_move 5 = .ok (.ifCond .eq 20, 3) := by decide +kernel
theorem dX6_move_8 : decode cX6_move 8 = .ok (.iload_n 2, 1) := by decide +kernel
theorem dX6_move_9 : decode cX6_move 9 = .ok (.ifCond .lt 16, 3) := by decide +kernel
theorem dX6_move_12 : decode cX6_move 12 = .ok (.iload_n 2, 1) := by decide +kernel
theorem dX6_move_13 : decode cX6_move 13 = .ok (.aload_n 0, 1) := by decide +kernel
theorem dX6_move_14 : decode cX6_move 14 = .ok (.getfield 23, 3) := by decide +kernel
theorem dX6_move_17 : decode cX6_move 17 = .ok (.getfield 164, 3) := by decide +kernel
theorem dX6_move_20 : decode cX6_move 20 = .ok (.iload_n 1, 1) := by decide +kernel
theorem dX6_move_21 : decode cX6_move 21 = .ok (.iaload, 1) := by decide +kernel
theorem dX6_move_22 : decode cX6_move 22 = .ok (.if_icmp .lt 5, 3) := by decide +kernel
theorem dX6_move_25 : decode cX6_move 25 = .ok (.iconst (-1), 1) := by decide +kernel
theorem dX6_move_26 : decode cX6_move 26 = .ok (.ireturn, 1) := by decide +kernel
theorem dX6_move_27 : decode cX6_move 27 = .ok (.aload_n 0, 1) := by decide +kernel
theorem dX6_move_28 : decode cX6_move 28 = .ok (.iload_n 3, 1) := by decide +kernel
theorem dX6_move_29 : decode cX6_move 29 = .ok (.invokevirtual 161, 3) := by decide +kernel
theorem dX6_move_32 : decode cX6_move 32 = .ok (.ifCond .eq 29, 3) := by decide +kernel
theorem dX6_move_35 : decode cX6_move 35 = .ok (.iload 4, 2) := by decide +kernel
theorem dX6_move_37 : decode cX6_move 37 = .ok (.bipush (-4), 2) := by decide +kernel
theorem dX6_move_39 : decode cX6_move 39 = .ok (.if_icmp .eq 24, 3) := by decide +kernel
theorem dX6_move_42 : decode cX6_move 42 = .ok (.iload 4, 2) := by decide +kernel
theorem dX6_move_44 : decode cX6_move 44 = .ok (.ifCond .lt 17, 3) := by decide +kernel
theorem dX6_move_47 : decode cX6_move 47 = .ok (.iload 4, 2) := by decide +kernel
theorem dX6_move_49 : decode cX6_move 49 = .ok (.aload_n 0, 1) := by decide +kernel
theorem dX6_move_50 : decode cX6_move 50 = .ok (.getfield 23, 3) := by decide +kernel
theorem dX6_move_53 : decode cX6_move 53 = .ok (.getfield 164, 3) := by decide +kernel
theorem dX6_move_56 : decode cX6_move 56 = .ok (.iload_n 3, 1) := by decide +kernel
theorem dX6_move_57 : decode cX6_move 57 = .ok (.iaload, 1) := by decide +kernel
theorem dX6_move_58 : decode cX6_move 58 = .ok (.if_icmp .lt 5, 3) := by decide +kernel
theorem dX6_move_61 : decode cX6_move 61 = .ok (.iconst (-1), 1) := by decide +kernel
theorem dX6_move_62 : decode cX6_move 62 = .ok (.ireturn, 1) := by decide +kernel
theorem dX6_move_63 : decode cX6_move 63 = .ok (.aload_n 0, 1) := by decide +kernel
theorem dX6_move_64 : decode cX6_move 64 = .ok (.getfield 23, 3) := by decide +kernel
theorem dX6_move_67 : decode cX6_move 67 = .ok (.getfield 164, 3) := by decide +kernel
theorem dX6_move_70 : decode cX6_move 70 = .ok (.iload_n 1, 1) := by decide +kernel
theorem dX6_move_71 : decode cX6_move 71 = .ok (.iaload, 1) := by decide +kernel
theorem dX6_move_72 : decode cX6_move 72 = .ok (.iconst 1, 1) := by decide +kernel
theorem dX6_move_73 : decode cX6_move 73 = .ok (.if_icmp .eq 14, 3) := by decide +kernel
theorem dX6_move_76 : decode cX6_move 76 = .ok (.iload_n 1, 1) := by decide +kernel
theorem dX6_move_77 : decode cX6_move 77 = .ok (.iload_n 3, 1) := by decide +kernel
theorem dX6_move_78 : decode cX6_move 78 = .ok (.if_icmp .ne 12, 3) := by decide +kernel
theorem dX6_move_81 : decode cX6_move 81 = .ok (.iload_n 2, 1) := by decide +kernel
theorem dX6_move_82 : decode cX6_move 82 = .ok (.iload 4, 2) := by decide +kernel
theorem dX6_move_84 : decode cX6_move 84 = .ok (.if_icmp .ne 6, 3) := by decide +kernel
theorem dX6_move_87 : decode cX6_move 87 = .ok (.bipush (-2), 2) := by decide +kernel
theorem dX6_move_89 : decode cX6_move 89 = .ok (.ireturn, 1) := by decide +kernel
theorem dX6_move_90 : decode cX6_move 90 = .ok (.aload_n 0, 1) := by decide +kernel
theorem dX6_move_91 : decode cX6_move 91 = .ok (.getfield 23, 3) := by decide +kernel
theorem dX6_move_94 : decode cX6_move 94 = .ok (.iload_n 1, 1) := by decide +kernel
theorem dX6_move_95 : decode cX6_move 95 = .ok (.iload_n 2, 1) := by decide +kernel
theorem dX6_move_96 : decode cX6_move 96 = .ok (.iload_n 3, 1) := by decide +kernel
theorem dX6_move_97 : decode cX6_move 97 = .ok (.iload 4, 2) := by decide +kernel
theorem dX6_move_99 : decode cX6_move 99 = .ok (.bipush (-4), 2) := by decide +kernel
theorem dX6_move_101 : decode cX6_move 101 = .ok (.if_icmp .ne 7, 3) := by decide +kernel
theorem dX6_move_104 : decode cX6_move 104 = .ok (.iconst 0, 1) := by decide +kernel
theorem dX6_move_105 : decode cX6_move 105 = .ok (.goto 7, 3) := by decide +kernel
theorem dX6_move_108 : decode cX6_move 108 = .ok (.iload 4, 2) := by decide +kernel
theorem dX6_move_110 : decode cX6_move 110 = .ok (.iconst 1, 1) := by decide +kernel
theorem dX6_move_111 : decode cX6_move 111 = .ok (.iadd, 1) := by decide +kernel
theorem dX6_move_112 : decode cX6_move 112 = .ok (.invokevirtual 268, 3) := by decide +kernel
theorem dX6_move_115 : decode cX6_move 115 = .ok (.aload_n 0, 1) := by decide +kernel
theorem dX6_move_116 : decode cX6_move 116 = .ok (.iconst 1, 1) := by decide +kernel
theorem dX6_move_117 : decode cX6_move 117 = .ok (.putfield 70, 3) := by decide +kernel
theorem dX6_move_120 : decode cX6_move 120 = .ok (.aload_n 0, 1) := by decide +kernel
theorem dX6_move_121 : decode cX6_move 121 = .ok (.getfield 23, 3) := by decide +kernel
theorem dX6_move_124 : decode cX6_move 124 = .ok (.getfield 164, 3) := by decide +kernel
theorem dX6_move_127 : decode cX6_move 127 = .ok (.iload_n 3, 1) := by decide +kernel
theorem dX6_move_128 : decode cX6_move 128 = .ok (.iaload, 1) := by decide +kernel
theorem dX6_move_129 : decode cX6_move 129 = .ok (.ireturn, 1) := by decide +kernel
theorem dX6_keep_0 : decode cX6_keep 0 = .ok (.iload_n 1, 1) := by decide +kernel
theorem dX6_keep_1 : decode cX6_keep 1 = .ok (.ifCond .lt 8, 3) := by decide +kernel
theorem dX6_keep_4 : decode cX6_keep 4 = .ok (.iload_n 1, 1) := by decide +kernel
theorem dX6_keep_5 : decode cX6_keep 5 = .ok (.iconst 2, 1) := by decide +kernel
theorem dX6_keep_6 : decode cX6_keep 6 = .ok (.if_icmp .lt 5, 3) := by decide +kernel
theorem dX6_keep_9 : decode cX6_keep 9 = .ok (.iconst (-1), 1) := by decide +kernel
theorem dX6_keep_10 : decode cX6_keep 10 = .ok (.ireturn, 1) := by decide +kernel
theorem dX6_keep_11 : decode cX6_keep 11 = .ok (.aload_n 0, 1) := by decide +kernel
theorem dX6_keep_12 : decode cX6_keep 12 = .ok (.iload_n 1, 1) := by decide +kernel
theorem dX6_keep_13 : decode cX6_keep 13 = .ok (.invokevirtual 272, 3) := by decide +kernel
theorem dX6_keep_16 : decode cX6_keep 16 = .ok (.ifCond .eq 7, 3) := by decide +kernel
theorem dX6_keep_19 : decode cX6_keep 19 = .ok (.iconst 1, 1) := by decide +kernel
theorem dX6_keep_20 : decode cX6_keep 20 = .ok (.goto 4, 3) := by decide +kernel
theorem dX6_keep_23 : decode cX6_keep 23 = .ok (.iconst 0, 1) := by decide +kernel
theorem dX6_keep_24 : decode cX6_keep 24 = .ok (.istore_n 2, 1) := by decide +kernel
theorem dX6_keep_25 : decode cX6_keep 25 = .ok (.aload_n 0, 1) := by decide +kernel
theorem dX6_keep_26 : decode cX6_keep 26 = .ok (.iload_n 1, 1) := by decide +kernel
theorem dX6_keep_27 : decode cX6_keep 27 = .ok (.invokevirtual 275, 3) := by decide +kernel
theorem dX6_keep_30 : decode cX6_keep 30 = .ok (.aload_n 0, 1) := by decide +kernel
theorem dX6_keep_31 : decode cX6_keep 31 = .ok (.getfield 23, 3) := by decide +kernel
theorem dX6_keep_34 : decode cX6_keep 34 = .ok (.invokevirtual 100, 3) := by decide +kernel
theorem dX6_keep_37 : decode cX6_keep 37 = .ok (.iload_n 1, 1) := by decide +kernel
theorem dX6_keep_38 : decode cX6_keep 38 = .ok (.ifCond .ne 11, 3) := by decide +kernel
theorem dX6_keep_41 : decode cX6_keep 41 = .ok (.aload_n 0, 1) := by decide +kernel
theorem dX6_keep_42 : decode cX6_keep 42 = .ok (.iconst 1, 1) := by decide +kernel
theorem dX6_keep_43 : decode cX6_keep 43 = .ok (.putfield 102, 3) := by decide +kernel
theorem dX6_keep_46 : decode cX6_keep 46 = .ok (.goto 8, 3) := by decide +kernel
theorem dX6_keep_49 : decode cX6_keep 49 = .ok (.aload_n 0, 1) := by decide +kernel
theorem dX6_keep_50 : decode cX6_keep 50 = .ok (.iconst 1, 1) := by decide +kernel
theorem dX6_keep_51 : decode cX6_keep 51 = .ok (.putfield 105, 3) := by decide +kernel
theorem dX6_keep_54 : decode cX6_keep 54 = .ok (.iload_n 2, 1) := by decide +kernel
theorem dX6_keep_55 : decode cX6_keep 55 = .ok (.ireturn, 1) := by decide +kernel
theorem dX6_back_0 : decode cX6_back 0 = .ok (.iload_n 1, 1) := by decide +kernel
theorem dX6_back_1 : decode cX6_back 1 = .ok (.ifCond .lt 8, 3) := by decide +kernel
theorem dX6_back_4 : decode cX6_back 4 = .ok (.iload_n 1, 1) := by decide +kernel
theorem dX6_back_5 : decode cX6_back 5 = .ok (.iconst 2, 1) := by decide +kernel
theorem dX6_back_6 : decode cX6_back 6 = .ok (.if_icmp .lt 5, 3) := by decide +kernel
theorem dX6_back_9 : decode cX6_back 9 = .ok (.iconst (-1), 1) := by decide +kernel
theorem dX6_back_10 : decode cX6_back 10 = .ok (.ireturn, 1) := by decide +kernel
theorem dX6_back_11 : decode cX6_back 11 = .ok (.aload_n 0, 1) := by decide +kernel
theorem dX6_back_12 : decode cX6_back 12 = .ok (.iload_n 1, 1) := by decide +kernel
theorem dX6_back_13 : decode cX6_back 13 = .ok (.invokevirtual 272, 3) := by decide +kernel
theorem dX6_back_16 : decode cX6_back 16 = .ok (.ifCond .ne 6, 3) := by decide +kernel
theorem dX6_back_19 : decode cX6_back 19 = .ok (.bipush (-2), 2) := by decide +kernel
theorem dX6_back_21 : decode cX6_back 21 = .ok (.ireturn, 1) := by decide +kernel
theorem dX6_back_22 : decode cX6_back 22 = .ok (.aload_n 0, 1) := by decide +kernel
theorem dX6_back_23 : decode cX6_back 23 = .ok (.getfield 23, 3) := by decide +kernel
theorem dX6_back_26 : decode cX6_back 26 = .ok (.aload_n 0, 1) := by decide +kernel
theorem dX6_back_27 : decode cX6_back 27 = .ok (.iload_n 1, 1) := by decide +kernel
theorem dX6_back_28 : decode cX6_back 28 = .ok (.invokevirtual 275, 3) := by decide +kernel
theorem dX6_back_31 : decode cX6_back 31 = .ok (.invokevirtual 100, 3) := by decide +kernel
theorem dX6_back_34 : decode cX6_back 34 = .ok (.aload_n 0, 1) := by decide +kernel
theorem dX6_back_35 : decode cX6_back 35 = .ok (.iconst 1, 1) := by decide +kernel
theorem dX6_back_36 : decode cX6_back 36 = .ok (.putfield 70, 3) := by decide +kernel
theorem dX6_back_39 : decode cX6_back 39 = .ok (.aload_n 0, 1) := by decide +kernel
theorem dX6_back_40 : decode cX6_back 40 = .ok (.getfield 23, 3) := by decide +kernel
theorem dX6_back_43 : decode cX6_back 43 = .ok (.getfield 115, 3) := by decide +kernel
theorem dX6_back_46 : decode cX6_back 46 = .ok (.ireturn, 1) := by decide +kernel
theorem dX6_isKept_0 : decode cX6_isKept 0 = .ok (.iload_n 1, 1) := by decide +kernel
theorem dX6_isKept_1 : decode cX6_isKept 1 = .ok (.ifCond .ne 10, 3) := by decide +kernel
theorem dX6_isKept_4 : decode cX6_isKept 4 = .ok (.aload_n 0, 1) := by decide +kernel
theorem dX6_isKept_5 : decode cX6_isKept 5 = .ok (.getfield 102, 3) := by decide +kernel
theorem dX6_isKept_8 : decode cX6_isKept 8 = .ok (.goto 7, 3) := by decide +kernel
theorem dX6_isKept_11 : decode cX6_isKept 11 = .ok (.aload_n 0, 1) := by decide +kernel
theorem dX6_isKept_12 : decode cX6_isKept 12 = .ok (.getfield 105, 3) := by decide +kernel
theorem dX6_isKept_15 : decode cX6_isKept 15 = .ok (.ireturn, 1) := by decide +kernel
theorem dX6_imageOf_0 : decode cX6_imageOf 0 = .ok (.iload_n 1, 1) := by decide +kernel
theorem dX6_imageOf_1 : decode cX6_imageOf 1 = .ok (.ifCond .ne 10, 3) := by decide +kernel
theorem dX6_imageOf_4 : decode cX6_imageOf 4 = .ok (.aload_n 0, 1) := by decide +kernel
theorem dX6_imageOf_5 : decode cX6_imageOf 5 = .ok (.getfield 74, 3) := by decide +kernel
theorem dX6_imageOf_8 : decode cX6_imageOf 8 = .ok (.goto 7, 3) := by decide +kernel
theorem dX6_imageOf_11 : decode cX6_imageOf 11 = .ok (.aload_n 0, 1) := by decide +kernel
theorem dX6_imageOf_12 : decode cX6_imageOf 12 = .ok (.getfield 77, 3) := by decide +kernel
theorem dX6_imageOf_15 : decode cX6_imageOf 15 = .ok (.areturn, 1) := by decide +kernel
theorem dX6_isShape_0 : decode cX6_isShape 0 = .ok (.iload_n 1, 1) := by decide +kernel
theorem dX6_isShape_1 : decode cX6_isShape 1 = .ok (.ifCond .lt 18, 3) := by decide +kernel
theorem dX6_isShape_4 : decode cX6_isShape 4 = .ok (.iload_n 1, 1) := by decide +kernel
theorem dX6_isShape_5 : decode cX6_isShape 5 = .ok (.aload_n 0, 1) := by decide +kernel
theorem dX6_isShape_6 : decode cX6_isShape 6 = .ok (.getfield 16, 3) := by decide +kernel
theorem dX6_isShape_9 : decode cX6_isShape 9 = .ok (.getfield 112, 3) := by decide +kernel
theorem dX6_isShape_12 : decode cX6_isShape 12 = .ok (.if_icmp .ge 7, 3) := by decide +kernel
theorem dX6_isShape_15 : decode cX6_isShape 15 = .ok (.iconst 1, 1) := by decide +kernel
theorem dX6_isShape_16 : decode cX6_isShape 16 = .ok (.goto 4, 3) := by decide +kernel
theorem dX6_isShape_19 : decode cX6_isShape 19 = .ok (.iconst 0, 1) := by decide +kernel
theorem dX6_isShape_20 : decode cX6_isShape 20 = .ok (.ireturn, 1) := by decide +kernel
theorem dX6_isPar_0 : decode cX6_isPar 0 = .ok (.iload_n 1, 1) := by decide +kernel
theorem dX6_isPar_1 : decode cX6_isPar 1 = .ok (.ifCond .lt 18, 3) := by decide +kernel
theorem dX6_isPar_4 : decode cX6_isPar 4 = .ok (.iload_n 1, 1) := by decide +kernel
theorem dX6_isPar_5 : decode cX6_isPar 5 = .ok (.aload_n 0, 1) := by decide +kernel
theorem dX6_isPar_6 : decode cX6_isPar 6 = .ok (.getfield 23, 3) := by decide +kernel
theorem dX6_isPar_9 : decode cX6_isPar 9 = .ok (.getfield 115, 3) := by decide +kernel
theorem dX6_isPar_12 : decode cX6_isPar 12 = .ok (.if_icmp .ge 7, 3) := by decide +kernel
theorem dX6_isPar_15 : decode cX6_isPar 15 = .ok (.iconst 1, 1) := by decide +kernel
theorem dX6_isPar_16 : decode cX6_isPar 16 = .ok (.goto 4, 3) := by decide +kernel
theorem dX6_isPar_19 : decode cX6_isPar 19 = .ok (.iconst 0, 1) := by decide +kernel
theorem dX6_isPar_20 : decode cX6_isPar 20 = .ok (.ireturn, 1) := by decide +kernel
theorem dX6_isDrop_0 : decode cX6_isDrop 0 = .ok (.iload_n 0, 1) := by decide +kernel
theorem dX6_isDrop_1 : decode cX6_isDrop 1 = .ok (.iconst 2, 1) := by decide +kernel
theorem dX6_isDrop_2 : decode cX6_isDrop 2 = .ok (.if_icmp .lt 12, 3) := by decide +kernel
theorem dX6_isDrop_5 : decode cX6_isDrop 5 = .ok (.iload_n 0, 1) := by decide +kernel
theorem dX6_isDrop_6 : decode cX6_isDrop 6 = .ok (.iconst 5, 1) := by decide +kernel
theorem dX6_isDrop_7 : decode cX6_isDrop 7 = .ok (.if_icmp .gt 7, 3) := by decide +kernel
theorem dX6_isDrop_10 : decode cX6_isDrop 10 = .ok (.iconst 1, 1) := by decide +kernel
theorem dX6_isDrop_11 : decode cX6_isDrop 11 = .ok (.goto 4, 3) := by decide +kernel
theorem dX6_isDrop_14 : decode cX6_isDrop 14 = .ok (.iconst 0, 1) := by decide +kernel
theorem dX6_isDrop_15 : decode cX6_isDrop 15 = .ok (.ireturn, 1) := by decide +kernel
theorem dX6_laid_0 : decode cX6_laid 0 = .ok (.aload_n 0, 1) := by decide +kernel
theorem dX6_laid_1 : decode cX6_laid 1 = .ok (.getfield 70, 3) := by decide +kernel
theorem dX6_laid_4 : decode cX6_laid 4 = .ok (.ifCond .eq 15, 3) := by decide +kernel
theorem dX6_laid_7 : decode cX6_laid 7 = .ok (.aload_n 0, 1) := by decide +kernel
theorem dX6_laid_8 : decode cX6_laid 8 = .ok (.getfield 63, 3) := by decide +kernel
theorem dX6_laid_11 : decode cX6_laid 11 = .ok (.invokevirtual 279, 3) := by decide +kernel
theorem dX6_laid_14 : decode cX6_laid 14 = .ok (.aload_n 0, 1) := by decide +kernel
theorem dX6_laid_15 : decode cX6_laid 15 = .ok (.iconst 0, 1) := by decide +kernel
theorem dX6_laid_16 : decode cX6_laid 16 = .ok (.putfield 70, 3) := by decide +kernel
theorem dX6_laid_19 : decode cX6_laid 19 = .ok (.aload_n 0, 1) := by decide +kernel
theorem dX6_laid_20 : decode cX6_laid 20 = .ok (.getfield 63, 3) := by decide +kernel
theorem dX6_laid_23 : decode cX6_laid 23 = .ok (.areturn, 1) := by decide +kernel
theorem dX6_drawnHeight_0 : decode cX6_drawnHeight 0 = .ok (.aload_n 0, 1) := by decide +kernel
theorem dX6_drawnHeight_1 : decode cX6_drawnHeight 1 = .ok (.getfield 47, 3) := by decide +kernel
theorem dX6_drawnHeight_4 : decode cX6_drawnHeight 4 = .ok (.iload_n 1, 1) := by decide +kernel
theorem dX6_drawnHeight_5 : decode cX6_drawnHeight 5 = .ok (.invokevirtual 200, 3) := by decide +kernel
theorem dX6_drawnHeight_8 : decode cX6_drawnHeight 8 = .ok (.aload_n 0, 1) := by decide +kernel
theorem dX6_drawnHeight_9 : decode cX6_drawnHeight 9 = .ok (.getfield 47, 3) := by decide +kernel
theorem dX6_drawnHeight_12 : decode cX6_drawnHeight 12 = .ok (.getfield 282, 3) := by decide +kernel
theorem dX6_drawnHeight_15 : decode cX6_drawnHeight 15 = .ok (.ireturn, 1) := by decide +kernel
theorem dX6_parLies_0 : decode cX6_parLies 0 = .ok (.aload_n 0, 1) := by decide +kernel
theorem dX6_parLies_1 : decode cX6_parLies 1 = .ok (.invokevirtual 122, 3) := by decide +kernel
theorem dX6_parLies_4 : decode cX6_parLies 4 = .ok (.astore_n 3, 1) := by decide +kernel
theorem dX6_parLies_5 : decode cX6_parLies 5 = .ok (.aload_n 3, 1) := by decide +kernel
theorem dX6_parLies_6 : decode cX6_parLies 6 = .ok (.getfield 285, 3) := by decide +kernel
theorem dX6_parLies_9 : decode cX6_parLies 9 = .ok (.iload_n 1, 1) := by decide +kernel
theorem dX6_parLies_10 : decode cX6_parLies 10 = .ok (.iaload, 1) := by decide +kernel
theorem dX6_parLies_11 : decode cX6_parLies 11 = .ok (.istore 4, 2) := by decide +kernel
theorem dX6_parLies_13 : decode cX6_parLies 13 = .ok (.aload_n 3, 1) := by decide +kernel
theorem dX6_parLies_14 : decode cX6_parLies 14 = .ok (.getfield 286, 3) := by decide +kernel
theorem dX6_parLies_17 : decode cX6_parLies 17 = .ok (.iload_n 1, 1) := by decide +kernel
theorem dX6_parLies_18 : decode cX6_parLies 18 = .ok (.iaload, 1) := by decide +kernel
theorem dX6_parLies_19 : decode cX6_parLies 19 = .ok (.istore 5, 2) := by decide +kernel
theorem dX6_parLies_21 : decode cX6_parLies 21 = .ok (.iload_n 2, 1) := by decide +kernel
theorem dX6_parLies_22 : decode cX6_parLies 22 = .ok (.tableswitch 85 4 9 #[38, 41, 47, 56, 65, 74], 38) := by decide +kernel
theorem dX6_parLies_60 : decode cX6_parLies 60 = .ok (.iload 4, 2) := by decide +kernel
theorem dX6_parLies_62 : decode cX6_parLies 62 = .ok (.ireturn, 1) := by decide +kernel
theorem dX6_parLies_63 : decode cX6_parLies 63 = .ok (.iload 5, 2) := by decide +kernel
theorem dX6_parLies_65 : decode cX6_parLies 65 = .ok (.iload 4, 2) := by decide +kernel
theorem dX6_parLies_67 : decode cX6_parLies 67 = .ok (.isub, 1) := by decide +kernel
theorem dX6_parLies_68 : decode cX6_parLies 68 = .ok (.ireturn, 1) := by decide +kernel
theorem dX6_parLies_69 : decode cX6_parLies 69 = .ok (.aload_n 3, 1) := by decide +kernel
theorem dX6_parLies_70 : decode cX6_parLies 70 = .ok (.iload 4, 2) := by decide +kernel
theorem dX6_parLies_72 : decode cX6_parLies 72 = .ok (.iload 5, 2) := by decide +kernel
theorem dX6_parLies_74 : decode cX6_parLies 74 = .ok (.invokevirtual 132, 3) := by decide +kernel
theorem dX6_parLies_77 : decode cX6_parLies 77 = .ok (.ireturn, 1) := by decide +kernel
theorem dX6_parLies_78 : decode cX6_parLies 78 = .ok (.aload_n 3, 1) := by decide +kernel
theorem dX6_parLies_79 : decode cX6_parLies 79 = .ok (.iload 4, 2) := by decide +kernel
theorem dX6_parLies_81 : decode cX6_parLies 81 = .ok (.iload 5, 2) := by decide +kernel
theorem dX6_parLies_83 : decode cX6_parLies 83 = .ok (.invokevirtual 289, 3) := by decide +kernel
theorem dX6_parLies_86 : decode cX6_parLies 86 = .ok (.ireturn, 1) := by decide +kernel
theorem dX6_parLies_87 : decode cX6_parLies 87 = .ok (.aload_n 3, 1) := by decide +kernel
theorem dX6_parLies_88 : decode cX6_parLies 88 = .ok (.iload 4, 2) := by decide +kernel
theorem dX6_parLies_90 : decode cX6_parLies 90 = .ok (.iload 5, 2) := by decide +kernel
theorem dX6_parLies_92 : decode cX6_parLies 92 = .ok (.invokevirtual 136, 3) := by decide +kernel
theorem dX6_parLies_95 : decode cX6_parLies 95 = .ok (.ireturn, 1) := by decide +kernel
theorem dX6_parLies_96 : decode cX6_parLies 96 = .ok (.aload_n 3, 1) := by decide +kernel
theorem dX6_parLies_97 : decode cX6_parLies 97 = .ok (.iload 4, 2) := by decide +kernel
theorem dX6_parLies_99 : decode cX6_parLies 99 = .ok (.iload 5, 2) := by decide +kernel
theorem dX6_parLies_101 : decode cX6_parLies 101 = .ok (.iconst 1, 1) := by decide +kernel
theorem dX6_parLies_102 : decode cX6_parLies 102 = .ok (.isub, 1) := by decide +kernel
theorem dX6_parLies_103 : decode cX6_parLies 103 = .ok (.invokevirtual 292, 3) := by decide +kernel
theorem dX6_parLies_106 : decode cX6_parLies 106 = .ok (.ireturn, 1) := by decide +kernel
theorem dX6_parLies_107 : decode cX6_parLies 107 = .ok (.iconst (-1), 1) := by decide +kernel
theorem dX6_parLies_108 : decode cX6_parLies 108 = .ok (.ireturn, 1) := by decide +kernel
theorem dX6_layTrial_0 : decode cX6_layTrial 0 = .ok (.aload_n 0, 1) := by decide +kernel
theorem dX6_layTrial_1 : decode cX6_layTrial 1 = .ok (.getfield 23, 3) := by decide +kernel
theorem dX6_layTrial_4 : decode cX6_layTrial 4 = .ok (.getfield 170, 3) := by decide +kernel
theorem dX6_layTrial_7 : decode cX6_layTrial 7 = .ok (.iload_n 1, 1) := by decide +kernel
theorem dX6_layTrial_8 : decode cX6_layTrial 8 = .ok (.iaload, 1) := by decide +kernel
theorem dX6_layTrial_9 : decode cX6_layTrial 9 = .ok (.istore_n 3, 1) := by decide +kernel
theorem dX6_layTrial_10 : decode cX6_layTrial 10 = .ok (.aload_n 0, 1) := by decide +kernel
theorem dX6_layTrial_11 : decode cX6_layTrial 11 = .ok (.getfield 23, 3) := by decide +kernel
theorem dX6_layTrial_14 : decode cX6_layTrial 14 = .ok (.getfield 170, 3) := by decide +kernel
theorem dX6_layTrial_17 : decode cX6_layTrial 17 = .ok (.iload_n 1, 1) := by decide +kernel
theorem dX6_layTrial_18 : decode cX6_layTrial 18 = .ok (.iload_n 2, 1) := by decide +kernel
theorem dX6_layTrial_19 : decode cX6_layTrial 19 = .ok (.iastore, 1) := by decide +kernel
theorem dX6_layTrial_20 : decode cX6_layTrial 20 = .ok (.aload_n 0, 1) := by decide +kernel
theorem dX6_layTrial_21 : decode cX6_layTrial 21 = .ok (.getfield 67, 3) := by decide +kernel
theorem dX6_layTrial_24 : decode cX6_layTrial 24 = .ok (.invokevirtual 279, 3) := by decide +kernel
theorem dX6_layTrial_27 : decode cX6_layTrial 27 = .ok (.aload_n 0, 1) := by decide +kernel
theorem dX6_layTrial_28 : decode cX6_layTrial 28 = .ok (.getfield 23, 3) := by decide +kernel
theorem dX6_layTrial_31 : decode cX6_layTrial 31 = .ok (.getfield 170, 3) := by decide +kernel
theorem dX6_layTrial_34 : decode cX6_layTrial 34 = .ok (.iload_n 1, 1) := by decide +kernel
theorem dX6_layTrial_35 : decode cX6_layTrial 35 = .ok (.iload_n 3, 1) := by decide +kernel
theorem dX6_layTrial_36 : decode cX6_layTrial 36 = .ok (.iastore, 1) := by decide +kernel
theorem dX6_layTrial_37 : decode cX6_layTrial 37 = .ok (.return_, 1) := by decide +kernel
theorem dX6_bestDrop_0 : decode cX6_bestDrop 0 = .ok (.iconst 2, 1) := by decide +kernel
theorem dX6_bestDrop_1 : decode cX6_bestDrop 1 = .ok (.istore_n 2, 1) := by decide +kernel
theorem dX6_bestDrop_2 : decode cX6_bestDrop 2 = .ok (.iconst 0, 1) := by decide +kernel
theorem dX6_bestDrop_3 : decode cX6_bestDrop 3 = .ok (.istore_n 3, 1) := by decide +kernel
theorem dX6_bestDrop_4 : decode cX6_bestDrop 4 = .ok (.iconst 2, 1) := by decide +kernel
theorem dX6_bestDrop_5 : decode cX6_bestDrop 5 = .ok (.istore 4, 2) := by decide +kernel
theorem dX6_bestDrop_7 : decode cX6_bestDrop 7 = .ok (.iload 4, 2) := by decide +kernel
theorem dX6_bestDrop_9 : decode cX6_bestDrop 9 = .ok (.iconst 5, 1) := by decide +kernel
theorem dX6_bestDrop_10 : decode cX6_bestDrop 10 = .ok (.if_icmp .gt 75, 3) := by decide +kernel
theorem dX6_bestDrop_13 : decode cX6_bestDrop 13 = .ok (.aload_n 0, 1) := by decide +kernel
theorem dX6_bestDrop_14 : decode cX6_bestDrop 14 = .ok (.iload_n 1, 1) := by decide +kernel
theorem dX6_bestDrop_15 : decode cX6_bestDrop 15 = .ok (.iload 4, 2) := by decide +kernel
theorem dX6_bestDrop_17 : decode cX6_bestDrop 17 = .ok (.invokevirtual 252, 3) := by decide +kernel
theorem dX6_bestDrop_20 : decode cX6_bestDrop 20 = .ok (.aload_n 0, 1) := by decide +kernel
theorem dX6_bestDrop_21 : decode cX6_bestDrop 21 = .ok (.getfield 67, 3) := by decide +kernel
theorem dX6_bestDrop_24 : decode cX6_bestDrop 24 = .ok (.getfield 126, 3) := by decide +kernel
theorem dX6_bestDrop_27 : decode cX6_bestDrop 27 = .ok (.ldc_w 295, 3) := by decide +kernel
theorem dX6_bestDrop_30 : decode cX6_bestDrop 30 = .ok (.imul, 1) := by decide +kernel
theorem dX6_bestDrop_31 : decode cX6_bestDrop 31 = .ok (.aload_n 0, 1) := by decide +kernel
theorem dX6_bestDrop_32 : decode cX6_bestDrop 32 = .ok (.getfield 67, 3) := by decide +kernel
theorem dX6_bestDrop_35 : decode cX6_bestDrop 35 = .ok (.iconst 0, 1) := by decide +kernel
theorem dX6_bestDrop_36 : decode cX6_bestDrop 36 = .ok (.sipush 152, 3) := by decide +kernel
theorem dX6_bestDrop_39 : decode cX6_bestDrop 39 = .ok (.invokevirtual 132, 3) := by decide +kernel
theorem dX6_bestDrop_42 : decode cX6_bestDrop 42 = .ok (.sipush 1000, 3) := by decide +kernel
theorem dX6_bestDrop_45 : decode cX6_bestDrop 45 = .ok (.imul, 1) := by decide +kernel
theorem dX6_bestDrop_46 : decode cX6_bestDrop 46 = .ok (.iadd, 1) := by decide +kernel
theorem dX6_bestDrop_47 : decode cX6_bestDrop 47 = .ok (.aload_n 0, 1) := by decide +kernel
theorem dX6_bestDrop_48 : decode cX6_bestDrop 48 = .ok (.getfield 67, 3) := by decide +kernel
theorem dX6_bestDrop_51 : decode cX6_bestDrop 51 = .ok (.iconst 0, 1) := by decide +kernel
theorem dX6_bestDrop_52 : decode cX6_bestDrop 52 = .ok (.sipush 152, 3) := by decide +kernel
theorem dX6_bestDrop_55 : decode cX6_bestDrop 55 = .ok (.invokevirtual 136, 3) := by decide +kernel
theorem dX6_bestDrop_58 : decode cX6_bestDrop 58 = .ok (.iadd, 1) := by decide +kernel
theorem dX6_bestDrop_59 : decode cX6_bestDrop 59 = .ok (.istore 5, 2) := by decide +kernel
theorem dX6_bestDrop_61 : decode cX6_bestDrop 61 = .ok (.iload 4, 2) := by decide +kernel
theorem dX6_bestDrop_63 : decode cX6_bestDrop 63 = .ok (.iconst 2, 1) := by decide +kernel
theorem dX6_bestDrop_64 : decode cX6_bestDrop 64 = .ok (.if_icmp .eq 9, 3) := by decide +kernel
theorem dX6_bestDrop_67 : decode cX6_bestDrop 67 = .ok (.iload 5, 2) := by decide +kernel
theorem dX6_bestDrop_69 : decode cX6_bestDrop 69 = .ok (.iload_n 3, 1) := by decide +kernel
theorem dX6_bestDrop_70 : decode cX6_bestDrop 70 = .ok (.if_icmp .gt 9, 3) := by decide +kernel
theorem dX6_bestDrop_73 : decode cX6_bestDrop 73 = .ok (.iload 4, 2) := by decide +kernel
theorem dX6_bestDrop_75 : decode cX6_bestDrop 75 = .ok (.istore_n 2, 1) := by decide +kernel
theorem dX6_bestDrop_76 : decode cX6_bestDrop 76 = .ok (.iload 5, 2) := by decide +kernel
theorem dX6_bestDrop_78 : decode cX6_bestDrop 78 = .ok (.istore_n 3, 1) := by decide +kernel
theorem dX6_bestDrop_79 : decode cX6_bestDrop 79 = .ok (.iinc 4 1, 3) := by decide +kernel
theorem dX6_bestDrop_82 : decode cX6_bestDrop 82 = .ok (.goto (-75), 3) := by decide +kernel
theorem dX6_bestDrop_85 : decode cX6_bestDrop 85 = .ok (.iload_n 2, 1) := by decide +kernel
theorem dX6_bestDrop_86 : decode cX6_bestDrop 86 = .ok (.ireturn, 1) := by decide +kernel
theorem dX6_letterOf_0 : decode cX6_letterOf 0 = .ok (.iload_n 0, 1) := by decide +kernel
theorem dX6_letterOf_1 : decode cX6_letterOf 1 = .ok (.iconst 5, 1) := by decide +kernel
theorem dX6_letterOf_2 : decode cX6_letterOf 2 = .ok (.iload_n 1, 1) := by decide +kernel
theorem dX6_letterOf_3 : decode cX6_letterOf 3 = .ok (.imul, 1) := by decide +kernel
theorem dX6_letterOf_4 : decode cX6_letterOf 4 = .ok (.ishr, 1) := by decide +kernel
theorem dX6_letterOf_5 : decode cX6_letterOf 5 = .ok (.bipush 31, 2) := by decide +kernel
theorem dX6_letterOf_7 : decode cX6_letterOf 7 = .ok (.iand, 1) := by decide +kernel
theorem dX6_letterOf_8 : decode cX6_letterOf 8 = .ok (.ireturn, 1) := by decide +kernel
theorem dX6_lettersIn_0 : decode cX6_lettersIn 0 = .ok (.iconst 0, 1) := by decide +kernel
theorem dX6_lettersIn_1 : decode cX6_lettersIn 1 = .ok (.istore_n 1, 1) := by decide +kernel
theorem dX6_lettersIn_2 : decode cX6_lettersIn 2 = .ok (.iconst 0, 1) := by decide +kernel
theorem dX6_lettersIn_3 : decode cX6_lettersIn 3 = .ok (.istore_n 2, 1) := by decide +kernel
theorem dX6_lettersIn_4 : decode cX6_lettersIn 4 = .ok (.iload_n 2, 1) := by decide +kernel
theorem dX6_lettersIn_5 : decode cX6_lettersIn 5 = .ok (.bipush 6, 2) := by decide +kernel
theorem dX6_lettersIn_7 : decode cX6_lettersIn 7 = .ok (.if_icmp .ge 20, 3) := by decide +kernel
theorem dX6_lettersIn_10 : decode cX6_lettersIn 10 = .ok (.iload_n 0, 1) := by decide +kernel
theorem dX6_lettersIn_11 : decode cX6_lettersIn 11 = .ok (.iload_n 2, 1) := by decide +kernel
theorem dX6_lettersIn_12 : decode cX6_lettersIn 12 = .ok (.invokestatic 197, 3) := by decide +kernel
theorem dX6_lettersIn_15 : decode cX6_lettersIn 15 = .ok (.ifCond .eq 6, 3) := by decide +kernel
theorem dX6_lettersIn_18 : decode cX6_lettersIn 18 = .ok (.iinc 1 1, 3) := by decide +kernel
theorem dX6_lettersIn_21 : decode cX6_lettersIn 21 = .ok (.iinc 2 1, 3) := by decide +kernel
theorem dX6_lettersIn_24 : decode cX6_lettersIn 24 = .ok (.goto (-20), 3) := by decide +kernel
theorem dX6_lettersIn_27 : decode cX6_lettersIn 27 = .ok (.iload_n 1, 1) := by decide +kernel
theorem dX6_lettersIn_28 : decode cX6_lettersIn 28 = .ok (.ireturn, 1) := by decide +kernel
theorem dX6_widthOf_0 : decode cX6_widthOf 0 = .ok (.iconst 0, 1) := by decide +kernel
theorem dX6_widthOf_1 : decode cX6_widthOf 1 = .ok (.istore_n 1, 1) := by decide +kernel
theorem dX6_widthOf_2 : decode cX6_widthOf 2 = .ok (.iconst 0, 1) := by decide +kernel
theorem dX6_widthOf_3 : decode cX6_widthOf 3 = .ok (.istore_n 2, 1) := by decide +kernel
theorem dX6_widthOf_4 : decode cX6_widthOf 4 = .ok (.iload_n 2, 1) := by decide +kernel
theorem dX6_widthOf_5 : decode cX6_widthOf 5 = .ok (.bipush 6, 2) := by decide +kernel
theorem dX6_widthOf_7 : decode cX6_widthOf 7 = .ok (.if_icmp .ge 20, 3) := by decide +kernel
theorem dX6_widthOf_10 : decode cX6_widthOf 10 = .ok (.iload_n 1, 1) := by decide +kernel
theorem dX6_widthOf_11 : decode cX6_widthOf 11 = .ok (.iload_n 0, 1) := by decide +kernel
theorem dX6_widthOf_12 : decode cX6_widthOf 12 = .ok (.iload_n 2, 1) := by decide +kernel
theorem dX6_widthOf_13 : decode cX6_widthOf 13 = .ok (.invokestatic 197, 3) := by decide +kernel
theorem dX6_widthOf_16 : decode cX6_widthOf 16 = .ok (.invokestatic 296, 3) := by decide +kernel
theorem dX6_widthOf_19 : decode cX6_widthOf 19 = .ok (.iadd, 1) := by decide +kernel
theorem dX6_widthOf_20 : decode cX6_widthOf 20 = .ok (.istore_n 1, 1) := by decide +kernel
theorem dX6_widthOf_21 : decode cX6_widthOf 21 = .ok (.iinc 2 1, 3) := by decide +kernel
theorem dX6_widthOf_24 : decode cX6_widthOf 24 = .ok (.goto (-20), 3) := by decide +kernel
theorem dX6_widthOf_27 : decode cX6_widthOf 27 = .ok (.iload_n 1, 1) := by decide +kernel
theorem dX6_widthOf_28 : decode cX6_widthOf 28 = .ok (.ireturn, 1) := by decide +kernel
theorem dX6_letterWidth_0 : decode cX6_letterWidth 0 = .ok (.iload_n 0, 1) := by decide +kernel
theorem dX6_letterWidth_1 : decode cX6_letterWidth 1 = .ok (.tableswitch 117 0 23 #[111, 117, 117, 117, 117, 117, 117, 117, 117, 113, 113, 117, 113, 115, 117, 117, 117, 117, 117, 117, 113, 117, 117, 115], 111) := by decide +kernel
theorem dX6_letterWidth_112 : decode cX6_letterWidth 112 = .ok (.iconst 0, 1) := by decide +kernel
theorem dX6_letterWidth_113 : decode cX6_letterWidth 113 = .ok (.ireturn, 1) := by decide +kernel
theorem dX6_letterWidth_114 : decode cX6_letterWidth 114 = .ok (.iconst 1, 1) := by decide +kernel
theorem dX6_letterWidth_115 : decode cX6_letterWidth 115 = .ok (.ireturn, 1) := by decide +kernel
theorem dX6_letterWidth_116 : decode cX6_letterWidth 116 = .ok (.iconst 3, 1) := by decide +kernel
theorem dX6_letterWidth_117 : decode cX6_letterWidth 117 = .ok (.ireturn, 1) := by decide +kernel
theorem dX6_letterWidth_118 : decode cX6_letterWidth 118 = .ok (.iconst 2, 1) := by decide +kernel
theorem dX6_letterWidth_119 : decode cX6_letterWidth 119 = .ok (.ireturn, 1) := by decide +kernel
