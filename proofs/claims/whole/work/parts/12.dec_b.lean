theorem dX8_init_0 : decode cX8_init 0 = .ok (.aload_n 0, 1) := by decide +kernel
theorem dX8_init_1 : decode cX8_init 1 = .ok (.invokespecial 5, 3) := by decide +kernel
theorem dX8_init_4 : decode cX8_init 4 = .ok (.aload_n 0, 1) := by decide +kernel
theorem dX8_init_5 : decode cX8_init 5 = .ok (.new 11, 3) := by decide +kernel
theorem dX8_init_8 : decode cX8_init 8 = .ok (.dup, 1) := by decide +kernel
theorem dX8_init_9 : decode cX8_init 9 = .ok (.invokespecial 13, 3) := by decide +kernel
theorem dX8_init_12 : decode cX8_init 12 = .ok (.putfield 14, 3) := by decide +kernel
theorem dX8_init_15 : decode cX8_init 15 = .ok (.aload_n 0, 1) := by decide +kernel
theorem dX8_init_16 : decode cX8_init 16 = .ok (.new 11, 3) := by decide +kernel
theorem dX8_init_19 : decode cX8_init 19 = .ok (.dup, 1) := by decide +kernel
theorem dX8_init_20 : decode cX8_init 20 = .ok (.invokespecial 13, 3) := by decide +kernel
theorem dX8_init_23 : decode cX8_init 23 = .ok (.putfield 18, 3) := by decide +kernel
theorem dX8_init_26 : decode cX8_init 26 = .ok (.aload_n 0, 1) := by decide +kernel
theorem dX8_init_27 : decode cX8_init 27 = .ok (.new 21, 3) := by decide +kernel
theorem dX8_init_30 : decode cX8_init 30 = .ok (.dup, 1) := by decide +kernel
theorem dX8_init_31 : decode cX8_init 31 = .ok (.invokespecial 23, 3) := by decide +kernel
theorem dX8_init_34 : decode cX8_init 34 = .ok (.putfield 24, 3) := by decide +kernel
theorem dX8_init_37 : decode cX8_init 37 = .ok (.aload_n 0, 1) := by decide +kernel
theorem dX8_init_38 : decode cX8_init 38 = .ok (.new 28, 3) := by decide +kernel
theorem dX8_init_41 : decode cX8_init 41 = .ok (.dup, 1) := by decide +kernel
theorem dX8_init_42 : decode cX8_init 42 = .ok (.iconst 0, 1) := by decide +kernel
theorem dX8_init_43 : decode cX8_init 43 = .ok (.invokespecial 30, 3) := by decide +kernel
theorem dX8_init_46 : decode cX8_init 46 = .ok (.putfield 33, 3) := by decide +kernel
theorem dX8_init_49 : decode cX8_init 49 = .ok (.aload_n 0, 1) := by decide +kernel
theorem dX8_init_50 : decode cX8_init 50 = .ok (.new 28, 3) := by decide +kernel
theorem dX8_init_53 : decode cX8_init 53 = .ok (.dup, 1) := by decide +kernel
theorem dX8_init_54 : decode cX8_init 54 = .ok (.iconst 1, 1) := by decide +kernel
theorem dX8_init_55 : decode cX8_init 55 = .ok (.invokespecial 30, 3) := by decide +kernel
theorem dX8_init_58 : decode cX8_init 58 = .ok (.putfield 37, 3) := by decide +kernel
theorem dX8_init_61 : decode cX8_init 61 = .ok (.aload_n 0, 1) := by decide +kernel
theorem dX8_init_62 : decode cX8_init 62 = .ok (.new 28, 3) := by decide +kernel
theorem dX8_init_65 : decode cX8_init 65 = .ok (.dup, 1) := by decide +kernel
theorem dX8_init_66 : decode cX8_init 66 = .ok (.iconst 2, 1) := by decide +kernel
theorem dX8_init_67 : decode cX8_init 67 = .ok (.invokespecial 30, 3) := by decide +kernel
theorem dX8_init_70 : decode cX8_init 70 = .ok (.putfield 40, 3) := by decide +kernel
theorem dX8_init_73 : decode cX8_init 73 = .ok (.aload_n 0, 1) := by decide +kernel
theorem dX8_init_74 : decode cX8_init 74 = .ok (.new 43, 3) := by decide +kernel
theorem dX8_init_77 : decode cX8_init 77 = .ok (.dup, 1) := by decide +kernel
theorem dX8_init_78 : decode cX8_init 78 = .ok (.invokespecial 45, 3) := by decide +kernel
theorem dX8_init_81 : decode cX8_init 81 = .ok (.putfield 46, 3) := by decide +kernel
theorem dX8_init_84 : decode cX8_init 84 = .ok (.aload_n 0, 1) := by decide +kernel
theorem dX8_init_85 : decode cX8_init 85 = .ok (.iconst 4, 1) := by decide +kernel
theorem dX8_init_86 : decode cX8_init 86 = .ok (.anewarray 50, 3) := by decide +kernel
theorem dX8_init_89 : decode cX8_init 89 = .ok (.putfield 52, 3) := by decide +kernel
theorem dX8_init_92 : decode cX8_init 92 = .ok (.aload_n 0, 1) := by decide +kernel
theorem dX8_init_93 : decode cX8_init 93 = .ok (.iconst 5, 1) := by decide +kernel
theorem dX8_init_94 : decode cX8_init 94 = .ok (.anewarray 56, 3) := by decide +kernel
theorem dX8_init_97 : decode cX8_init 97 = .ok (.putfield 58, 3) := by decide +kernel
theorem dX8_init_100 : decode cX8_init 100 = .ok (.aload_n 0, 1) := by decide +kernel
theorem dX8_init_101 : decode cX8_init 101 = .ok (.bipush 60, 2) := by decide +kernel
theorem dX8_init_103 : decode cX8_init 103 = .ok (.newarray .int, 2) := by decide +kernel
theorem dX8_init_105 : decode cX8_init 105 = .ok (.putfield 62, 3) := by decide +kernel
theorem dX8_init_108 : decode cX8_init 108 = .ok (.iconst 0, 1) := by decide +kernel
theorem dX8_init_109 : decode cX8_init 109 = .ok (.istore_n 1, 1) := by decide +kernel
theorem dX8_init_110 : decode cX8_init 110 = .ok (.iload_n 1, 1) := by decide +kernel
theorem dX8_init_111 : decode cX8_init 111 = .ok (.iconst 4, 1) := by decide +kernel
theorem dX8_init_112 : decode cX8_init 112 = .ok (.if_icmp .ge 22, 3) := by decide +kernel
theorem dX8_init_115 : decode cX8_init 115 = .ok (.aload_n 0, 1) := by decide +kernel
theorem dX8_init_116 : decode cX8_init 116 = .ok (.getfield 52, 3) := by decide +kernel
theorem dX8_init_119 : decode cX8_init 119 = .ok (.iload_n 1, 1) := by decide +kernel
theorem dX8_init_120 : decode cX8_init 120 = .ok (.new 50, 3) := by decide +kernel
theorem dX8_init_123 : decode cX8_init 123 = .ok (.dup, 1) := by decide +kernel
theorem dX8_init_124 : decode cX8_init 124 = .ok (.invokespecial 66, 3) := by decide +kernel
theorem dX8_init_127 : decode cX8_init 127 = .ok (.aastore, 1) := by decide +kernel
theorem dX8_init_128 : decode cX8_init 128 = .ok (.iinc 1 1, 3) := by decide +kernel
theorem dX8_init_131 : decode cX8_init 131 = .ok (.goto (-21), 3) := by decide +kernel
theorem dX8_init_134 : decode cX8_init 134 = .ok (.iconst 0, 1) := by decide +kernel
theorem dX8_init_135 : decode cX8_init 135 = .ok (.istore_n 1, 1) := by decide +kernel
theorem dX8_init_136 : decode cX8_init 136 = .ok (.iload_n 1, 1) := by decide +kernel
theorem dX8_init_137 : decode cX8_init 137 = .ok (.iconst 5, 1) := by decide +kernel
theorem dX8_init_138 : decode cX8_init 138 = .ok (.if_icmp .ge 22, 3) := by decide +kernel
theorem dX8_init_141 : decode cX8_init 141 = .ok (.aload_n 0, 1) := by decide +kernel
theorem dX8_init_142 : decode cX8_init 142 = .ok (.getfield 58, 3) := by decide +kernel
theorem dX8_init_145 : decode cX8_init 145 = .ok (.iload_n 1, 1) := by decide +kernel
theorem dX8_init_146 : decode cX8_init 146 = .ok (.new 56, 3) := by decide +kernel
theorem dX8_init_149 : decode cX8_init 149 = .ok (.dup, 1) := by decide +kernel
theorem dX8_init_150 : decode cX8_init 150 = .ok (.invokespecial 67, 3) := by decide +kernel
theorem dX8_init_153 : decode cX8_init 153 = .ok (.aastore, 1) := by decide +kernel
theorem dX8_init_154 : decode cX8_init 154 = .ok (.iinc 1 1, 3) := by decide +kernel
theorem dX8_init_157 : decode cX8_init 157 = .ok (.goto (-21), 3) := by decide +kernel
theorem dX8_init_160 : decode cX8_init 160 = .ok (.return_, 1) := by decide +kernel
theorem dX8_stop_0 : decode cX8_stop 0 = .ok (.iload_n 1, 1) := by decide +kernel
theorem dX8_stop_1 : decode cX8_stop 1 = .ok (.iconst 0, 1) := by decide +kernel
theorem dX8_stop_2 : decode cX8_stop 2 = .ok (.bipush 99, 2) := by decide +kernel
theorem dX8_stop_4 : decode cX8_stop 4 = .ok (.invokestatic 68, 3) := by decide +kernel
theorem dX8_stop_7 : decode cX8_stop 7 = .ok (.ifCond .ne 6, 3) := by decide +kernel
theorem dX8_stop_10 : decode cX8_stop 10 = .ok (.ldc 72, 2) := by decide +kernel
theorem dX8_stop_12 : decode cX8_stop 12 = .ok (.ireturn, 1) := by decide +kernel
theorem dX8_stop_13 : decode cX8_stop 13 = .ok (.aload_n 0, 1) := by decide +kernel
theorem dX8_stop_14 : decode cX8_stop 14 = .ok (.getfield 14, 3) := by decide +kernel
theorem dX8_stop_17 : decode cX8_stop 17 = .ok (.getfield 73, 3) := by decide +kernel
theorem dX8_stop_20 : decode cX8_stop 20 = .ok (.bipush 6, 2) := by decide +kernel
theorem dX8_stop_22 : decode cX8_stop 22 = .ok (.if_icmp .lt 6, 3) := by decide +kernel
theorem dX8_stop_25 : decode cX8_stop 25 = .ok (.ldc 77, 2) := by decide +kernel
theorem dX8_stop_27 : decode cX8_stop 27 = .ok (.ireturn, 1) := by decide +kernel
theorem dX8_stop_28 : decode cX8_stop 28 = .ok (.aload_n 0, 1) := by decide +kernel
theorem dX8_stop_29 : decode cX8_stop 29 = .ok (.getfield 14, 3) := by decide +kernel
theorem dX8_stop_32 : decode cX8_stop 32 = .ok (.getfield 78, 3) := by decide +kernel
theorem dX8_stop_35 : decode cX8_stop 35 = .ok (.aload_n 0, 1) := by decide +kernel
theorem dX8_stop_36 : decode cX8_stop 36 = .ok (.getfield 14, 3) := by decide +kernel
theorem dX8_stop_39 : decode cX8_stop 39 = .ok (.getfield 73, 3) := by decide +kernel
theorem dX8_stop_42 : decode cX8_stop 42 = .ok (.iload_n 1, 1) := by decide +kernel
theorem dX8_stop_43 : decode cX8_stop 43 = .ok (.iastore, 1) := by decide +kernel
theorem dX8_stop_44 : decode cX8_stop 44 = .ok (.aload_n 0, 1) := by decide +kernel
theorem dX8_stop_45 : decode cX8_stop 45 = .ok (.getfield 14, 3) := by decide +kernel
theorem dX8_stop_48 : decode cX8_stop 48 = .ok (.dup, 1) := by decide +kernel
theorem dX8_stop_49 : decode cX8_stop 49 = .ok (.getfield 73, 3) := by decide +kernel
theorem dX8_stop_52 : decode cX8_stop 52 = .ok (.iconst 1, 1) := by decide +kernel
theorem dX8_stop_53 : decode cX8_stop 53 = .ok (.iadd, 1) := by decide +kernel
theorem dX8_stop_54 : decode cX8_stop 54 = .ok (.putfield 73, 3) := by decide +kernel
theorem dX8_stop_57 : decode cX8_stop 57 = .ok (.aload_n 0, 1) := by decide +kernel
theorem dX8_stop_58 : decode cX8_stop 58 = .ok (.invokevirtual 81, 3) := by decide +kernel
theorem dX8_stop_61 : decode cX8_stop 61 = .ok (.aload_n 0, 1) := by decide +kernel
theorem dX8_stop_62 : decode cX8_stop 62 = .ok (.getfield 14, 3) := by decide +kernel
theorem dX8_stop_65 : decode cX8_stop 65 = .ok (.getfield 73, 3) := by decide +kernel
theorem dX8_stop_68 : decode cX8_stop 68 = .ok (.iconst 1, 1) := by decide +kernel
theorem dX8_stop_69 : decode cX8_stop 69 = .ok (.isub, 1) := by decide +kernel
theorem dX8_stop_70 : decode cX8_stop 70 = .ok (.ireturn, 1) := by decide +kernel
theorem dX8_walk_0 : decode cX8_walk 0 = .ok (.aload_n 0, 1) := by decide +kernel
theorem dX8_walk_1 : decode cX8_walk 1 = .ok (.getfield 14, 3) := by decide +kernel
theorem dX8_walk_4 : decode cX8_walk 4 = .ok (.iload_n 1, 1) := by decide +kernel
theorem dX8_walk_5 : decode cX8_walk 5 = .ok (.invokevirtual 84, 3) := by decide +kernel
theorem dX8_walk_8 : decode cX8_walk 8 = .ok (.ifCond .ne 6, 3) := by decide +kernel
theorem dX8_walk_11 : decode cX8_walk 11 = .ok (.ldc 72, 2) := by decide +kernel
theorem dX8_walk_13 : decode cX8_walk 13 = .ok (.ireturn, 1) := by decide +kernel
theorem dX8_walk_14 : decode cX8_walk 14 = .ok (.aload_n 0, 1) := by decide +kernel
theorem dX8_walk_15 : decode cX8_walk 15 = .ok (.getfield 24, 3) := by decide +kernel
theorem dX8_walk_18 : decode cX8_walk 18 = .ok (.aload_n 0, 1) := by decide +kernel
theorem dX8_walk_19 : decode cX8_walk 19 = .ok (.getfield 14, 3) := by decide +kernel
theorem dX8_walk_22 : decode cX8_walk 22 = .ok (.invokevirtual 88, 3) := by decide +kernel
theorem dX8_walk_25 : decode cX8_walk 25 = .ok (.aload_n 0, 1) := by decide +kernel
theorem dX8_walk_26 : decode cX8_walk 26 = .ok (.getfield 24, 3) := by decide +kernel
theorem dX8_walk_29 : decode cX8_walk 29 = .ok (.getfield 92, 3) := by decide +kernel
theorem dX8_walk_32 : decode cX8_walk 32 = .ok (.iload_n 1, 1) := by decide +kernel
theorem dX8_walk_33 : decode cX8_walk 33 = .ok (.iaload, 1) := by decide +kernel
theorem dX8_walk_34 : decode cX8_walk 34 = .ok (.ireturn, 1) := by decide +kernel
theorem dX8_train_0 : decode cX8_train 0 = .ok (.iload_n 2, 1) := by decide +kernel
theorem dX8_train_1 : decode cX8_train 1 = .ok (.bipush 10, 2) := by decide +kernel
theorem dX8_train_3 : decode cX8_train 3 = .ok (.idiv, 1) := by decide +kernel
theorem dX8_train_4 : decode cX8_train 4 = .ok (.istore 5, 2) := by decide +kernel
theorem dX8_train_6 : decode cX8_train 6 = .ok (.iload_n 2, 1) := by decide +kernel
theorem dX8_train_7 : decode cX8_train 7 = .ok (.bipush 10, 2) := by decide +kernel
theorem dX8_train_9 : decode cX8_train 9 = .ok (.irem, 1) := by decide +kernel
theorem dX8_train_10 : decode cX8_train 10 = .ok (.istore 6, 2) := by decide +kernel
theorem dX8_train_12 : decode cX8_train 12 = .ok (.iload_n 1, 1) := by decide +kernel
theorem dX8_train_13 : decode cX8_train 13 = .ok (.invokestatic 93, 3) := by decide +kernel
theorem dX8_train_16 : decode cX8_train 16 = .ok (.ifCond .eq 38, 3) := by decide +kernel
theorem dX8_train_19 : decode cX8_train 19 = .ok (.aload_n 0, 1) := by decide +kernel
theorem dX8_train_20 : decode cX8_train 20 = .ok (.getfield 14, 3) := by decide +kernel
theorem dX8_train_23 : decode cX8_train 23 = .ok (.iload 5, 2) := by decide +kernel
theorem dX8_train_25 : decode cX8_train 25 = .ok (.invokevirtual 84, 3) := by decide +kernel
theorem dX8_train_28 : decode cX8_train 28 = .ok (.ifCond .eq 26, 3) := by decide +kernel
theorem dX8_train_31 : decode cX8_train 31 = .ok (.aload_n 0, 1) := by decide +kernel
theorem dX8_train_32 : decode cX8_train 32 = .ok (.getfield 14, 3) := by decide +kernel
theorem dX8_train_35 : decode cX8_train 35 = .ok (.iload 6, 2) := by decide +kernel
theorem dX8_train_37 : decode cX8_train 37 = .ok (.invokevirtual 84, 3) := by decide +kernel
theorem dX8_train_40 : decode cX8_train 40 = .ok (.ifCond .eq 14, 3) := by decide +kernel
theorem dX8_train_43 : decode cX8_train 43 = .ok (.iload 5, 2) := by decide +kernel
theorem dX8_train_45 : decode cX8_train 45 = .ok (.iload 6, 2) := by decide +kernel
theorem dX8_train_47 : decode cX8_train 47 = .ok (.if_icmp .eq 7, 3) := by decide +kernel
theorem dX8_train_50 : decode cX8_train 50 = .ok (.iconst 1, 1) := by decide +kernel
theorem dX8_train_51 : decode cX8_train 51 = .ok (.goto 4, 3) := by decide +kernel
theorem dX8_train_54 : decode cX8_train 54 = .ok (.iconst 0, 1) := by decide +kernel
theorem dX8_train_55 : decode cX8_train 55 = .ok (.istore 7, 2) := by decide +kernel
theorem dX8_train_57 : decode cX8_train 57 = .ok (.iload 7, 2) := by decide +kernel
theorem dX8_train_59 : decode cX8_train 59 = .ok (.ifCond .eq 18, 3) := by decide +kernel
theorem dX8_train_62 : decode cX8_train 62 = .ok (.iload_n 3, 1) := by decide +kernel
theorem dX8_train_63 : decode cX8_train 63 = .ok (.invokestatic 96, 3) := by decide +kernel
theorem dX8_train_66 : decode cX8_train 66 = .ok (.ifCond .eq 11, 3) := by decide +kernel
theorem dX8_train_69 : decode cX8_train 69 = .ok (.iload 4, 2) := by decide +kernel
theorem dX8_train_71 : decode cX8_train 71 = .ok (.invokestatic 99, 3) := by decide +kernel
theorem dX8_train_74 : decode cX8_train 74 = .ok (.ifCond .ne 6, 3) := by decide +kernel
theorem dX8_train_77 : decode cX8_train 77 = .ok (.ldc 72, 2) := by decide +kernel
theorem dX8_train_79 : decode cX8_train 79 = .ok (.ireturn, 1) := by decide +kernel
theorem dX8_train_80 : decode cX8_train 80 = .ok (.aload_n 0, 1) := by decide +kernel
theorem dX8_train_81 : decode cX8_train 81 = .ok (.getfield 14, 3) := by decide +kernel
theorem dX8_train_84 : decode cX8_train 84 = .ok (.getfield 102, 3) := by decide +kernel
theorem dX8_train_87 : decode cX8_train 87 = .ok (.bipush 12, 2) := by decide +kernel
theorem dX8_train_89 : decode cX8_train 89 = .ok (.if_icmp .lt 6, 3) := by decide +kernel
theorem dX8_train_92 : decode cX8_train 92 = .ok (.ldc 77, 2) := by decide +kernel
theorem dX8_train_94 : decode cX8_train 94 = .ok (.ireturn, 1) := by decide +kernel
theorem dX8_train_95 : decode cX8_train 95 = .ok (.aload_n 0, 1) := by decide +kernel
theorem dX8_train_96 : decode cX8_train 96 = .ok (.getfield 14, 3) := by decide +kernel
theorem dX8_train_99 : decode cX8_train 99 = .ok (.getfield 105, 3) := by decide +kernel
theorem dX8_train_102 : decode cX8_train 102 = .ok (.aload_n 0, 1) := by decide +kernel
theorem dX8_train_103 : decode cX8_train 103 = .ok (.getfield 14, 3) := by decide +kernel
theorem dX8_train_106 : decode cX8_train 106 = .ok (.getfield 102, 3) := by decide +kernel
theorem dX8_train_109 : decode cX8_train 109 = .ok (.aaload, 1) := by decide +kernel
theorem dX8_train_110 : decode cX8_train 110 = .ok (.astore 8, 2) := by decide +kernel
theorem dX8_train_112 : decode cX8_train 112 = .ok (.aload 8, 2) := by decide +kernel
theorem dX8_train_114 : decode cX8_train 114 = .ok (.iload_n 1, 1) := by decide +kernel
theorem dX8_train_115 : decode cX8_train 115 = .ok (.iload 5, 2) := by decide +kernel
theorem dX8_train_117 : decode cX8_train 117 = .ok (.iload 6, 2) := by decide +kernel
theorem dX8_train_119 : decode cX8_train 119 = .ok (.invokevirtual 109, 3) := by decide +kernel
theorem dX8_train_122 : decode cX8_train 122 = .ok (.aload 8, 2) := by decide +kernel
theorem dX8_train_124 : decode cX8_train 124 = .ok (.iload_n 3, 1) := by decide +kernel
theorem dX8_train_125 : decode cX8_train 125 = .ok (.putfield 115, 3) := by decide +kernel
theorem dX8_train_128 : decode cX8_train 128 = .ok (.aload 8, 2) := by decide +kernel
theorem dX8_train_130 : decode cX8_train 130 = .ok (.iload 4, 2) := by decide +kernel
theorem dX8_train_132 : decode cX8_train 132 = .ok (.putfield 118, 3) := by decide +kernel
theorem dX8_train_135 : decode cX8_train 135 = .ok (.aload_n 0, 1) := by decide +kernel
theorem dX8_train_136 : decode cX8_train 136 = .ok (.getfield 14, 3) := by decide +kernel
theorem dX8_train_139 : decode cX8_train 139 = .ok (.dup, 1) := by decide +kernel
theorem dX8_train_140 : decode cX8_train 140 = .ok (.getfield 102, 3) := by decide +kernel
theorem dX8_train_143 : decode cX8_train 143 = .ok (.iconst 1, 1) := by decide +kernel
theorem dX8_train_144 : decode cX8_train 144 = .ok (.iadd, 1) := by decide +kernel
theorem dX8_train_145 : decode cX8_train 145 = .ok (.putfield 102, 3) := by decide +kernel
theorem dX8_train_148 : decode cX8_train 148 = .ok (.aload_n 0, 1) := by decide +kernel
theorem dX8_train_149 : decode cX8_train 149 = .ok (.invokevirtual 81, 3) := by decide +kernel
theorem dX8_train_152 : decode cX8_train 152 = .ok (.aload_n 0, 1) := by decide +kernel
theorem dX8_train_153 : decode cX8_train 153 = .ok (.getfield 14, 3) := by decide +kernel
theorem dX8_train_156 : decode cX8_train 156 = .ok (.getfield 102, 3) := by decide +kernel
theorem dX8_train_159 : decode cX8_train 159 = .ok (.iconst 1, 1) := by decide +kernel
theorem dX8_train_160 : decode cX8_train 160 = .ok (.isub, 1) := by decide +kernel
theorem dX8_train_161 : decode cX8_train 161 = .ok (.ireturn, 1) := by decide +kernel
theorem dX8_told_0 : decode cX8_told 0 = .ok (.aload_n 0, 1) := by decide +kernel
theorem dX8_told_1 : decode cX8_told 1 = .ok (.getfield 14, 3) := by decide +kernel
theorem dX8_told_4 : decode cX8_told 4 = .ok (.iload_n 1, 1) := by decide +kernel
theorem dX8_told_5 : decode cX8_told 5 = .ok (.invokevirtual 121, 3) := by decide +kernel
theorem dX8_told_8 : decode cX8_told 8 = .ok (.ifCond .eq 13, 3) := by decide +kernel
theorem dX8_told_11 : decode cX8_told 11 = .ok (.iload_n 2, 1) := by decide +kernel
theorem dX8_told_12 : decode cX8_told 12 = .ok (.iconst 0, 1) := by decide +kernel
theorem dX8_told_13 : decode cX8_told 13 = .ok (.bipush 17, 2) := by decide +kernel
theorem dX8_told_15 : decode cX8_told 15 = .ok (.invokestatic 68, 3) := by decide +kernel
theorem dX8_told_18 : decode cX8_told 18 = .ok (.ifCond .ne 6, 3) := by decide +kernel
theorem dX8_told_21 : decode cX8_told 21 = .ok (.ldc 72, 2) := by decide +kernel
theorem dX8_told_23 : decode cX8_told 23 = .ok (.ireturn, 1) := by decide +kernel
theorem dX8_told_24 : decode cX8_told 24 = .ok (.aload_n 0, 1) := by decide +kernel
theorem dX8_told_25 : decode cX8_told 25 = .ok (.getfield 14, 3) := by decide +kernel
theorem dX8_told_28 : decode cX8_told 28 = .ok (.getfield 105, 3) := by decide +kernel
theorem dX8_told_31 : decode cX8_told 31 = .ok (.iload_n 1, 1) := by decide +kernel
theorem dX8_told_32 : decode cX8_told 32 = .ok (.aaload, 1) := by decide +kernel
theorem dX8_told_33 : decode cX8_told 33 = .ok (.astore_n 3, 1) := by decide +kernel
theorem dX8_told_34 : decode cX8_told 34 = .ok (.iload_n 2, 1) := by decide +kernel
theorem dX8_told_35 : decode cX8_told 35 = .ok (.bipush 14, 2) := by decide +kernel
theorem dX8_told_37 : decode cX8_told 37 = .ok (.if_icmp .lt 27, 3) := by decide +kernel
theorem dX8_told_40 : decode cX8_told 40 = .ok (.aload_n 0, 1) := by decide +kernel
theorem dX8_told_41 : decode cX8_told 41 = .ok (.getfield 24, 3) := by decide +kernel
theorem dX8_told_44 : decode cX8_told 44 = .ok (.aload_n 0, 1) := by decide +kernel
theorem dX8_told_45 : decode cX8_told 45 = .ok (.getfield 14, 3) := by decide +kernel
theorem dX8_told_48 : decode cX8_told 48 = .ok (.invokevirtual 88, 3) := by decide +kernel
theorem dX8_told_51 : decode cX8_told 51 = .ok (.aload_n 0, 1) := by decide +kernel
theorem dX8_told_52 : decode cX8_told 52 = .ok (.getfield 24, 3) := by decide +kernel
theorem dX8_told_55 : decode cX8_told 55 = .ok (.iload_n 1, 1) := by decide +kernel
theorem dX8_told_56 : decode cX8_told 56 = .ok (.iload_n 2, 1) := by decide +kernel
theorem dX8_told_57 : decode cX8_told 57 = .ok (.bipush 14, 2) := by decide +kernel
theorem dX8_told_59 : decode cX8_told 59 = .ok (.isub, 1) := by decide +kernel
theorem dX8_told_60 : decode cX8_told 60 = .ok (.invokevirtual 124, 3) := by decide +kernel
theorem dX8_told_63 : decode cX8_told 63 = .ok (.ireturn, 1) := by decide +kernel
theorem dX8_told_64 : decode cX8_told 64 = .ok (.iload_n 2, 1) := by decide +kernel
theorem dX8_told_65 : decode cX8_told 65 = .ok (.bipush 10, 2) := by decide +kernel
theorem dX8_told_67 : decode cX8_told 67 = .ok (.if_icmp .lt 13, 3) := by decide +kernel
theorem dX8_told_70 : decode cX8_told 70 = .ok (.aload_n 3, 1) := by decide +kernel
theorem dX8_told_71 : decode cX8_told 71 = .ok (.getfield 128, 3) := by decide +kernel
theorem dX8_told_74 : decode cX8_told 74 = .ok (.iload_n 2, 1) := by decide +kernel
theorem dX8_told_75 : decode cX8_told 75 = .ok (.bipush 10, 2) := by decide +kernel
theorem dX8_told_77 : decode cX8_told 77 = .ok (.isub, 1) := by decide +kernel
theorem dX8_told_78 : decode cX8_told 78 = .ok (.iaload, 1) := by decide +kernel
theorem dX8_told_79 : decode cX8_told 79 = .ok (.ireturn, 1) := by decide +kernel
theorem dX8_told_80 : decode cX8_told 80 = .ok (.iload_n 2, 1) := by decide +kernel
theorem dX8_told_81 : decode cX8_told 81 = .ok (.bipush 7, 2) := by decide +kernel
theorem dX8_told_83 : decode cX8_told 83 = .ok (.if_icmp .eq 9, 3) := by decide +kernel
theorem dX8_told_86 : decode cX8_told 86 = .ok (.iload_n 2, 1) := by decide +kernel
theorem dX8_told_87 : decode cX8_told 87 = .ok (.bipush 8, 2) := by decide +kernel
theorem dX8_told_89 : decode cX8_told 89 = .ok (.if_icmp .ne 42, 3) := by decide +kernel
theorem dX8_told_92 : decode cX8_told 92 = .ok (.aload_n 0, 1) := by decide +kernel
theorem dX8_told_93 : decode cX8_told 93 = .ok (.getfield 24, 3) := by decide +kernel
theorem dX8_told_96 : decode cX8_told 96 = .ok (.aload_n 0, 1) := by decide +kernel
theorem dX8_told_97 : decode cX8_told 97 = .ok (.getfield 14, 3) := by decide +kernel
theorem dX8_told_100 : decode cX8_told 100 = .ok (.invokevirtual 88, 3) := by decide +kernel
theorem dX8_told_103 : decode cX8_told 103 = .ok (.iload_n 2, 1) := by decide +kernel
theorem dX8_told_104 : decode cX8_told 104 = .ok (.bipush 7, 2) := by decide +kernel
theorem dX8_told_106 : decode cX8_told 106 = .ok (.if_icmp .ne 15, 3) := by decide +kernel
theorem dX8_told_109 : decode cX8_told 109 = .ok (.aload_n 0, 1) := by decide +kernel
theorem dX8_told_110 : decode cX8_told 110 = .ok (.getfield 24, 3) := by decide +kernel
theorem dX8_told_113 : decode cX8_told 113 = .ok (.getfield 131, 3) := by decide +kernel
theorem dX8_told_116 : decode cX8_told 116 = .ok (.iload_n 1, 1) := by decide +kernel
theorem dX8_told_117 : decode cX8_told 117 = .ok (.iaload, 1) := by decide +kernel
theorem dX8_told_118 : decode cX8_told 118 = .ok (.goto 12, 3) := by decide +kernel
theorem dX8_told_121 : decode cX8_told 121 = .ok (.aload_n 0, 1) := by decide +kernel
theorem dX8_told_122 : decode cX8_told 122 = .ok (.getfield 24, 3) := by decide +kernel
theorem dX8_told_125 : decode cX8_told 125 = .ok (.getfield 134, 3) := by decide +kernel
theorem dX8_told_128 : decode cX8_told 128 = .ok (.iload_n 1, 1) := by decide +kernel
theorem dX8_told_129 : decode cX8_told 129 = .ok (.iaload, 1) := by decide +kernel
theorem dX8_told_130 : decode cX8_told 130 = .ok (.ireturn, 1) := by decide +kernel
theorem dX8_told_131 : decode cX8_told 131 = .ok (.aload_n 3, 1) := by decide +kernel
theorem dX8_told_132 : decode cX8_told 132 = .ok (.iload_n 2, 1) := by decide +kernel
theorem dX8_told_133 : decode cX8_told 133 = .ok (.invokevirtual 137, 3) := by decide +kernel
theorem dX8_told_136 : decode cX8_told 136 = .ok (.ireturn, 1) := by decide +kernel
theorem dX8_as_0 : decode cX8_as 0 = .ok (.aload_n 0, 1) := by decide +kernel
theorem dX8_as_1 : decode cX8_as 1 = .ok (.getfield 14, 3) := by decide +kernel
theorem dX8_as_4 : decode cX8_as 4 = .ok (.iload_n 1, 1) := by decide +kernel
theorem dX8_as_5 : decode cX8_as 5 = .ok (.invokevirtual 121, 3) := by decide +kernel
theorem dX8_as_8 : decode cX8_as 8 = .ok (.ifCond .eq 10, 3) := by decide +kernel
theorem dX8_as_11 : decode cX8_as 11 = .ok (.iload_n 2, 1) := by decide +kernel
theorem dX8_as_12 : decode cX8_as 12 = .ok (.invokestatic 93, 3) := by decide +kernel
theorem dX8_as_15 : decode cX8_as 15 = .ok (.ifCond .ne 6, 3) := by decide +kernel
theorem dX8_as_18 : decode cX8_as 18 = .ok (.ldc 72, 2) := by decide +kernel
theorem dX8_as_20 : decode cX8_as 20 = .ok (.ireturn, 1) := by decide +kernel
theorem dX8_as_21 : decode cX8_as 21 = .ok (.aload_n 0, 1) := by decide +kernel
theorem dX8_as_22 : decode cX8_as 22 = .ok (.getfield 14, 3) := by decide +kernel
theorem dX8_as_25 : decode cX8_as 25 = .ok (.getfield 105, 3) := by decide +kernel
theorem dX8_as_28 : decode cX8_as 28 = .ok (.iload_n 1, 1) := by decide +kernel
theorem dX8_as_29 : decode cX8_as 29 = .ok (.aaload, 1) := by decide +kernel
theorem dX8_as_30 : decode cX8_as 30 = .ok (.getfield 141, 3) := by decide +kernel
theorem dX8_as_33 : decode cX8_as 33 = .ok (.iload_n 2, 1) := by decide +kernel
theorem dX8_as_34 : decode cX8_as 34 = .ok (.invokestatic 144, 3) := by decide +kernel
theorem dX8_as_37 : decode cX8_as 37 = .ok (.ifCond .eq 18, 3) := by decide +kernel
theorem dX8_as_40 : decode cX8_as 40 = .ok (.aload_n 0, 1) := by decide +kernel
theorem dX8_as_41 : decode cX8_as 41 = .ok (.getfield 14, 3) := by decide +kernel
theorem dX8_as_44 : decode cX8_as 44 = .ok (.getfield 105, 3) := by decide +kernel
theorem dX8_as_47 : decode cX8_as 47 = .ok (.iload_n 1, 1) := by decide +kernel
theorem dX8_as_48 : decode cX8_as 48 = .ok (.aaload, 1) := by decide +kernel
theorem dX8_as_49 : decode cX8_as 49 = .ok (.getfield 115, 3) := by decide +kernel
theorem dX8_as_52 : decode cX8_as 52 = .ok (.goto 5, 3) := by decide +kernel
theorem dX8_as_55 : decode cX8_as 55 = .ok (.ldc 148, 2) := by decide +kernel
theorem dX8_as_57 : decode cX8_as 57 = .ok (.ireturn, 1) := by decide +kernel
theorem dX8_turns_0 : decode cX8_turns 0 = .ok (.aload_n 0, 1) := by decide +kernel
theorem dX8_turns_1 : decode cX8_turns 1 = .ok (.getfield 14, 3) := by decide +kernel
theorem dX8_turns_4 : decode cX8_turns 4 = .ok (.iload_n 1, 1) := by decide +kernel
theorem dX8_turns_5 : decode cX8_turns 5 = .ok (.invokevirtual 121, 3) := by decide +kernel
theorem dX8_turns_8 : decode cX8_turns 8 = .ok (.ifCond .eq 10, 3) := by decide +kernel
theorem dX8_turns_11 : decode cX8_turns 11 = .ok (.iload_n 2, 1) := by decide +kernel
theorem dX8_turns_12 : decode cX8_turns 12 = .ok (.invokestatic 93, 3) := by decide +kernel
theorem dX8_turns_15 : decode cX8_turns 15 = .ok (.ifCond .ne 6, 3) := by decide +kernel
theorem dX8_turns_18 : decode cX8_turns 18 = .ok (.ldc 72, 2) := by decide +kernel
theorem dX8_turns_20 : decode cX8_turns 20 = .ok (.ireturn, 1) := by decide +kernel
theorem dX8_turns_21 : decode cX8_turns 21 = .ok (.aload_n 0, 1) := by decide +kernel
theorem dX8_turns_22 : decode cX8_turns 22 = .ok (.getfield 14, 3) := by decide +kernel
theorem dX8_turns_25 : decode cX8_turns 25 = .ok (.getfield 105, 3) := by decide +kernel
theorem dX8_turns_28 : decode cX8_turns 28 = .ok (.iload_n 1, 1) := by decide +kernel
theorem dX8_turns_29 : decode cX8_turns 29 = .ok (.aaload, 1) := by decide +kernel
theorem dX8_turns_30 : decode cX8_turns 30 = .ok (.getfield 141, 3) := by decide +kernel
theorem dX8_turns_33 : decode cX8_turns 33 = .ok (.istore_n 3, 1) := by decide +kernel
theorem dX8_turns_34 : decode cX8_turns 34 = .ok (.aload_n 0, 1) := by decide +kernel
theorem dX8_turns_35 : decode cX8_turns 35 = .ok (.getfield 14, 3) := by decide +kernel
theorem dX8_turns_38 : decode cX8_turns 38 = .ok (.getfield 105, 3) := by decide +kernel
theorem dX8_turns_41 : decode cX8_turns 41 = .ok (.iload_n 1, 1) := by decide +kernel
theorem dX8_turns_42 : decode cX8_turns 42 = .ok (.aaload, 1) := by decide +kernel
theorem dX8_turns_43 : decode cX8_turns 43 = .ok (.iload_n 2, 1) := by decide +kernel
theorem dX8_turns_44 : decode cX8_turns 44 = .ok (.putfield 141, 3) := by decide +kernel
theorem dX8_turns_47 : decode cX8_turns 47 = .ok (.aload_n 0, 1) := by decide +kernel
theorem dX8_turns_48 : decode cX8_turns 48 = .ok (.invokevirtual 81, 3) := by decide +kernel
theorem dX8_turns_51 : decode cX8_turns 51 = .ok (.iload_n 3, 1) := by decide +kernel
theorem dX8_turns_52 : decode cX8_turns 52 = .ok (.ireturn, 1) := by decide +kernel
theorem dX8_set_0 : decode cX8_set 0 = .ok (.aload_n 0, 1) := by decide +kernel
theorem dX8_set_1 : decode cX8_set 1 = .ok (.getfield 14, 3) := by decide +kernel
theorem dX8_set_4 : decode cX8_set 4 = .ok (.iload_n 1, 1) := by decide +kernel
theorem dX8_set_5 : decode cX8_set 5 = .ok (.invokevirtual 121, 3) := by decide +kernel
theorem dX8_set_8 : decode cX8_set 8 = .ok (.ifCond .ne 6, 3) := by decide +kernel
theorem dX8_set_11 : decode cX8_set 11 = .ok (.ldc 72, 2) := by decide +kernel
theorem dX8_set_13 : decode cX8_set 13 = .ok (.ireturn, 1) := by decide +kernel
theorem dX8_set_14 : decode cX8_set 14 = .ok (.aload_n 0, 1) := by decide +kernel
theorem dX8_set_15 : decode cX8_set 15 = .ok (.getfield 14, 3) := by decide +kernel
theorem dX8_set_18 : decode cX8_set 18 = .ok (.getfield 105, 3) := by decide +kernel
theorem dX8_set_21 : decode cX8_set 21 = .ok (.iload_n 1, 1) := by decide +kernel
theorem dX8_set_22 : decode cX8_set 22 = .ok (.aaload, 1) := by decide +kernel
theorem dX8_set_23 : decode cX8_set 23 = .ok (.astore 4, 2) := by decide +kernel
theorem dX8_set_25 : decode cX8_set 25 = .ok (.iload_n 2, 1) := by decide +kernel
theorem dX8_set_26 : decode cX8_set 26 = .ok (.ifCond .ne 30, 3) := by decide +kernel
theorem dX8_set_29 : decode cX8_set 29 = .ok (.iload_n 3, 1) := by decide +kernel
theorem dX8_set_30 : decode cX8_set 30 = .ok (.iconst 0, 1) := by decide +kernel
theorem dX8_set_31 : decode cX8_set 31 = .ok (.sipush 999, 3) := by decide +kernel
theorem dX8_set_34 : decode cX8_set 34 = .ok (.invokestatic 68, 3) := by decide +kernel
theorem dX8_set_37 : decode cX8_set 37 = .ok (.ifCond .eq 19, 3) := by decide +kernel
theorem dX8_set_40 : decode cX8_set 40 = .ok (.aload 4, 2) := by decide +kernel
theorem dX8_set_42 : decode cX8_set 42 = .ok (.getfield 149, 3) := by decide +kernel
theorem dX8_set_45 : decode cX8_set 45 = .ok (.istore 5, 2) := by decide +kernel
theorem dX8_set_47 : decode cX8_set 47 = .ok (.aload 4, 2) := by decide +kernel
theorem dX8_set_49 : decode cX8_set 49 = .ok (.iload_n 3, 1) := by decide +kernel
theorem dX8_set_50 : decode cX8_set 50 = .ok (.putfield 149, 3) := by decide +kernel
theorem dX8_set_53 : decode cX8_set 53 = .ok (.goto 62, 3) := by decide +kernel
theorem dX8_set_56 : decode cX8_set 56 = .ok (.iload_n 2, 1) := by decide +kernel
theorem dX8_set_57 : decode cX8_set 57 = .ok (.iconst 1, 1) := by decide +kernel
theorem dX8_set_58 : decode cX8_set 58 = .ok (.if_icmp .ne 26, 3) := by decide +kernel
theorem dX8_set_61 : decode cX8_set 61 = .ok (.iload_n 3, 1) := by decide +kernel
theorem dX8_set_62 : decode cX8_set 62 = .ok (.invokestatic 96, 3) := by decide +kernel
theorem dX8_set_65 : decode cX8_set 65 = .ok (.ifCond .eq 19, 3) := by decide +kernel
theorem dX8_set_68 : decode cX8_set 68 = .ok (.aload 4, 2) := by decide +kernel
theorem dX8_set_70 : decode cX8_set 70 = .ok (.getfield 115, 3) := by decide +kernel
theorem dX8_set_73 : decode cX8_set 73 = .ok (.istore 5, 2) := by decide +kernel
theorem dX8_set_75 : decode cX8_set 75 = .ok (.aload 4, 2) := by decide +kernel
theorem dX8_set_77 : decode cX8_set 77 = .ok (.iload_n 3, 1) := by decide +kernel
theorem dX8_set_78 : decode cX8_set 78 = .ok (.putfield 115, 3) := by decide +kernel
theorem dX8_set_81 : decode cX8_set 81 = .ok (.goto 34, 3) := by decide +kernel
theorem dX8_set_84 : decode cX8_set 84 = .ok (.iload_n 2, 1) := by decide +kernel
theorem dX8_set_85 : decode cX8_set 85 = .ok (.iconst 2, 1) := by decide +kernel
theorem dX8_set_86 : decode cX8_set 86 = .ok (.if_icmp .ne 26, 3) := by decide +kernel
theorem dX8_set_89 : decode cX8_set 89 = .ok (.iload_n 3, 1) := by decide +kernel
theorem dX8_set_90 : decode cX8_set 90 = .ok (.invokestatic 99, 3) := by decide +kernel
theorem dX8_set_93 : decode cX8_set 93 = .ok (.ifCond .eq 19, 3) := by decide +kernel
theorem dX8_set_96 : decode cX8_set 96 = .ok (.aload 4, 2) := by decide +kernel
theorem dX8_set_98 : decode cX8_set 98 = .ok (.getfield 118, 3) := by decide +kernel
theorem dX8_set_101 : decode cX8_set 101 = .ok (.istore 5, 2) := by decide +kernel
theorem dX8_set_103 : decode cX8_set 103 = .ok (.aload 4, 2) := by decide +kernel
theorem dX8_set_105 : decode cX8_set 105 = .ok (.iload_n 3, 1) := by decide +kernel
theorem dX8_set_106 : decode cX8_set 106 = .ok (.putfield 118, 3) := by decide +kernel
theorem dX8_set_109 : decode cX8_set 109 = .ok (.goto 6, 3) := by decide +kernel
theorem dX8_set_112 : decode cX8_set 112 = .ok (.ldc 72, 2) := by decide +kernel
theorem dX8_set_114 : decode cX8_set 114 = .ok (.ireturn, 1) := by decide +kernel
theorem dX8_set_115 : decode cX8_set 115 = .ok (.aload_n 0, 1) := by decide +kernel
theorem dX8_set_116 : decode cX8_set 116 = .ok (.invokevirtual 81, 3) := by decide +kernel
theorem dX8_set_119 : decode cX8_set 119 = .ok (.iload 5, 2) := by decide +kernel
theorem dX8_set_121 : decode cX8_set 121 = .ok (.ireturn, 1) := by decide +kernel
theorem dX8_chances_0 : decode cX8_chances 0 = .ok (.aload_n 0, 1) := by decide +kernel
theorem dX8_chances_1 : decode cX8_chances 1 = .ok (.getfield 14, 3) := by decide +kernel
theorem dX8_chances_4 : decode cX8_chances 4 = .ok (.iload_n 1, 1) := by decide +kernel
theorem dX8_chances_5 : decode cX8_chances 5 = .ok (.invokevirtual 121, 3) := by decide +kernel
theorem dX8_chances_8 : decode cX8_chances 8 = .ok (.ifCond .eq 13, 3) := by decide +kernel
theorem dX8_chances_11 : decode cX8_chances 11 = .ok (.iload_n 2, 1) := by decide +kernel
theorem dX8_chances_12 : decode cX8_chances 12 = .ok (.iload_n 3, 1) := by decide +kernel
theorem dX8_chances_13 : decode cX8_chances 13 = .ok (.iload 4, 2) := by decide +kernel
theorem dX8_chances_15 : decode cX8_chances 15 = .ok (.invokestatic 152, 3) := by decide +kernel
theorem dX8_chances_18 : decode cX8_chances 18 = .ok (.ifCond .ne 6, 3) := by decide +kernel
theorem dX8_chances_21 : decode cX8_chances 21 = .ok (.ldc 72, 2) := by decide +kernel
theorem dX8_chances_23 : decode cX8_chances 23 = .ok (.ireturn, 1) := by decide +kernel
theorem dX8_chances_24 : decode cX8_chances 24 = .ok (.aload_n 0, 1) := by decide +kernel
theorem dX8_chances_25 : decode cX8_chances 25 = .ok (.iload_n 1, 1) := by decide +kernel
theorem dX8_chances_26 : decode cX8_chances 26 = .ok (.iload_n 2, 1) := by decide +kernel
theorem dX8_chances_27 : decode cX8_chances 27 = .ok (.iload_n 3, 1) := by decide +kernel
theorem dX8_chances_28 : decode cX8_chances 28 = .ok (.iload 4, 2) := by decide +kernel
theorem dX8_chances_30 : decode cX8_chances 30 = .ok (.invokevirtual 155, 3) := by decide +kernel
theorem dX8_chances_33 : decode cX8_chances 33 = .ok (.ireturn, 1) := by decide +kernel
theorem dX8_hangs_0 : decode cX8_hangs 0 = .ok (.aload_n 0, 1) := by decide +kernel
theorem dX8_hangs_1 : decode cX8_hangs 1 = .ok (.getfield 14, 3) := by decide +kernel
theorem dX8_hangs_4 : decode cX8_hangs 4 = .ok (.iload_n 1, 1) := by decide +kernel
theorem dX8_hangs_5 : decode cX8_hangs 5 = .ok (.invokevirtual 121, 3) := by decide +kernel
theorem dX8_hangs_8 : decode cX8_hangs 8 = .ok (.ifCond .eq 20, 3) := by decide +kernel
theorem dX8_hangs_11 : decode cX8_hangs 11 = .ok (.iload_n 2, 1) := by decide +kernel
theorem dX8_hangs_12 : decode cX8_hangs 12 = .ok (.ldc 159, 2) := by decide +kernel
theorem dX8_hangs_14 : decode cX8_hangs 14 = .ok (.if_icmp .eq 17, 3) := by decide +kernel
theorem dX8_hangs_17 : decode cX8_hangs 17 = .ok (.iload_n 2, 1) := by decide +kernel
theorem dX8_hangs_18 : decode cX8_hangs 18 = .ok (.iconst 0, 1) := by decide +kernel
theorem dX8_hangs_19 : decode cX8_hangs 19 = .ok (.iload_n 1, 1) := by decide +kernel
theorem dX8_hangs_20 : decode cX8_hangs 20 = .ok (.iconst 1, 1) := by decide +kernel
theorem dX8_hangs_21 : decode cX8_hangs 21 = .ok (.isub, 1) := by decide +kernel
theorem dX8_hangs_22 : decode cX8_hangs 22 = .ok (.invokestatic 68, 3) := by decide +kernel
theorem dX8_hangs_25 : decode cX8_hangs 25 = .ok (.ifCond .ne 6, 3) := by decide +kernel
theorem dX8_hangs_28 : decode cX8_hangs 28 = .ok (.ldc 72, 2) := by decide +kernel
theorem dX8_hangs_30 : decode cX8_hangs 30 = .ok (.ireturn, 1) := by decide +kernel
theorem dX8_hangs_31 : decode cX8_hangs 31 = .ok (.aload_n 0, 1) := by decide +kernel
theorem dX8_hangs_32 : decode cX8_hangs 32 = .ok (.getfield 14, 3) := by decide +kernel
theorem dX8_hangs_35 : decode cX8_hangs 35 = .ok (.getfield 105, 3) := by decide +kernel
theorem dX8_hangs_38 : decode cX8_hangs 38 = .ok (.iload_n 1, 1) := by decide +kernel
theorem dX8_hangs_39 : decode cX8_hangs 39 = .ok (.aaload, 1) := by decide +kernel
theorem dX8_hangs_40 : decode cX8_hangs 40 = .ok (.getfield 160, 3) := by decide +kernel
theorem dX8_hangs_43 : decode cX8_hangs 43 = .ok (.istore_n 3, 1) := by decide +kernel
theorem dX8_hangs_44 : decode cX8_hangs 44 = .ok (.aload_n 0, 1) := by decide +kernel
theorem dX8_hangs_45 : decode cX8_hangs 45 = .ok (.getfield 14, 3) := by decide +kernel
theorem dX8_hangs_48 : decode cX8_hangs 48 = .ok (.getfield 105, 3) := by decide +kernel
theorem dX8_hangs_51 : decode cX8_hangs 51 = .ok (.iload_n 1, 1) := by decide +kernel
theorem dX8_hangs_52 : decode cX8_hangs 52 = .ok (.aaload, 1) := by decide +kernel
theorem dX8_hangs_53 : decode cX8_hangs 53 = .ok (.iload_n 2, 1) := by decide +kernel
theorem dX8_hangs_54 : decode cX8_hangs 54 = .ok (.putfield 160, 3) := by decide +kernel
theorem dX8_hangs_57 : decode cX8_hangs 57 = .ok (.aload_n 0, 1) := by decide +kernel
theorem dX8_hangs_58 : decode cX8_hangs 58 = .ok (.invokevirtual 81, 3) := by decide +kernel
theorem dX8_hangs_61 : decode cX8_hangs 61 = .ok (.iload_n 3, 1) := by decide +kernel
theorem dX8_hangs_62 : decode cX8_hangs 62 = .ok (.ireturn, 1) := by decide +kernel
theorem dX8_day_0 : decode cX8_day 0 = .ok (.iload_n 1, 1) := by decide +kernel
theorem dX8_day_1 : decode cX8_day 1 = .ok (.iconst 0, 1) := by decide +kernel
theorem dX8_day_2 : decode cX8_day 2 = .ok (.sipush 999, 3) := by decide +kernel
theorem dX8_day_5 : decode cX8_day 5 = .ok (.invokestatic 68, 3) := by decide +kernel
theorem dX8_day_8 : decode cX8_day 8 = .ok (.ifCond .ne 6, 3) := by decide +kernel
theorem dX8_day_11 : decode cX8_day 11 = .ok (.ldc 72, 2) := by decide +kernel
theorem dX8_day_13 : decode cX8_day 13 = .ok (.ireturn, 1) := by decide +kernel
theorem dX8_day_14 : decode cX8_day 14 = .ok (.aload_n 0, 1) := by decide +kernel
theorem dX8_day_15 : decode cX8_day 15 = .ok (.getfield 14, 3) := by decide +kernel
theorem dX8_day_18 : decode cX8_day 18 = .ok (.getfield 163, 3) := by decide +kernel
theorem dX8_day_21 : decode cX8_day 21 = .ok (.istore_n 2, 1) := by decide +kernel
theorem dX8_day_22 : decode cX8_day 22 = .ok (.aload_n 0, 1) := by decide +kernel
theorem dX8_day_23 : decode cX8_day 23 = .ok (.getfield 14, 3) := by decide +kernel
theorem dX8_day_26 : decode cX8_day 26 = .ok (.iload_n 1, 1) := by decide +kernel
theorem dX8_day_27 : decode cX8_day 27 = .ok (.putfield 163, 3) := by decide +kernel
theorem dX8_day_30 : decode cX8_day 30 = .ok (.aload_n 0, 1) := by decide +kernel
theorem dX8_day_31 : decode cX8_day 31 = .ok (.invokevirtual 81, 3) := by decide +kernel
theorem dX8_day_34 : decode cX8_day 34 = .ok (.iload_n 2, 1) := by decide +kernel
theorem dX8_day_35 : decode cX8_day 35 = .ok (.ireturn, 1) := by decide +kernel
theorem dX8_makes_0 : decode cX8_makes 0 = .ok (.aload_n 0, 1) := by decide +kernel
theorem dX8_makes_1 : decode cX8_makes 1 = .ok (.iload_n 1, 1) := by decide +kernel
theorem dX8_makes_2 : decode cX8_makes 2 = .ok (.iload_n 2, 1) := by decide +kernel
theorem dX8_makes_3 : decode cX8_makes 3 = .ok (.invokevirtual 166, 3) := by decide +kernel
theorem dX8_makes_6 : decode cX8_makes 6 = .ok (.ifCond .ne 6, 3) := by decide +kernel
theorem dX8_makes_9 : decode cX8_makes 9 = .ok (.ldc 72, 2) := by decide +kernel
theorem dX8_makes_11 : decode cX8_makes 11 = .ok (.ireturn, 1) := by decide +kernel
theorem dX8_makes_12 : decode cX8_makes 12 = .ok (.aload_n 0, 1) := by decide +kernel
theorem dX8_makes_13 : decode cX8_makes 13 = .ok (.getfield 24, 3) := by decide +kernel
theorem dX8_makes_16 : decode cX8_makes 16 = .ok (.aload_n 0, 1) := by decide +kernel
theorem dX8_makes_17 : decode cX8_makes 17 = .ok (.getfield 14, 3) := by decide +kernel
theorem dX8_makes_20 : decode cX8_makes 20 = .ok (.invokevirtual 88, 3) := by decide +kernel
theorem dX8_makes_23 : decode cX8_makes 23 = .ok (.aload_n 0, 1) := by decide +kernel
theorem dX8_makes_24 : decode cX8_makes 24 = .ok (.getfield 24, 3) := by decide +kernel
theorem dX8_makes_27 : decode cX8_makes 27 = .ok (.iload_n 1, 1) := by decide +kernel
theorem dX8_makes_28 : decode cX8_makes 28 = .ok (.iload_n 2, 1) := by decide +kernel
theorem dX8_makes_29 : decode cX8_makes 29 = .ok (.invokevirtual 169, 3) := by decide +kernel
theorem dX8_makes_32 : decode cX8_makes 32 = .ok (.ifCond .eq 16, 3) := by decide +kernel
theorem dX8_makes_35 : decode cX8_makes 35 = .ok (.aload_n 0, 1) := by decide +kernel
theorem dX8_makes_36 : decode cX8_makes 36 = .ok (.getfield 24, 3) := by decide +kernel
theorem dX8_makes_39 : decode cX8_makes 39 = .ok (.iload_n 1, 1) := by decide +kernel
theorem dX8_makes_40 : decode cX8_makes 40 = .ok (.iload_n 2, 1) := by decide +kernel
theorem dX8_makes_41 : decode cX8_makes 41 = .ok (.iconst 0, 1) := by decide +kernel
theorem dX8_makes_42 : decode cX8_makes 42 = .ok (.invokevirtual 172, 3) := by decide +kernel
theorem dX8_makes_45 : decode cX8_makes 45 = .ok (.goto 5, 3) := by decide +kernel
theorem dX8_makes_48 : decode cX8_makes 48 = .ok (.ldc 176, 2) := by decide +kernel
theorem dX8_makes_50 : decode cX8_makes 50 = .ok (.ireturn, 1) := by decide +kernel
theorem dX8_never_0 : decode cX8_never 0 = .ok (.iload_n 1, 1) := by decide +kernel
theorem dX8_never_1 : decode cX8_never 1 = .ok (.iconst 0, 1) := by decide +kernel
theorem dX8_never_2 : decode cX8_never 2 = .ok (.iconst 1, 1) := by decide +kernel
theorem dX8_never_3 : decode cX8_never 3 = .ok (.invokestatic 68, 3) := by decide +kernel
theorem dX8_never_6 : decode cX8_never 6 = .ok (.ifCond .ne 6, 3) := by decide +kernel
theorem dX8_never_9 : decode cX8_never 9 = .ok (.ldc 72, 2) := by decide +kernel
theorem dX8_never_11 : decode cX8_never 11 = .ok (.ireturn, 1) := by decide +kernel
theorem dX8_never_12 : decode cX8_never 12 = .ok (.aload_n 0, 1) := by decide +kernel
theorem dX8_never_13 : decode cX8_never 13 = .ok (.getfield 24, 3) := by decide +kernel
theorem dX8_never_16 : decode cX8_never 16 = .ok (.aload_n 0, 1) := by decide +kernel
theorem dX8_never_17 : decode cX8_never 17 = .ok (.getfield 14, 3) := by decide +kernel
theorem dX8_never_20 : decode cX8_never 20 = .ok (.invokevirtual 88, 3) := by decide +kernel
theorem dX8_never_23 : decode cX8_never 23 = .ok (.iconst 0, 1) := by decide +kernel
theorem dX8_never_24 : decode cX8_never 24 = .ok (.istore_n 2, 1) := by decide +kernel
theorem dX8_never_25 : decode cX8_never 25 = .ok (.ldc 159, 2) := by decide +kernel
theorem dX8_never_27 : decode cX8_never 27 = .ok (.istore_n 3, 1) := by decide +kernel
theorem dX8_never_28 : decode cX8_never 28 = .ok (.iconst 0, 1) := by decide +kernel
theorem dX8_never_29 : decode cX8_never 29 = .ok (.istore 4, 2) := by decide +kernel
theorem dX8_never_31 : decode cX8_never 31 = .ok (.iload 4, 2) := by decide +kernel
theorem dX8_never_33 : decode cX8_never 33 = .ok (.aload_n 0, 1) := by decide +kernel
theorem dX8_never_34 : decode cX8_never 34 = .ok (.getfield 14, 3) := by decide +kernel
theorem dX8_never_37 : decode cX8_never 37 = .ok (.getfield 102, 3) := by decide +kernel
theorem dX8_never_40 : decode cX8_never 40 = .ok (.if_icmp .ge 88, 3) := by decide +kernel
theorem dX8_never_43 : decode cX8_never 43 = .ok (.iconst 0, 1) := by decide +kernel
theorem dX8_never_44 : decode cX8_never 44 = .ok (.istore 5, 2) := by decide +kernel
theorem dX8_never_46 : decode cX8_never 46 = .ok (.iload 5, 2) := by decide +kernel
theorem dX8_never_48 : decode cX8_never 48 = .ok (.aload_n 0, 1) := by decide +kernel
theorem dX8_never_49 : decode cX8_never 49 = .ok (.getfield 14, 3) := by decide +kernel
theorem dX8_never_52 : decode cX8_never 52 = .ok (.getfield 102, 3) := by decide +kernel
theorem dX8_never_55 : decode cX8_never 55 = .ok (.if_icmp .ge 67, 3) := by decide +kernel
theorem dX8_never_58 : decode cX8_never 58 = .ok (.iload 4, 2) := by decide +kernel
theorem dX8_never_60 : decode cX8_never 60 = .ok (.iload 5, 2) := by decide +kernel
theorem dX8_never_62 : decode cX8_never 62 = .ok (.if_icmp .eq 54, 3) := by decide +kernel
theorem dX8_never_65 : decode cX8_never 65 = .ok (.aload_n 0, 1) := by decide +kernel
theorem dX8_never_66 : decode cX8_never 66 = .ok (.getfield 24, 3) := by decide +kernel
theorem dX8_never_69 : decode cX8_never 69 = .ok (.iload 4, 2) := by decide +kernel
theorem dX8_never_71 : decode cX8_never 71 = .ok (.iload 5, 2) := by decide +kernel
theorem dX8_never_73 : decode cX8_never 73 = .ok (.invokevirtual 169, 3) := by decide +kernel
theorem dX8_never_76 : decode cX8_never 76 = .ok (.ifCond .eq 40, 3) := by decide +kernel
theorem dX8_never_79 : decode cX8_never 79 = .ok (.aload_n 0, 1) := by decide +kernel
theorem dX8_never_80 : decode cX8_never 80 = .ok (.getfield 24, 3) := by decide +kernel
theorem dX8_never_83 : decode cX8_never 83 = .ok (.iload 4, 2) := by decide +kernel
theorem dX8_never_85 : decode cX8_never 85 = .ok (.iload 5, 2) := by decide +kernel
theorem dX8_never_87 : decode cX8_never 87 = .ok (.iconst 0, 1) := by decide +kernel
theorem dX8_never_88 : decode cX8_never 88 = .ok (.invokevirtual 172, 3) := by decide +kernel
theorem dX8_never_91 : decode cX8_never 91 = .ok (.ifCond .ne 25, 3) := by decide +kernel
theorem dX8_never_94 : decode cX8_never 94 = .ok (.iinc 2 1, 3) := by decide +kernel
theorem dX8_never_97 : decode cX8_never 97 = .ok (.iload_n 3, 1) := by decide +kernel
theorem dX8_never_98 : decode cX8_never 98 = .ok (.ldc 159, 2) := by decide +kernel
theorem dX8_never_100 : decode cX8_never 100 = .ok (.if_icmp .ne 14, 3) := by decide +kernel
theorem dX8_never_103 : decode cX8_never 103 = .ok (.bipush 100, 2) := by decide +kernel
theorem dX8_never_105 : decode cX8_never 105 = .ok (.iload 4, 2) := by decide +kernel
theorem dX8_never_107 : decode cX8_never 107 = .ok (.imul, 1) := by decide +kernel
theorem dX8_never_108 : decode cX8_never 108 = .ok (.iload 5, 2) := by decide +kernel
theorem dX8_never_110 : decode cX8_never 110 = .ok (.iadd, 1) := by decide +kernel
theorem dX8_never_111 : decode cX8_never 111 = .ok (.goto 4, 3) := by decide +kernel
theorem dX8_never_114 : decode cX8_never 114 = .ok (.iload_n 3, 1) := by decide +kernel
theorem dX8_never_115 : decode cX8_never 115 = .ok (.istore_n 3, 1) := by decide +kernel
theorem dX8_never_116 : decode cX8_never 116 = .ok (.iinc 5 1, 3) := by decide +kernel
theorem dX8_never_119 : decode cX8_never 119 = .ok (.goto (-73), 3) := by decide +kernel
theorem dX8_never_122 : decode cX8_never 122 = .ok (.iinc 4 1, 3) := by decide +kernel
theorem dX8_never_125 : decode cX8_never 125 = .ok (.goto (-94), 3) := by decide +kernel
theorem dX8_never_128 : decode cX8_never 128 = .ok (.iload_n 1, 1) := by decide +kernel
theorem dX8_never_129 : decode cX8_never 129 = .ok (.ifCond .ne 7, 3) := by decide +kernel
theorem dX8_never_132 : decode cX8_never 132 = .ok (.iload_n 2, 1) := by decide +kernel
theorem dX8_never_133 : decode cX8_never 133 = .ok (.goto 4, 3) := by decide +kernel
theorem dX8_never_136 : decode cX8_never 136 = .ok (.iload_n 3, 1) := by decide +kernel
theorem dX8_never_137 : decode cX8_never 137 = .ok (.ireturn, 1) := by decide +kernel
theorem dX8_mends_0 : decode cX8_mends 0 = .ok (.aload_n 0, 1) := by decide +kernel
theorem dX8_mends_1 : decode cX8_mends 1 = .ok (.iload_n 1, 1) := by decide +kernel
theorem dX8_mends_2 : decode cX8_mends 2 = .ok (.iload_n 2, 1) := by decide +kernel
theorem dX8_mends_3 : decode cX8_mends 3 = .ok (.invokevirtual 166, 3) := by decide +kernel
theorem dX8_mends_6 : decode cX8_mends 6 = .ok (.ifCond .eq 14, 3) := by decide +kernel
theorem dX8_mends_9 : decode cX8_mends 9 = .ok (.iload_n 3, 1) := by decide +kernel
theorem dX8_mends_10 : decode cX8_mends 10 = .ok (.iconst 1, 1) := by decide +kernel
theorem dX8_mends_11 : decode cX8_mends 11 = .ok (.sipush 10000, 3) := by decide +kernel
theorem dX8_mends_14 : decode cX8_mends 14 = .ok (.invokestatic 68, 3) := by decide +kernel
theorem dX8_mends_17 : decode cX8_mends 17 = .ok (.ifCond .ne 6, 3) := by decide +kernel
theorem dX8_mends_20 : decode cX8_mends 20 = .ok (.ldc 72, 2) := by decide +kernel
theorem dX8_mends_22 : decode cX8_mends 22 = .ok (.ireturn, 1) := by decide +kernel
theorem dX8_mends_23 : decode cX8_mends 23 = .ok (.aload_n 0, 1) := by decide +kernel
theorem dX8_mends_24 : decode cX8_mends 24 = .ok (.getfield 24, 3) := by decide +kernel
theorem dX8_mends_27 : decode cX8_mends 27 = .ok (.aload_n 0, 1) := by decide +kernel
theorem dX8_mends_28 : decode cX8_mends 28 = .ok (.getfield 14, 3) := by decide +kernel
theorem dX8_mends_31 : decode cX8_mends 31 = .ok (.invokevirtual 88, 3) := by decide +kernel
theorem dX8_mends_34 : decode cX8_mends 34 = .ok (.aload_n 0, 1) := by decide +kernel
theorem dX8_mends_35 : decode cX8_mends 35 = .ok (.getfield 24, 3) := by decide +kernel
theorem dX8_mends_38 : decode cX8_mends 38 = .ok (.iload_n 1, 1) := by decide +kernel
theorem dX8_mends_39 : decode cX8_mends 39 = .ok (.iload_n 2, 1) := by decide +kernel
theorem dX8_mends_40 : decode cX8_mends 40 = .ok (.invokevirtual 169, 3) := by decide +kernel
theorem dX8_mends_43 : decode cX8_mends 43 = .ok (.ifCond .eq 16, 3) := by decide +kernel
theorem dX8_mends_46 : decode cX8_mends 46 = .ok (.aload_n 0, 1) := by decide +kernel
theorem dX8_mends_47 : decode cX8_mends 47 = .ok (.getfield 24, 3) := by decide +kernel
theorem dX8_mends_50 : decode cX8_mends 50 = .ok (.iload_n 1, 1) := by decide +kernel
theorem dX8_mends_51 : decode cX8_mends 51 = .ok (.iload_n 2, 1) := by decide +kernel
theorem dX8_mends_52 : decode cX8_mends 52 = .ok (.iload_n 3, 1) := by decide +kernel
theorem dX8_mends_53 : decode cX8_mends 53 = .ok (.invokevirtual 177, 3) := by decide +kernel
theorem dX8_mends_56 : decode cX8_mends 56 = .ok (.goto 5, 3) := by decide +kernel
theorem dX8_mends_59 : decode cX8_mends 59 = .ok (.ldc 176, 2) := by decide +kernel
theorem dX8_mends_61 : decode cX8_mends 61 = .ok (.ireturn, 1) := by decide +kernel
theorem dX8_add_0 : decode cX8_add 0 = .ok (.aload_n 0, 1) := by decide +kernel
theorem dX8_add_1 : decode cX8_add 1 = .ok (.getfield 14, 3) := by decide +kernel
theorem dX8_add_4 : decode cX8_add 4 = .ok (.iload_n 1, 1) := by decide +kernel
theorem dX8_add_5 : decode cX8_add 5 = .ok (.invokevirtual 121, 3) := by decide +kernel
theorem dX8_add_8 : decode cX8_add 8 = .ok (.ifCond .ne 6, 3) := by decide +kernel
theorem dX8_add_11 : decode cX8_add 11 = .ok (.ldc 72, 2) := by decide +kernel
theorem dX8_add_13 : decode cX8_add 13 = .ok (.ireturn, 1) := by decide +kernel
theorem dX8_add_14 : decode cX8_add 14 = .ok (.aload_n 0, 1) := by decide +kernel
theorem dX8_add_15 : decode cX8_add 15 = .ok (.getfield 14, 3) := by decide +kernel
theorem dX8_add_18 : decode cX8_add 18 = .ok (.getfield 180, 3) := by decide +kernel
theorem dX8_add_21 : decode cX8_add 21 = .ok (.bipush 6, 2) := by decide +kernel
theorem dX8_add_23 : decode cX8_add 23 = .ok (.if_icmp .lt 6, 3) := by decide +kernel
theorem dX8_add_26 : decode cX8_add 26 = .ok (.ldc 77, 2) := by decide +kernel
theorem dX8_add_28 : decode cX8_add 28 = .ok (.ireturn, 1) := by decide +kernel
theorem dX8_add_29 : decode cX8_add 29 = .ok (.aload_n 0, 1) := by decide +kernel
theorem dX8_add_30 : decode cX8_add 30 = .ok (.getfield 14, 3) := by decide +kernel
theorem dX8_add_33 : decode cX8_add 33 = .ok (.getfield 183, 3) := by decide +kernel
theorem dX8_add_36 : decode cX8_add 36 = .ok (.aload_n 0, 1) := by decide +kernel
theorem dX8_add_37 : decode cX8_add 37 = .ok (.getfield 14, 3) := by decide +kernel
theorem dX8_add_40 : decode cX8_add 40 = .ok (.getfield 180, 3) := by decide +kernel
theorem dX8_add_43 : decode cX8_add 43 = .ok (.iload_n 1, 1) := by decide +kernel
theorem dX8_add_44 : decode cX8_add 44 = .ok (.iastore, 1) := by decide +kernel
theorem dX8_add_45 : decode cX8_add 45 = .ok (.aload_n 0, 1) := by decide +kernel
theorem dX8_add_46 : decode cX8_add 46 = .ok (.getfield 14, 3) := by decide +kernel
theorem dX8_add_49 : decode cX8_add 49 = .ok (.dup, 1) := by decide +kernel
theorem dX8_add_50 : decode cX8_add 50 = .ok (.getfield 180, 3) := by decide +kernel
theorem dX8_add_53 : decode cX8_add 53 = .ok (.iconst 1, 1) := by decide +kernel
theorem dX8_add_54 : decode cX8_add 54 = .ok (.iadd, 1) := by decide +kernel
theorem dX8_add_55 : decode cX8_add 55 = .ok (.putfield 180, 3) := by decide +kernel
theorem dX8_add_58 : decode cX8_add 58 = .ok (.aload_n 0, 1) := by decide +kernel
theorem dX8_add_59 : decode cX8_add 59 = .ok (.getfield 14, 3) := by decide +kernel
theorem dX8_add_62 : decode cX8_add 62 = .ok (.getfield 180, 3) := by decide +kernel
theorem dX8_add_65 : decode cX8_add 65 = .ok (.ireturn, 1) := by decide +kernel
theorem dX8_clear_0 : decode cX8_clear 0 = .ok (.aload_n 0, 1) := by decide +kernel
theorem dX8_clear_1 : decode cX8_clear 1 = .ok (.getfield 14, 3) := by decide +kernel
theorem dX8_clear_4 : decode cX8_clear 4 = .ok (.getfield 180, 3) := by decide +kernel
theorem dX8_clear_7 : decode cX8_clear 7 = .ok (.istore_n 1, 1) := by decide +kernel
theorem dX8_clear_8 : decode cX8_clear 8 = .ok (.aload_n 0, 1) := by decide +kernel
theorem dX8_clear_9 : decode cX8_clear 9 = .ok (.getfield 14, 3) := by decide +kernel
theorem dX8_clear_12 : decode cX8_clear 12 = .ok (.iconst 0, 1) := by decide +kernel
theorem dX8_clear_13 : decode cX8_clear 13 = .ok (.putfield 180, 3) := by decide +kernel
theorem dX8_clear_16 : decode cX8_clear 16 = .ok (.iload_n 1, 1) := by decide +kernel
theorem dX8_clear_17 : decode cX8_clear 17 = .ok (.ireturn, 1) := by decide +kernel
theorem dX8_judge_0 : decode cX8_judge 0 = .ok (.aload_n 0, 1) := by decide +kernel
theorem dX8_judge_1 : decode cX8_judge 1 = .ok (.getfield 14, 3) := by decide +kernel
theorem dX8_judge_4 : decode cX8_judge 4 = .ok (.invokevirtual 186, 3) := by decide +kernel
theorem dX8_judge_7 : decode cX8_judge 7 = .ok (.ireturn, 1) := by decide +kernel
theorem dX8_plan_0 : decode cX8_plan 0 = .ok (.iload_n 1, 1) := by decide +kernel
theorem dX8_plan_1 : decode cX8_plan 1 = .ok (.iconst 0, 1) := by decide +kernel
theorem dX8_plan_2 : decode cX8_plan 2 = .ok (.iconst 1, 1) := by decide +kernel
theorem dX8_plan_3 : decode cX8_plan 3 = .ok (.invokestatic 68, 3) := by decide +kernel
theorem dX8_plan_6 : decode cX8_plan 6 = .ok (.ifCond .ne 7, 3) := by decide +kernel
theorem dX8_plan_9 : decode cX8_plan 9 = .ok (.ldc2_w 190, 3) := by decide +kernel
theorem dX8_plan_12 : decode cX8_plan 12 = .ok (.lreturn, 1) := by decide +kernel
theorem dX8_plan_13 : decode cX8_plan 13 = .ok (.aload_n 0, 1) := by decide +kernel
theorem dX8_plan_14 : decode cX8_plan 14 = .ok (.getfield 14, 3) := by decide +kernel
theorem dX8_plan_17 : decode cX8_plan 17 = .ok (.invokevirtual 186, 3) := by decide +kernel
theorem dX8_plan_20 : decode cX8_plan 20 = .ok (.ldc 159, 2) := by decide +kernel
theorem dX8_plan_22 : decode cX8_plan 22 = .ok (.if_icmp .eq 7, 3) := by decide +kernel
theorem dX8_plan_25 : decode cX8_plan 25 = .ok (.ldc2_w 192, 3) := by decide +kernel
theorem dX8_plan_28 : decode cX8_plan 28 = .ok (.lreturn, 1) := by decide +kernel
theorem dX8_plan_29 : decode cX8_plan 29 = .ok (.aload_n 0, 1) := by decide +kernel
theorem dX8_plan_30 : decode cX8_plan 30 = .ok (.getfield 14, 3) := by decide +kernel
theorem dX8_plan_33 : decode cX8_plan 33 = .ok (.getfield 180, 3) := by decide +kernel
theorem dX8_plan_36 : decode cX8_plan 36 = .ok (.ifCond .ne 13, 3) := by decide +kernel
theorem dX8_plan_39 : decode cX8_plan 39 = .ok (.iload_n 1, 1) := by decide +kernel
theorem dX8_plan_40 : decode cX8_plan 40 = .ok (.ifCond .ne 7, 3) := by decide +kernel
theorem dX8_plan_43 : decode cX8_plan 43 = .ok (.lconst 1, 1) := by decide +kernel
theorem dX8_plan_44 : decode cX8_plan 44 = .ok (.goto 4, 3) := by decide +kernel
theorem dX8_plan_47 : decode cX8_plan 47 = .ok (.lconst 0, 1) := by decide +kernel
theorem dX8_plan_48 : decode cX8_plan 48 = .ok (.lreturn, 1) := by decide +kernel
theorem dX8_plan_49 : decode cX8_plan 49 = .ok (.aload_n 0, 1) := by decide +kernel
theorem dX8_plan_50 : decode cX8_plan 50 = .ok (.getfield 24, 3) := by decide +kernel
theorem dX8_plan_53 : decode cX8_plan 53 = .ok (.aload_n 0, 1) := by decide +kernel
theorem dX8_plan_54 : decode cX8_plan 54 = .ok (.getfield 14, 3) := by decide +kernel
theorem dX8_plan_57 : decode cX8_plan 57 = .ok (.invokevirtual 88, 3) := by decide +kernel
theorem dX8_plan_60 : decode cX8_plan 60 = .ok (.aload_n 0, 1) := by decide +kernel
theorem dX8_plan_61 : decode cX8_plan 61 = .ok (.getfield 24, 3) := by decide +kernel
theorem dX8_plan_64 : decode cX8_plan 64 = .ok (.aload_n 0, 1) := by decide +kernel
theorem dX8_plan_65 : decode cX8_plan 65 = .ok (.getfield 14, 3) := by decide +kernel
theorem dX8_plan_68 : decode cX8_plan 68 = .ok (.iload_n 1, 1) := by decide +kernel
theorem dX8_plan_69 : decode cX8_plan 69 = .ok (.iconst 1, 1) := by decide +kernel
theorem dX8_plan_70 : decode cX8_plan 70 = .ok (.if_icmp .ne 7, 3) := by decide +kernel
theorem dX8_plan_73 : decode cX8_plan 73 = .ok (.iconst 1, 1) := by decide +kernel
theorem dX8_plan_74 : decode cX8_plan 74 = .ok (.goto 4, 3) := by decide +kernel
theorem dX8_plan_77 : decode cX8_plan 77 = .ok (.iconst 0, 1) := by decide +kernel
theorem dX8_plan_78 : decode cX8_plan 78 = .ok (.invokevirtual 194, 3) := by decide +kernel
theorem dX8_plan_81 : decode cX8_plan 81 = .ok (.lreturn, 1) := by decide +kernel
theorem dX8_aim_0 : decode cX8_aim 0 = .ok (.iload_n 1, 1) := by decide +kernel
theorem dX8_aim_1 : decode cX8_aim 1 = .ok (.ifCond .ne 33, 3) := by decide +kernel
theorem dX8_aim_4 : decode cX8_aim 4 = .ok (.aload_n 0, 1) := by decide +kernel
theorem dX8_aim_5 : decode cX8_aim 5 = .ok (.getfield 14, 3) := by decide +kernel
theorem dX8_aim_8 : decode cX8_aim 8 = .ok (.iload_n 2, 1) := by decide +kernel
theorem dX8_aim_9 : decode cX8_aim 9 = .ok (.invokevirtual 84, 3) := by decide +kernel
theorem dX8_aim_12 : decode cX8_aim 12 = .ok (.ifCond .eq 22, 3) := by decide +kernel
theorem dX8_aim_15 : decode cX8_aim 15 = .ok (.aload_n 0, 1) := by decide +kernel
theorem dX8_aim_16 : decode cX8_aim 16 = .ok (.getfield 14, 3) := by decide +kernel
theorem dX8_aim_19 : decode cX8_aim 19 = .ok (.getfield 198, 3) := by decide +kernel
theorem dX8_aim_22 : decode cX8_aim 22 = .ok (.istore_n 3, 1) := by decide +kernel
theorem dX8_aim_23 : decode cX8_aim 23 = .ok (.aload_n 0, 1) := by decide +kernel
theorem dX8_aim_24 : decode cX8_aim 24 = .ok (.getfield 14, 3) := by decide +kernel
theorem dX8_aim_27 : decode cX8_aim 27 = .ok (.iload_n 2, 1) := by decide +kernel
theorem dX8_aim_28 : decode cX8_aim 28 = .ok (.putfield 198, 3) := by decide +kernel
theorem dX8_aim_31 : decode cX8_aim 31 = .ok (.goto 41, 3) := by decide +kernel
theorem dX8_aim_34 : decode cX8_aim 34 = .ok (.iload_n 1, 1) := by decide +kernel
theorem dX8_aim_35 : decode cX8_aim 35 = .ok (.iconst 1, 1) := by decide +kernel
theorem dX8_aim_36 : decode cX8_aim 36 = .ok (.if_icmp .ne 33, 3) := by decide +kernel
theorem dX8_aim_39 : decode cX8_aim 39 = .ok (.iload_n 2, 1) := by decide +kernel
theorem dX8_aim_40 : decode cX8_aim 40 = .ok (.iconst 0, 1) := by decide +kernel
theorem dX8_aim_41 : decode cX8_aim 41 = .ok (.sipush 2999, 3) := by decide +kernel
theorem dX8_aim_44 : decode cX8_aim 44 = .ok (.invokestatic 68, 3) := by decide +kernel
theorem dX8_aim_47 : decode cX8_aim 47 = .ok (.ifCond .eq 22, 3) := by decide +kernel
theorem dX8_aim_50 : decode cX8_aim 50 = .ok (.aload_n 0, 1) := by decide +kernel
theorem dX8_aim_51 : decode cX8_aim 51 = .ok (.getfield 14, 3) := by decide +kernel
theorem dX8_aim_54 : decode cX8_aim 54 = .ok (.getfield 201, 3) := by decide +kernel
theorem dX8_aim_57 : decode cX8_aim 57 = .ok (.istore_n 3, 1) := by decide +kernel
theorem dX8_aim_58 : decode cX8_aim 58 = .ok (.aload_n 0, 1) := by decide +kernel
theorem dX8_aim_59 : decode cX8_aim 59 = .ok (.getfield 14, 3) := by decide +kernel
theorem dX8_aim_62 : decode cX8_aim 62 = .ok (.iload_n 2, 1) := by decide +kernel
theorem dX8_aim_63 : decode cX8_aim 63 = .ok (.putfield 201, 3) := by decide +kernel
theorem dX8_aim_66 : decode cX8_aim 66 = .ok (.goto 6, 3) := by decide +kernel
theorem dX8_aim_69 : decode cX8_aim 69 = .ok (.ldc 72, 2) := by decide +kernel
theorem dX8_aim_71 : decode cX8_aim 71 = .ok (.ireturn, 1) := by decide +kernel
theorem dX8_aim_72 : decode cX8_aim 72 = .ok (.aload_n 0, 1) := by decide +kernel
theorem dX8_aim_73 : decode cX8_aim 73 = .ok (.invokevirtual 81, 3) := by decide +kernel
theorem dX8_aim_76 : decode cX8_aim 76 = .ok (.iload_n 3, 1) := by decide +kernel
theorem dX8_aim_77 : decode cX8_aim 77 = .ok (.ireturn, 1) := by decide +kernel
theorem dX8_mean_0 : decode cX8_mean 0 = .ok (.aload_n 0, 1) := by decide +kernel
theorem dX8_mean_1 : decode cX8_mean 1 = .ok (.iload_n 1, 1) := by decide +kernel
theorem dX8_mean_2 : decode cX8_mean 2 = .ok (.iload_n 2, 1) := by decide +kernel
theorem dX8_mean_3 : decode cX8_mean 3 = .ok (.invokevirtual 204, 3) := by decide +kernel
theorem dX8_mean_6 : decode cX8_mean 6 = .ok (.ifCond .eq 30, 3) := by decide +kernel
theorem dX8_mean_9 : decode cX8_mean 9 = .ok (.aload_n 0, 1) := by decide +kernel
theorem dX8_mean_10 : decode cX8_mean 10 = .ok (.getfield 33, 3) := by decide +kernel
theorem dX8_mean_13 : decode cX8_mean 13 = .ok (.aload_n 0, 1) := by decide +kernel
theorem dX8_mean_14 : decode cX8_mean 14 = .ok (.getfield 24, 3) := by decide +kernel
theorem dX8_mean_17 : decode cX8_mean 17 = .ok (.aload_n 0, 1) := by decide +kernel
theorem dX8_mean_18 : decode cX8_mean 18 = .ok (.getfield 14, 3) := by decide +kernel
theorem dX8_mean_21 : decode cX8_mean 21 = .ok (.invokevirtual 207, 3) := by decide +kernel
theorem dX8_mean_24 : decode cX8_mean 24 = .ok (.aload_n 0, 1) := by decide +kernel
theorem dX8_mean_25 : decode cX8_mean 25 = .ok (.getfield 24, 3) := by decide +kernel
theorem dX8_mean_28 : decode cX8_mean 28 = .ok (.iload_n 1, 1) := by decide +kernel
theorem dX8_mean_29 : decode cX8_mean 29 = .ok (.iload_n 2, 1) := by decide +kernel
theorem dX8_mean_30 : decode cX8_mean 30 = .ok (.invokevirtual 211, 3) := by decide +kernel
theorem dX8_mean_33 : decode cX8_mean 33 = .ok (.goto 5, 3) := by decide +kernel
theorem dX8_mean_36 : decode cX8_mean 36 = .ok (.ldc 72, 2) := by decide +kernel
theorem dX8_mean_38 : decode cX8_mean 38 = .ok (.ireturn, 1) := by decide +kernel
theorem dX8_taken_0 : decode cX8_taken 0 = .ok (.aload_n 0, 1) := by decide +kernel
theorem dX8_taken_1 : decode cX8_taken 1 = .ok (.iload_n 1, 1) := by decide +kernel
theorem dX8_taken_2 : decode cX8_taken 2 = .ok (.iload_n 2, 1) := by decide +kernel
theorem dX8_taken_3 : decode cX8_taken 3 = .ok (.invokevirtual 204, 3) := by decide +kernel
theorem dX8_taken_6 : decode cX8_taken 6 = .ok (.ifCond .eq 30, 3) := by decide +kernel
theorem dX8_taken_9 : decode cX8_taken 9 = .ok (.aload_n 0, 1) := by decide +kernel
theorem dX8_taken_10 : decode cX8_taken 10 = .ok (.getfield 33, 3) := by decide +kernel
theorem dX8_taken_13 : decode cX8_taken 13 = .ok (.aload_n 0, 1) := by decide +kernel
theorem dX8_taken_14 : decode cX8_taken 14 = .ok (.getfield 24, 3) := by decide +kernel
theorem dX8_taken_17 : decode cX8_taken 17 = .ok (.aload_n 0, 1) := by decide +kernel
theorem dX8_taken_18 : decode cX8_taken 18 = .ok (.getfield 14, 3) := by decide +kernel
theorem dX8_taken_21 : decode cX8_taken 21 = .ok (.invokevirtual 207, 3) := by decide +kernel
theorem dX8_taken_24 : decode cX8_taken 24 = .ok (.aload_n 0, 1) := by decide +kernel
theorem dX8_taken_25 : decode cX8_taken 25 = .ok (.getfield 24, 3) := by decide +kernel
theorem dX8_taken_28 : decode cX8_taken 28 = .ok (.iload_n 1, 1) := by decide +kernel
theorem dX8_taken_29 : decode cX8_taken 29 = .ok (.iload_n 2, 1) := by decide +kernel
theorem dX8_taken_30 : decode cX8_taken 30 = .ok (.invokevirtual 215, 3) := by decide +kernel
theorem dX8_taken_33 : decode cX8_taken 33 = .ok (.goto 5, 3) := by decide +kernel
theorem dX8_taken_36 : decode cX8_taken 36 = .ok (.ldc 72, 2) := by decide +kernel
theorem dX8_taken_38 : decode cX8_taken 38 = .ok (.ireturn, 1) := by decide +kernel
theorem dX8_sure_0 : decode cX8_sure 0 = .ok (.aload_n 0, 1) := by decide +kernel
theorem dX8_sure_1 : decode cX8_sure 1 = .ok (.iload_n 1, 1) := by decide +kernel
theorem dX8_sure_2 : decode cX8_sure 2 = .ok (.iload_n 2, 1) := by decide +kernel
theorem dX8_sure_3 : decode cX8_sure 3 = .ok (.invokevirtual 204, 3) := by decide +kernel
theorem dX8_sure_6 : decode cX8_sure 6 = .ok (.ifCond .eq 30, 3) := by decide +kernel
theorem dX8_sure_9 : decode cX8_sure 9 = .ok (.aload_n 0, 1) := by decide +kernel
theorem dX8_sure_10 : decode cX8_sure 10 = .ok (.getfield 37, 3) := by decide +kernel
theorem dX8_sure_13 : decode cX8_sure 13 = .ok (.aload_n 0, 1) := by decide +kernel
theorem dX8_sure_14 : decode cX8_sure 14 = .ok (.getfield 24, 3) := by decide +kernel
theorem dX8_sure_17 : decode cX8_sure 17 = .ok (.aload_n 0, 1) := by decide +kernel
theorem dX8_sure_18 : decode cX8_sure 18 = .ok (.getfield 14, 3) := by decide +kernel
theorem dX8_sure_21 : decode cX8_sure 21 = .ok (.invokevirtual 207, 3) := by decide +kernel
theorem dX8_sure_24 : decode cX8_sure 24 = .ok (.aload_n 0, 1) := by decide +kernel
theorem dX8_sure_25 : decode cX8_sure 25 = .ok (.getfield 24, 3) := by decide +kernel
theorem dX8_sure_28 : decode cX8_sure 28 = .ok (.iload_n 1, 1) := by decide +kernel
theorem dX8_sure_29 : decode cX8_sure 29 = .ok (.iload_n 2, 1) := by decide +kernel
theorem dX8_sure_30 : decode cX8_sure 30 = .ok (.invokevirtual 211, 3) := by decide +kernel
theorem dX8_sure_33 : decode cX8_sure 33 = .ok (.goto 5, 3) := by decide +kernel
theorem dX8_sure_36 : decode cX8_sure 36 = .ok (.ldc 72, 2) := by decide +kernel
theorem dX8_sure_38 : decode cX8_sure 38 = .ok (.ireturn, 1) := by decide +kernel
theorem dX8_cheap_0 : decode cX8_cheap 0 = .ok (.aload_n 0, 1) := by decide +kernel
theorem dX8_cheap_1 : decode cX8_cheap 1 = .ok (.iload_n 1, 1) := by decide +kernel
theorem dX8_cheap_2 : decode cX8_cheap 2 = .ok (.iload_n 2, 1) := by decide +kernel
theorem dX8_cheap_3 : decode cX8_cheap 3 = .ok (.invokevirtual 204, 3) := by decide +kernel
theorem dX8_cheap_6 : decode cX8_cheap 6 = .ok (.ifCond .ne 6, 3) := by decide +kernel
theorem dX8_cheap_9 : decode cX8_cheap 9 = .ok (.ldc 72, 2) := by decide +kernel
theorem dX8_cheap_11 : decode cX8_cheap 11 = .ok (.ireturn, 1) := by decide +kernel
theorem dX8_cheap_12 : decode cX8_cheap 12 = .ok (.aload_n 0, 1) := by decide +kernel
theorem dX8_cheap_13 : decode cX8_cheap 13 = .ok (.getfield 40, 3) := by decide +kernel
theorem dX8_cheap_16 : decode cX8_cheap 16 = .ok (.aload_n 0, 1) := by decide +kernel
theorem dX8_cheap_17 : decode cX8_cheap 17 = .ok (.getfield 24, 3) := by decide +kernel
theorem dX8_cheap_20 : decode cX8_cheap 20 = .ok (.aload_n 0, 1) := by decide +kernel
theorem dX8_cheap_21 : decode cX8_cheap 21 = .ok (.getfield 14, 3) := by decide +kernel
theorem dX8_cheap_24 : decode cX8_cheap 24 = .ok (.invokevirtual 207, 3) := by decide +kernel
theorem dX8_cheap_27 : decode cX8_cheap 27 = .ok (.aload_n 0, 1) := by decide +kernel
theorem dX8_cheap_28 : decode cX8_cheap 28 = .ok (.getfield 24, 3) := by decide +kernel
theorem dX8_cheap_31 : decode cX8_cheap 31 = .ok (.iload_n 1, 1) := by decide +kernel
theorem dX8_cheap_32 : decode cX8_cheap 32 = .ok (.iload_n 2, 1) := by decide +kernel
theorem dX8_cheap_33 : decode cX8_cheap 33 = .ok (.invokevirtual 211, 3) := by decide +kernel
theorem dX8_cheap_36 : decode cX8_cheap 36 = .ok (.istore_n 3, 1) := by decide +kernel
theorem dX8_cheap_37 : decode cX8_cheap 37 = .ok (.iload_n 3, 1) := by decide +kernel
theorem dX8_cheap_38 : decode cX8_cheap 38 = .ok (.ldc 218, 2) := by decide +kernel
theorem dX8_cheap_40 : decode cX8_cheap 40 = .ok (.if_icmp .ne 8, 3) := by decide +kernel
theorem dX8_cheap_43 : decode cX8_cheap 43 = .ok (.ldc 159, 2) := by decide +kernel
theorem dX8_cheap_45 : decode cX8_cheap 45 = .ok (.goto 4, 3) := by decide +kernel
theorem dX8_cheap_48 : decode cX8_cheap 48 = .ok (.iload_n 3, 1) := by decide +kernel
theorem dX8_cheap_49 : decode cX8_cheap 49 = .ok (.ireturn, 1) := by decide +kernel
theorem dX8_latest_0 : decode cX8_latest 0 = .ok (.aload_n 0, 1) := by decide +kernel
theorem dX8_latest_1 : decode cX8_latest 1 = .ok (.getfield 14, 3) := by decide +kernel
theorem dX8_latest_4 : decode cX8_latest 4 = .ok (.iload_n 1, 1) := by decide +kernel
theorem dX8_latest_5 : decode cX8_latest 5 = .ok (.invokevirtual 84, 3) := by decide +kernel
theorem dX8_latest_8 : decode cX8_latest 8 = .ok (.ifCond .eq 14, 3) := by decide +kernel
theorem dX8_latest_11 : decode cX8_latest 11 = .ok (.iload_n 2, 1) := by decide +kernel
theorem dX8_latest_12 : decode cX8_latest 12 = .ok (.iconst 0, 1) := by decide +kernel
theorem dX8_latest_13 : decode cX8_latest 13 = .ok (.sipush 10000, 3) := by decide +kernel
theorem dX8_latest_16 : decode cX8_latest 16 = .ok (.invokestatic 68, 3) := by decide +kernel
theorem dX8_latest_19 : decode cX8_latest 19 = .ok (.ifCond .ne 6, 3) := by decide +kernel
theorem dX8_latest_22 : decode cX8_latest 22 = .ok (.ldc 72, 2) := by decide +kernel
theorem dX8_latest_24 : decode cX8_latest 24 = .ok (.ireturn, 1) := by decide +kernel
theorem dX8_latest_25 : decode cX8_latest 25 = .ok (.aload_n 0, 1) := by decide +kernel
theorem dX8_latest_26 : decode cX8_latest 26 = .ok (.getfield 37, 3) := by decide +kernel
theorem dX8_latest_29 : decode cX8_latest 29 = .ok (.aload_n 0, 1) := by decide +kernel
theorem dX8_latest_30 : decode cX8_latest 30 = .ok (.getfield 24, 3) := by decide +kernel
theorem dX8_latest_33 : decode cX8_latest 33 = .ok (.aload_n 0, 1) := by decide +kernel
theorem dX8_latest_34 : decode cX8_latest 34 = .ok (.getfield 14, 3) := by decide +kernel
theorem dX8_latest_37 : decode cX8_latest 37 = .ok (.invokevirtual 207, 3) := by decide +kernel
theorem dX8_latest_40 : decode cX8_latest 40 = .ok (.astore_n 3, 1) := by decide +kernel
theorem dX8_latest_41 : decode cX8_latest 41 = .ok (.sipush 1469, 3) := by decide +kernel
theorem dX8_latest_44 : decode cX8_latest 44 = .ok (.istore 4, 2) := by decide +kernel
theorem dX8_latest_46 : decode cX8_latest 46 = .ok (.iload 4, 2) := by decide +kernel
theorem dX8_latest_48 : decode cX8_latest 48 = .ok (.ifCond .lt 27, 3) := by decide +kernel
theorem dX8_latest_51 : decode cX8_latest 51 = .ok (.aload_n 3, 1) := by decide +kernel
theorem dX8_latest_52 : decode cX8_latest 52 = .ok (.aload_n 0, 1) := by decide +kernel
theorem dX8_latest_53 : decode cX8_latest 53 = .ok (.getfield 24, 3) := by decide +kernel
theorem dX8_latest_56 : decode cX8_latest 56 = .ok (.iload_n 1, 1) := by decide +kernel
theorem dX8_latest_57 : decode cX8_latest 57 = .ok (.iload 4, 2) := by decide +kernel
theorem dX8_latest_59 : decode cX8_latest 59 = .ok (.invokevirtual 211, 3) := by decide +kernel
theorem dX8_latest_62 : decode cX8_latest 62 = .ok (.iload_n 2, 1) := by decide +kernel
theorem dX8_latest_63 : decode cX8_latest 63 = .ok (.if_icmp .lt 6, 3) := by decide +kernel
theorem dX8_latest_66 : decode cX8_latest 66 = .ok (.iload 4, 2) := by decide +kernel
theorem dX8_latest_68 : decode cX8_latest 68 = .ok (.ireturn, 1) := by decide +kernel
theorem dX8_latest_69 : decode cX8_latest 69 = .ok (.iinc 4 (-1), 3) := by decide +kernel
theorem dX8_latest_72 : decode cX8_latest 72 = .ok (.goto (-26), 3) := by decide +kernel
theorem dX8_latest_75 : decode cX8_latest 75 = .ok (.ldc 159, 2) := by decide +kernel
theorem dX8_latest_77 : decode cX8_latest 77 = .ok (.ireturn, 1) := by decide +kernel
theorem dX8_feed_0 : decode cX8_feed 0 = .ok (.aload_n 0, 1) := by decide +kernel
theorem dX8_feed_1 : decode cX8_feed 1 = .ok (.getfield 46, 3) := by decide +kernel
theorem dX8_feed_4 : decode cX8_feed 4 = .ok (.getfield 219, 3) := by decide +kernel
theorem dX8_feed_7 : decode cX8_feed 7 = .ok (.bipush 12, 2) := by decide +kernel
theorem dX8_feed_9 : decode cX8_feed 9 = .ok (.iadd, 1) := by decide +kernel
theorem dX8_feed_10 : decode cX8_feed 10 = .ok (.bipush 96, 2) := by decide +kernel
theorem dX8_feed_12 : decode cX8_feed 12 = .ok (.if_icmp .le 6, 3) := by decide +kernel
theorem dX8_feed_15 : decode cX8_feed 15 = .ok (.ldc 77, 2) := by decide +kernel
theorem dX8_feed_17 : decode cX8_feed 17 = .ok (.ireturn, 1) := by decide +kernel
theorem dX8_feed_18 : decode cX8_feed 18 = .ok (.aload_n 0, 1) := by decide +kernel
theorem dX8_feed_19 : decode cX8_feed 19 = .ok (.getfield 46, 3) := by decide +kernel
theorem dX8_feed_22 : decode cX8_feed 22 = .ok (.iload_n 1, 1) := by decide +kernel
theorem dX8_feed_23 : decode cX8_feed 23 = .ok (.invokevirtual 222, 3) := by decide +kernel
theorem dX8_feed_26 : decode cX8_feed 26 = .ok (.aload_n 0, 1) := by decide +kernel
theorem dX8_feed_27 : decode cX8_feed 27 = .ok (.getfield 46, 3) := by decide +kernel
theorem dX8_feed_30 : decode cX8_feed 30 = .ok (.iload_n 2, 1) := by decide +kernel
theorem dX8_feed_31 : decode cX8_feed 31 = .ok (.invokevirtual 222, 3) := by decide +kernel
theorem dX8_feed_34 : decode cX8_feed 34 = .ok (.aload_n 0, 1) := by decide +kernel
theorem dX8_feed_35 : decode cX8_feed 35 = .ok (.getfield 46, 3) := by decide +kernel
theorem dX8_feed_38 : decode cX8_feed 38 = .ok (.iload_n 3, 1) := by decide +kernel
theorem dX8_feed_39 : decode cX8_feed 39 = .ok (.invokevirtual 222, 3) := by decide +kernel
theorem dX8_feed_42 : decode cX8_feed 42 = .ok (.aload_n 0, 1) := by decide +kernel
theorem dX8_feed_43 : decode cX8_feed 43 = .ok (.getfield 46, 3) := by decide +kernel
theorem dX8_feed_46 : decode cX8_feed 46 = .ok (.getfield 219, 3) := by decide +kernel
theorem dX8_feed_49 : decode cX8_feed 49 = .ok (.ireturn, 1) := by decide +kernel
theorem dX8_trim_0 : decode cX8_trim 0 = .ok (.iload_n 1, 1) := by decide +kernel
theorem dX8_trim_1 : decode cX8_trim 1 = .ok (.iconst 0, 1) := by decide +kernel
theorem dX8_trim_2 : decode cX8_trim 2 = .ok (.aload_n 0, 1) := by decide +kernel
theorem dX8_trim_3 : decode cX8_trim 3 = .ok (.getfield 46, 3) := by decide +kernel
theorem dX8_trim_6 : decode cX8_trim 6 = .ok (.getfield 219, 3) := by decide +kernel
theorem dX8_trim_9 : decode cX8_trim 9 = .ok (.invokestatic 68, 3) := by decide +kernel
theorem dX8_trim_12 : decode cX8_trim 12 = .ok (.ifCond .ne 6, 3) := by decide +kernel
theorem dX8_trim_15 : decode cX8_trim 15 = .ok (.ldc 72, 2) := by decide +kernel
theorem dX8_trim_17 : decode cX8_trim 17 = .ok (.ireturn, 1) := by decide +kernel
theorem dX8_trim_18 : decode cX8_trim 18 = .ok (.aload_n 0, 1) := by decide +kernel
theorem dX8_trim_19 : decode cX8_trim 19 = .ok (.getfield 46, 3) := by decide +kernel
theorem dX8_trim_22 : decode cX8_trim 22 = .ok (.iload_n 1, 1) := by decide +kernel
theorem dX8_trim_23 : decode cX8_trim 23 = .ok (.putfield 219, 3) := by decide +kernel
theorem dX8_trim_26 : decode cX8_trim 26 = .ok (.iload_n 1, 1) := by decide +kernel
theorem dX8_trim_27 : decode cX8_trim 27 = .ok (.ireturn, 1) := by decide +kernel
theorem dX8_text_0 : decode cX8_text 0 = .ok (.aload_n 0, 1) := by decide +kernel
theorem dX8_text_1 : decode cX8_text 1 = .ok (.getfield 46, 3) := by decide +kernel
theorem dX8_text_4 : decode cX8_text 4 = .ok (.invokevirtual 225, 3) := by decide +kernel
theorem dX8_text_7 : decode cX8_text 7 = .ok (.astore_n 1, 1) := by decide +kernel
theorem dX8_text_8 : decode cX8_text 8 = .ok (.aload_n 0, 1) := by decide +kernel
theorem dX8_text_9 : decode cX8_text 9 = .ok (.getfield 46, 3) := by decide +kernel
theorem dX8_text_12 : decode cX8_text 12 = .ok (.iconst 0, 1) := by decide +kernel
theorem dX8_text_13 : decode cX8_text 13 = .ok (.putfield 219, 3) := by decide +kernel
theorem dX8_text_16 : decode cX8_text 16 = .ok (.aload_n 1, 1) := by decide +kernel
theorem dX8_text_17 : decode cX8_text 17 = .ok (.ifnonnull 14, 3) := by decide +kernel
theorem dX8_text_20 : decode cX8_text 20 = .ok (.bipush (-100), 2) := by decide +kernel
theorem dX8_text_22 : decode cX8_text 22 = .ok (.aload_n 0, 1) := by decide +kernel
theorem dX8_text_23 : decode cX8_text 23 = .ok (.getfield 46, 3) := by decide +kernel
theorem dX8_text_26 : decode cX8_text 26 = .ok (.invokevirtual 229, 3) := by decide +kernel
theorem dX8_text_29 : decode cX8_text 29 = .ok (.isub, 1) := by decide +kernel
theorem dX8_text_30 : decode cX8_text 30 = .ok (.ireturn, 1) := by decide +kernel
theorem dX8_text_31 : decode cX8_text 31 = .ok (.aload_n 0, 1) := by decide +kernel
theorem dX8_text_32 : decode cX8_text 32 = .ok (.getfield 14, 3) := by decide +kernel
theorem dX8_text_35 : decode cX8_text 35 = .ok (.getfield 232, 3) := by decide +kernel
theorem dX8_text_38 : decode cX8_text 38 = .ok (.bipush 14, 2) := by decide +kernel
theorem dX8_text_40 : decode cX8_text 40 = .ok (.if_icmp .lt 6, 3) := by decide +kernel
theorem dX8_text_43 : decode cX8_text 43 = .ok (.ldc 77, 2) := by decide +kernel
theorem dX8_text_45 : decode cX8_text 45 = .ok (.ireturn, 1) := by decide +kernel
theorem dX8_text_46 : decode cX8_text 46 = .ok (.aload_n 0, 1) := by decide +kernel
theorem dX8_text_47 : decode cX8_text 47 = .ok (.getfield 14, 3) := by decide +kernel
theorem dX8_text_50 : decode cX8_text 50 = .ok (.getfield 235, 3) := by decide +kernel
theorem dX8_text_53 : decode cX8_text 53 = .ok (.aload_n 0, 1) := by decide +kernel
theorem dX8_text_54 : decode cX8_text 54 = .ok (.getfield 14, 3) := by decide +kernel
theorem dX8_text_57 : decode cX8_text 57 = .ok (.getfield 232, 3) := by decide +kernel
theorem dX8_text_60 : decode cX8_text 60 = .ok (.aload_n 1, 1) := by decide +kernel
theorem dX8_text_61 : decode cX8_text 61 = .ok (.aastore, 1) := by decide +kernel
theorem dX8_text_62 : decode cX8_text 62 = .ok (.aload_n 0, 1) := by decide +kernel
theorem dX8_text_63 : decode cX8_text 63 = .ok (.getfield 14, 3) := by decide +kernel
theorem dX8_text_66 : decode cX8_text 66 = .ok (.dup, 1) := by decide +kernel
theorem dX8_text_67 : decode cX8_text 67 = .ok (.getfield 232, 3) := by decide +kernel
theorem dX8_text_70 : decode cX8_text 70 = .ok (.iconst 1, 1) := by decide +kernel
theorem dX8_text_71 : decode cX8_text 71 = .ok (.iadd, 1) := by decide +kernel
theorem dX8_text_72 : decode cX8_text 72 = .ok (.putfield 232, 3) := by decide +kernel
theorem dX8_text_75 : decode cX8_text 75 = .ok (.aload_n 0, 1) := by decide +kernel
theorem dX8_text_76 : decode cX8_text 76 = .ok (.invokevirtual 81, 3) := by decide +kernel
theorem dX8_text_79 : decode cX8_text 79 = .ok (.aload_n 0, 1) := by decide +kernel
theorem dX8_text_80 : decode cX8_text 80 = .ok (.getfield 14, 3) := by decide +kernel
theorem dX8_text_83 : decode cX8_text 83 = .ok (.getfield 232, 3) := by decide +kernel
theorem dX8_text_86 : decode cX8_text 86 = .ok (.iconst 1, 1) := by decide +kernel
theorem dX8_text_87 : decode cX8_text 87 = .ok (.isub, 1) := by decide +kernel
theorem dX8_text_88 : decode cX8_text 88 = .ok (.ireturn, 1) := by decide +kernel
theorem dX8_textTold_0 : decode cX8_textTold 0 = .ok (.iload_n 1, 1) := by decide +kernel
theorem dX8_textTold_1 : decode cX8_textTold 1 = .ok (.iconst 0, 1) := by decide +kernel
theorem dX8_textTold_2 : decode cX8_textTold 2 = .ok (.aload_n 0, 1) := by decide +kernel
theorem dX8_textTold_3 : decode cX8_textTold 3 = .ok (.getfield 14, 3) := by decide +kernel
theorem dX8_textTold_6 : decode cX8_textTold 6 = .ok (.getfield 232, 3) := by decide +kernel
theorem dX8_textTold_9 : decode cX8_textTold 9 = .ok (.iconst 1, 1) := by decide +kernel
theorem dX8_textTold_10 : decode cX8_textTold 10 = .ok (.isub, 1) := by decide +kernel
theorem dX8_textTold_11 : decode cX8_textTold 11 = .ok (.invokestatic 68, 3) := by decide +kernel
theorem dX8_textTold_14 : decode cX8_textTold 14 = .ok (.ifCond .eq 24, 3) := by decide +kernel
theorem dX8_textTold_17 : decode cX8_textTold 17 = .ok (.iload_n 2, 1) := by decide +kernel
theorem dX8_textTold_18 : decode cX8_textTold 18 = .ok (.iconst 0, 1) := by decide +kernel
theorem dX8_textTold_19 : decode cX8_textTold 19 = .ok (.iconst 1, 1) := by decide +kernel
theorem dX8_textTold_20 : decode cX8_textTold 20 = .ok (.invokestatic 68, 3) := by decide +kernel
theorem dX8_textTold_23 : decode cX8_textTold 23 = .ok (.ifCond .eq 15, 3) := by decide +kernel
theorem dX8_textTold_26 : decode cX8_textTold 26 = .ok (.aload_n 0, 1) := by decide +kernel
theorem dX8_textTold_27 : decode cX8_textTold 27 = .ok (.getfield 14, 3) := by decide +kernel
theorem dX8_textTold_30 : decode cX8_textTold 30 = .ok (.getfield 235, 3) := by decide +kernel
theorem dX8_textTold_33 : decode cX8_textTold 33 = .ok (.iload_n 1, 1) := by decide +kernel
theorem dX8_textTold_34 : decode cX8_textTold 34 = .ok (.aaload, 1) := by decide +kernel
theorem dX8_textTold_35 : decode cX8_textTold 35 = .ok (.ifnonnull 6, 3) := by decide +kernel
theorem dX8_textTold_38 : decode cX8_textTold 38 = .ok (.ldc 72, 2) := by decide +kernel
theorem dX8_textTold_40 : decode cX8_textTold 40 = .ok (.ireturn, 1) := by decide +kernel
theorem dX8_textTold_41 : decode cX8_textTold 41 = .ok (.iload_n 2, 1) := by decide +kernel
theorem dX8_textTold_42 : decode cX8_textTold 42 = .ok (.ifCond .ne 18, 3) := by decide +kernel
theorem dX8_textTold_45 : decode cX8_textTold 45 = .ok (.aload_n 0, 1) := by decide +kernel
theorem dX8_textTold_46 : decode cX8_textTold 46 = .ok (.getfield 14, 3) := by decide +kernel
theorem dX8_textTold_49 : decode cX8_textTold 49 = .ok (.getfield 235, 3) := by decide +kernel
theorem dX8_textTold_52 : decode cX8_textTold 52 = .ok (.iload_n 1, 1) := by decide +kernel
theorem dX8_textTold_53 : decode cX8_textTold 53 = .ok (.aaload, 1) := by decide +kernel
theorem dX8_textTold_54 : decode cX8_textTold 54 = .ok (.getfield 239, 3) := by decide +kernel
theorem dX8_textTold_57 : decode cX8_textTold 57 = .ok (.goto 15, 3) := by decide +kernel
theorem dX8_textTold_60 : decode cX8_textTold 60 = .ok (.aload_n 0, 1) := by decide +kernel
theorem dX8_textTold_61 : decode cX8_textTold 61 = .ok (.getfield 14, 3) := by decide +kernel
theorem dX8_textTold_64 : decode cX8_textTold 64 = .ok (.getfield 235, 3) := by decide +kernel
theorem dX8_textTold_67 : decode cX8_textTold 67 = .ok (.iload_n 1, 1) := by decide +kernel
theorem dX8_textTold_68 : decode cX8_textTold 68 = .ok (.aaload, 1) := by decide +kernel
theorem dX8_textTold_69 : decode cX8_textTold 69 = .ok (.getfield 244, 3) := by decide +kernel
theorem dX8_textTold_72 : decode cX8_textTold 72 = .ok (.ireturn, 1) := by decide +kernel
theorem dX8_why_0 : decode cX8_why 0 = .ok (.iload_n 1, 1) := by decide +kernel
theorem dX8_why_1 : decode cX8_why 1 = .ok (.iconst 0, 1) := by decide +kernel
theorem dX8_why_2 : decode cX8_why 2 = .ok (.iconst 2, 1) := by decide +kernel
theorem dX8_why_3 : decode cX8_why 3 = .ok (.invokestatic 68, 3) := by decide +kernel
theorem dX8_why_6 : decode cX8_why 6 = .ok (.ifCond .eq 14, 3) := by decide +kernel
theorem dX8_why_9 : decode cX8_why 9 = .ok (.aload_n 0, 1) := by decide +kernel
theorem dX8_why_10 : decode cX8_why 10 = .ok (.getfield 14, 3) := by decide +kernel
theorem dX8_why_13 : decode cX8_why 13 = .ok (.iload_n 1, 1) := by decide +kernel
theorem dX8_why_14 : decode cX8_why 14 = .ok (.invokevirtual 247, 3) := by decide +kernel
theorem dX8_why_17 : decode cX8_why 17 = .ok (.goto 5, 3) := by decide +kernel
theorem dX8_why_20 : decode cX8_why 20 = .ok (.ldc 72, 2) := by decide +kernel
theorem dX8_why_22 : decode cX8_why 22 = .ok (.ireturn, 1) := by decide +kernel
theorem dX8_guest_0 : decode cX8_guest 0 = .ok (.aload_n 0, 1) := by decide +kernel
theorem dX8_guest_1 : decode cX8_guest 1 = .ok (.getfield 14, 3) := by decide +kernel
theorem dX8_guest_4 : decode cX8_guest 4 = .ok (.iload_n 1, 1) := by decide +kernel
theorem dX8_guest_5 : decode cX8_guest 5 = .ok (.invokevirtual 84, 3) := by decide +kernel
theorem dX8_guest_8 : decode cX8_guest 8 = .ok (.ifCond .eq 10, 3) := by decide +kernel
theorem dX8_guest_11 : decode cX8_guest 11 = .ok (.iload_n 2, 1) := by decide +kernel
theorem dX8_guest_12 : decode cX8_guest 12 = .ok (.invokestatic 96, 3) := by decide +kernel
theorem dX8_guest_15 : decode cX8_guest 15 = .ok (.ifCond .ne 6, 3) := by decide +kernel
theorem dX8_guest_18 : decode cX8_guest 18 = .ok (.ldc 72, 2) := by decide +kernel
theorem dX8_guest_20 : decode cX8_guest 20 = .ok (.ireturn, 1) := by decide +kernel
theorem dX8_guest_21 : decode cX8_guest 21 = .ok (.aload_n 0, 1) := by decide +kernel
theorem dX8_guest_22 : decode cX8_guest 22 = .ok (.getfield 14, 3) := by decide +kernel
theorem dX8_guest_25 : decode cX8_guest 25 = .ok (.getfield 250, 3) := by decide +kernel
theorem dX8_guest_28 : decode cX8_guest 28 = .ok (.bipush 10, 2) := by decide +kernel
theorem dX8_guest_30 : decode cX8_guest 30 = .ok (.if_icmp .lt 6, 3) := by decide +kernel
theorem dX8_guest_33 : decode cX8_guest 33 = .ok (.ldc 77, 2) := by decide +kernel
theorem dX8_guest_35 : decode cX8_guest 35 = .ok (.ireturn, 1) := by decide +kernel
theorem dX8_guest_36 : decode cX8_guest 36 = .ok (.aload_n 0, 1) := by decide +kernel
theorem dX8_guest_37 : decode cX8_guest 37 = .ok (.getfield 14, 3) := by decide +kernel
theorem dX8_guest_40 : decode cX8_guest 40 = .ok (.getfield 253, 3) := by decide +kernel
theorem dX8_guest_43 : decode cX8_guest 43 = .ok (.aload_n 0, 1) := by decide +kernel
theorem dX8_guest_44 : decode cX8_guest 44 = .ok (.getfield 14, 3) := by decide +kernel
theorem dX8_guest_47 : decode cX8_guest 47 = .ok (.getfield 250, 3) := by decide +kernel
theorem dX8_guest_50 : decode cX8_guest 50 = .ok (.iload_n 1, 1) := by decide +kernel
theorem dX8_guest_51 : decode cX8_guest 51 = .ok (.iastore, 1) := by decide +kernel
theorem dX8_guest_52 : decode cX8_guest 52 = .ok (.aload_n 0, 1) := by decide +kernel
theorem dX8_guest_53 : decode cX8_guest 53 = .ok (.getfield 14, 3) := by decide +kernel
theorem dX8_guest_56 : decode cX8_guest 56 = .ok (.getfield 256, 3) := by decide +kernel
theorem dX8_guest_59 : decode cX8_guest 59 = .ok (.aload_n 0, 1) := by decide +kernel
theorem dX8_guest_60 : decode cX8_guest 60 = .ok (.getfield 14, 3) := by decide +kernel
theorem dX8_guest_63 : decode cX8_guest 63 = .ok (.getfield 250, 3) := by decide +kernel
theorem dX8_guest_66 : decode cX8_guest 66 = .ok (.iload_n 2, 1) := by decide +kernel
theorem dX8_guest_67 : decode cX8_guest 67 = .ok (.iastore, 1) := by decide +kernel
theorem dX8_guest_68 : decode cX8_guest 68 = .ok (.aload_n 0, 1) := by decide +kernel
theorem dX8_guest_69 : decode cX8_guest 69 = .ok (.getfield 14, 3) := by decide +kernel
theorem dX8_guest_72 : decode cX8_guest 72 = .ok (.dup, 1) := by decide +kernel
theorem dX8_guest_73 : decode cX8_guest 73 = .ok (.getfield 250, 3) := by decide +kernel
theorem dX8_guest_76 : decode cX8_guest 76 = .ok (.iconst 1, 1) := by decide +kernel
theorem dX8_guest_77 : decode cX8_guest 77 = .ok (.iadd, 1) := by decide +kernel
theorem dX8_guest_78 : decode cX8_guest 78 = .ok (.putfield 250, 3) := by decide +kernel
theorem dX8_guest_81 : decode cX8_guest 81 = .ok (.aload_n 0, 1) := by decide +kernel
theorem dX8_guest_82 : decode cX8_guest 82 = .ok (.getfield 14, 3) := by decide +kernel
theorem dX8_guest_85 : decode cX8_guest 85 = .ok (.getfield 250, 3) := by decide +kernel
theorem dX8_guest_88 : decode cX8_guest 88 = .ok (.iconst 1, 1) := by decide +kernel
theorem dX8_guest_89 : decode cX8_guest 89 = .ok (.isub, 1) := by decide +kernel
theorem dX8_guest_90 : decode cX8_guest 90 = .ok (.ireturn, 1) := by decide +kernel
theorem dX8_part_0 : decode cX8_part 0 = .ok (.aload_n 0, 1) := by decide +kernel
theorem dX8_part_1 : decode cX8_part 1 = .ok (.getfield 14, 3) := by decide +kernel
theorem dX8_part_4 : decode cX8_part 4 = .ok (.getfield 250, 3) := by decide +kernel
theorem dX8_part_7 : decode cX8_part 7 = .ok (.istore_n 1, 1) := by decide +kernel
theorem dX8_part_8 : decode cX8_part 8 = .ok (.aload_n 0, 1) := by decide +kernel
theorem dX8_part_9 : decode cX8_part 9 = .ok (.getfield 14, 3) := by decide +kernel
theorem dX8_part_12 : decode cX8_part 12 = .ok (.iconst 0, 1) := by decide +kernel
theorem dX8_part_13 : decode cX8_part 13 = .ok (.putfield 250, 3) := by decide +kernel
theorem dX8_part_16 : decode cX8_part 16 = .ok (.iload_n 1, 1) := by decide +kernel
theorem dX8_part_17 : decode cX8_part 17 = .ok (.ireturn, 1) := by decide +kernel
theorem dX8_gather_0 : decode cX8_gather 0 = .ok (.iload_n 1, 1) := by decide +kernel
theorem dX8_gather_1 : decode cX8_gather 1 = .ok (.iconst 0, 1) := by decide +kernel
theorem dX8_gather_2 : decode cX8_gather 2 = .ok (.iconst 1, 1) := by decide +kernel
theorem dX8_gather_3 : decode cX8_gather 3 = .ok (.invokestatic 68, 3) := by decide +kernel
theorem dX8_gather_6 : decode cX8_gather 6 = .ok (.ifCond .ne 6, 3) := by decide +kernel
theorem dX8_gather_9 : decode cX8_gather 9 = .ok (.ldc 72, 2) := by decide +kernel
theorem dX8_gather_11 : decode cX8_gather 11 = .ok (.ireturn, 1) := by decide +kernel
theorem dX8_gather_12 : decode cX8_gather 12 = .ok (.aload_n 0, 1) := by decide +kernel
theorem dX8_gather_13 : decode cX8_gather 13 = .ok (.getfield 33, 3) := by decide +kernel
theorem dX8_gather_16 : decode cX8_gather 16 = .ok (.aload_n 0, 1) := by decide +kernel
theorem dX8_gather_17 : decode cX8_gather 17 = .ok (.getfield 24, 3) := by decide +kernel
theorem dX8_gather_20 : decode cX8_gather 20 = .ok (.aload_n 0, 1) := by decide +kernel
theorem dX8_gather_21 : decode cX8_gather 21 = .ok (.getfield 14, 3) := by decide +kernel
theorem dX8_gather_24 : decode cX8_gather 24 = .ok (.invokevirtual 207, 3) := by decide +kernel
theorem dX8_gather_27 : decode cX8_gather 27 = .ok (.astore_n 2, 1) := by decide +kernel
theorem dX8_gather_28 : decode cX8_gather 28 = .ok (.ldc 159, 2) := by decide +kernel
theorem dX8_gather_30 : decode cX8_gather 30 = .ok (.istore_n 3, 1) := by decide +kernel
theorem dX8_gather_31 : decode cX8_gather 31 = .ok (.ldc 159, 2) := by decide +kernel
theorem dX8_gather_33 : decode cX8_gather 33 = .ok (.istore 4, 2) := by decide +kernel
theorem dX8_gather_35 : decode cX8_gather 35 = .ok (.iconst 0, 1) := by decide +kernel
theorem dX8_gather_36 : decode cX8_gather 36 = .ok (.istore 5, 2) := by decide +kernel
theorem dX8_gather_38 : decode cX8_gather 38 = .ok (.iload 5, 2) := by decide +kernel
theorem dX8_gather_40 : decode cX8_gather 40 = .ok (.aload_n 0, 1) := by decide +kernel
theorem dX8_gather_41 : decode cX8_gather 41 = .ok (.getfield 14, 3) := by decide +kernel
theorem dX8_gather_44 : decode cX8_gather 44 = .ok (.getfield 250, 3) := by decide +kernel
theorem dX8_gather_47 : decode cX8_gather 47 = .ok (.if_icmp .ge 59, 3) := by decide +kernel
theorem dX8_gather_50 : decode cX8_gather 50 = .ok (.aload_n 2, 1) := by decide +kernel
theorem dX8_gather_51 : decode cX8_gather 51 = .ok (.aload_n 0, 1) := by decide +kernel
theorem dX8_gather_52 : decode cX8_gather 52 = .ok (.getfield 24, 3) := by decide +kernel
theorem dX8_gather_55 : decode cX8_gather 55 = .ok (.aload_n 0, 1) := by decide +kernel
theorem dX8_gather_56 : decode cX8_gather 56 = .ok (.getfield 14, 3) := by decide +kernel
theorem dX8_gather_59 : decode cX8_gather 59 = .ok (.getfield 253, 3) := by decide +kernel
theorem dX8_gather_62 : decode cX8_gather 62 = .ok (.iload 5, 2) := by decide +kernel
theorem dX8_gather_64 : decode cX8_gather 64 = .ok (.iaload, 1) := by decide +kernel
theorem dX8_gather_65 : decode cX8_gather 65 = .ok (.aload_n 0, 1) := by decide +kernel
theorem dX8_gather_66 : decode cX8_gather 66 = .ok (.getfield 14, 3) := by decide +kernel
theorem dX8_gather_69 : decode cX8_gather 69 = .ok (.getfield 256, 3) := by decide +kernel
theorem dX8_gather_72 : decode cX8_gather 72 = .ok (.iload 5, 2) := by decide +kernel
theorem dX8_gather_74 : decode cX8_gather 74 = .ok (.iaload, 1) := by decide +kernel
theorem dX8_gather_75 : decode cX8_gather 75 = .ok (.invokevirtual 211, 3) := by decide +kernel
theorem dX8_gather_78 : decode cX8_gather 78 = .ok (.istore 6, 2) := by decide +kernel
theorem dX8_gather_80 : decode cX8_gather 80 = .ok (.iload_n 3, 1) := by decide +kernel
theorem dX8_gather_81 : decode cX8_gather 81 = .ok (.ldc 159, 2) := by decide +kernel
theorem dX8_gather_83 : decode cX8_gather 83 = .ok (.if_icmp .eq 10, 3) := by decide +kernel
theorem dX8_gather_86 : decode cX8_gather 86 = .ok (.iload 6, 2) := by decide +kernel
theorem dX8_gather_88 : decode cX8_gather 88 = .ok (.iload 4, 2) := by decide +kernel
theorem dX8_gather_90 : decode cX8_gather 90 = .ok (.if_icmp .le 10, 3) := by decide +kernel
theorem dX8_gather_93 : decode cX8_gather 93 = .ok (.iload 5, 2) := by decide +kernel
theorem dX8_gather_95 : decode cX8_gather 95 = .ok (.istore_n 3, 1) := by decide +kernel
theorem dX8_gather_96 : decode cX8_gather 96 = .ok (.iload 6, 2) := by decide +kernel
theorem dX8_gather_98 : decode cX8_gather 98 = .ok (.istore 4, 2) := by decide +kernel
theorem dX8_gather_100 : decode cX8_gather 100 = .ok (.iinc 5 1, 3) := by decide +kernel
theorem dX8_gather_103 : decode cX8_gather 103 = .ok (.goto (-65), 3) := by decide +kernel
theorem dX8_gather_106 : decode cX8_gather 106 = .ok (.iload_n 1, 1) := by decide +kernel
theorem dX8_gather_107 : decode cX8_gather 107 = .ok (.ifCond .ne 8, 3) := by decide +kernel
theorem dX8_gather_110 : decode cX8_gather 110 = .ok (.iload 4, 2) := by decide +kernel
theorem dX8_gather_112 : decode cX8_gather 112 = .ok (.goto 4, 3) := by decide +kernel
theorem dX8_gather_115 : decode cX8_gather 115 = .ok (.iload_n 3, 1) := by decide +kernel
theorem dX8_gather_116 : decode cX8_gather 116 = .ok (.ireturn, 1) := by decide +kernel
theorem dX8_ride_0 : decode cX8_ride 0 = .ok (.aload_n 0, 1) := by decide +kernel
theorem dX8_ride_1 : decode cX8_ride 1 = .ok (.iload_n 1, 1) := by decide +kernel
theorem dX8_ride_2 : decode cX8_ride 2 = .ok (.iload_n 2, 1) := by decide +kernel
theorem dX8_ride_3 : decode cX8_ride 3 = .ok (.invokevirtual 204, 3) := by decide +kernel
theorem dX8_ride_6 : decode cX8_ride 6 = .ok (.ifCond .ne 6, 3) := by decide +kernel
theorem dX8_ride_9 : decode cX8_ride 9 = .ok (.ldc 72, 2) := by decide +kernel
theorem dX8_ride_11 : decode cX8_ride 11 = .ok (.ireturn, 1) := by decide +kernel
theorem dX8_ride_12 : decode cX8_ride 12 = .ok (.aload_n 0, 1) := by decide +kernel
theorem dX8_ride_13 : decode cX8_ride 13 = .ok (.getfield 33, 3) := by decide +kernel
theorem dX8_ride_16 : decode cX8_ride 16 = .ok (.aload_n 0, 1) := by decide +kernel
theorem dX8_ride_17 : decode cX8_ride 17 = .ok (.getfield 24, 3) := by decide +kernel
theorem dX8_ride_20 : decode cX8_ride 20 = .ok (.aload_n 0, 1) := by decide +kernel
theorem dX8_ride_21 : decode cX8_ride 21 = .ok (.getfield 14, 3) := by decide +kernel
theorem dX8_ride_24 : decode cX8_ride 24 = .ok (.invokevirtual 207, 3) := by decide +kernel
theorem dX8_ride_27 : decode cX8_ride 27 = .ok (.pop, 1) := by decide +kernel
theorem dX8_ride_28 : decode cX8_ride 28 = .ok (.aload_n 0, 1) := by decide +kernel
theorem dX8_ride_29 : decode cX8_ride 29 = .ok (.aload_n 0, 1) := by decide +kernel
theorem dX8_ride_30 : decode cX8_ride 30 = .ok (.getfield 14, 3) := by decide +kernel
theorem dX8_ride_33 : decode cX8_ride 33 = .ok (.iload_n 1, 1) := by decide +kernel
theorem dX8_ride_34 : decode cX8_ride 34 = .ok (.iload_n 2, 1) := by decide +kernel
theorem dX8_ride_35 : decode cX8_ride 35 = .ok (.invokevirtual 259, 3) := by decide +kernel
theorem dX8_ride_38 : decode cX8_ride 38 = .ok (.ireturn, 1) := by decide +kernel
theorem dX8_seed_0 : decode cX8_seed 0 = .ok (.aload_n 0, 1) := by decide +kernel
theorem dX8_seed_1 : decode cX8_seed 1 = .ok (.getfield 14, 3) := by decide +kernel
theorem dX8_seed_4 : decode cX8_seed 4 = .ok (.getfield 263, 3) := by decide +kernel
theorem dX8_seed_7 : decode cX8_seed 7 = .ok (.istore_n 2, 1) := by decide +kernel
theorem dX8_seed_8 : decode cX8_seed 8 = .ok (.aload_n 0, 1) := by decide +kernel
theorem dX8_seed_9 : decode cX8_seed 9 = .ok (.getfield 14, 3) := by decide +kernel
theorem dX8_seed_12 : decode cX8_seed 12 = .ok (.iload_n 1, 1) := by decide +kernel
theorem dX8_seed_13 : decode cX8_seed 13 = .ok (.putfield 263, 3) := by decide +kernel
theorem dX8_seed_16 : decode cX8_seed 16 = .ok (.iload_n 2, 1) := by decide +kernel
theorem dX8_seed_17 : decode cX8_seed 17 = .ok (.ireturn, 1) := by decide +kernel
theorem dX8_sheet_0 : decode cX8_sheet 0 = .ok (.iload_n 1, 1) := by decide +kernel
theorem dX8_sheet_1 : decode cX8_sheet 1 = .ok (.invokestatic 266, 3) := by decide +kernel
theorem dX8_sheet_4 : decode cX8_sheet 4 = .ok (.ifCond .eq 12, 3) := by decide +kernel
theorem dX8_sheet_7 : decode cX8_sheet 7 = .ok (.iload_n 2, 1) := by decide +kernel
theorem dX8_sheet_8 : decode cX8_sheet 8 = .ok (.iconst (-1), 1) := by decide +kernel
theorem dX8_sheet_9 : decode cX8_sheet 9 = .ok (.iconst 1, 1) := by decide +kernel
theorem dX8_sheet_10 : decode cX8_sheet 10 = .ok (.invokestatic 68, 3) := by decide +kernel
theorem dX8_sheet_13 : decode cX8_sheet 13 = .ok (.ifCond .ne 6, 3) := by decide +kernel
theorem dX8_sheet_16 : decode cX8_sheet 16 = .ok (.ldc 72, 2) := by decide +kernel
theorem dX8_sheet_18 : decode cX8_sheet 18 = .ok (.ireturn, 1) := by decide +kernel
theorem dX8_sheet_19 : decode cX8_sheet 19 = .ok (.iload_n 2, 1) := by decide +kernel
theorem dX8_sheet_20 : decode cX8_sheet 20 = .ok (.iconst (-1), 1) := by decide +kernel
theorem dX8_sheet_21 : decode cX8_sheet 21 = .ok (.if_icmp .ne 16, 3) := by decide +kernel
theorem dX8_sheet_24 : decode cX8_sheet 24 = .ok (.aload_n 0, 1) := by decide +kernel
theorem dX8_sheet_25 : decode cX8_sheet 25 = .ok (.getfield 52, 3) := by decide +kernel
theorem dX8_sheet_28 : decode cX8_sheet 28 = .ok (.iload_n 1, 1) := by decide +kernel
theorem dX8_sheet_29 : decode cX8_sheet 29 = .ok (.aaload, 1) := by decide +kernel
theorem dX8_sheet_30 : decode cX8_sheet 30 = .ok (.iconst (-1), 1) := by decide +kernel
theorem dX8_sheet_31 : decode cX8_sheet 31 = .ok (.iconst 0, 1) := by decide +kernel
theorem dX8_sheet_32 : decode cX8_sheet 32 = .ok (.invokevirtual 269, 3) := by decide +kernel
theorem dX8_sheet_35 : decode cX8_sheet 35 = .ok (.iconst 0, 1) := by decide +kernel
theorem dX8_sheet_36 : decode cX8_sheet 36 = .ok (.ireturn, 1) := by decide +kernel
theorem dX8_sheet_37 : decode cX8_sheet 37 = .ok (.iload_n 3, 1) := by decide +kernel
theorem dX8_sheet_38 : decode cX8_sheet 38 = .ok (.bipush 24, 2) := by decide +kernel
theorem dX8_sheet_40 : decode cX8_sheet 40 = .ok (.if_icmp .le 6, 3) := by decide +kernel
theorem dX8_sheet_43 : decode cX8_sheet 43 = .ok (.ldc 72, 2) := by decide +kernel
theorem dX8_sheet_45 : decode cX8_sheet 45 = .ok (.ireturn, 1) := by decide +kernel
theorem dX8_sheet_46 : decode cX8_sheet 46 = .ok (.iload_n 3, 1) := by decide +kernel
theorem dX8_sheet_47 : decode cX8_sheet 47 = .ok (.ifCond .ge 7, 3) := by decide +kernel
theorem dX8_sheet_50 : decode cX8_sheet 50 = .ok (.ldc_w 272, 3) := by decide +kernel
theorem dX8_sheet_53 : decode cX8_sheet 53 = .ok (.ireturn, 1) := by decide +kernel
theorem dX8_sheet_54 : decode cX8_sheet 54 = .ok (.aload_n 0, 1) := by decide +kernel
theorem dX8_sheet_55 : decode cX8_sheet 55 = .ok (.getfield 52, 3) := by decide +kernel
theorem dX8_sheet_58 : decode cX8_sheet 58 = .ok (.iload_n 1, 1) := by decide +kernel
theorem dX8_sheet_59 : decode cX8_sheet 59 = .ok (.aaload, 1) := by decide +kernel
theorem dX8_sheet_60 : decode cX8_sheet 60 = .ok (.iload_n 2, 1) := by decide +kernel
theorem dX8_sheet_61 : decode cX8_sheet 61 = .ok (.iload_n 3, 1) := by decide +kernel
theorem dX8_sheet_62 : decode cX8_sheet 62 = .ok (.invokevirtual 269, 3) := by decide +kernel
theorem dX8_sheet_65 : decode cX8_sheet 65 = .ok (.iload_n 3, 1) := by decide +kernel
theorem dX8_sheet_66 : decode cX8_sheet 66 = .ok (.ireturn, 1) := by decide +kernel
theorem dX8_mark_0 : decode cX8_mark 0 = .ok (.iload_n 1, 1) := by decide +kernel
theorem dX8_mark_1 : decode cX8_mark 1 = .ok (.invokestatic 266, 3) := by decide +kernel
theorem dX8_mark_4 : decode cX8_mark 4 = .ok (.ifCond .ne 6, 3) := by decide +kernel
theorem dX8_mark_7 : decode cX8_mark 7 = .ok (.ldc 72, 2) := by decide +kernel
theorem dX8_mark_9 : decode cX8_mark 9 = .ok (.ireturn, 1) := by decide +kernel
theorem dX8_mark_10 : decode cX8_mark 10 = .ok (.aload_n 0, 1) := by decide +kernel
theorem dX8_mark_11 : decode cX8_mark 11 = .ok (.getfield 52, 3) := by decide +kernel
theorem dX8_mark_14 : decode cX8_mark 14 = .ok (.iload_n 1, 1) := by decide +kernel
theorem dX8_mark_15 : decode cX8_mark 15 = .ok (.aaload, 1) := by decide +kernel
theorem dX8_mark_16 : decode cX8_mark 16 = .ok (.astore 4, 2) := by decide +kernel
theorem dX8_mark_18 : decode cX8_mark 18 = .ok (.aload 4, 2) := by decide +kernel
theorem dX8_mark_20 : decode cX8_mark 20 = .ok (.getfield 273, 3) := by decide +kernel
theorem dX8_mark_23 : decode cX8_mark 23 = .ok (.iconst (-1), 1) := by decide +kernel
theorem dX8_mark_24 : decode cX8_mark 24 = .ok (.if_icmp .ne 7, 3) := by decide +kernel
theorem dX8_mark_27 : decode cX8_mark 27 = .ok (.ldc_w 276, 3) := by decide +kernel
theorem dX8_mark_30 : decode cX8_mark 30 = .ok (.ireturn, 1) := by decide +kernel
theorem dX8_mark_31 : decode cX8_mark 31 = .ok (.aload 4, 2) := by decide +kernel
theorem dX8_mark_33 : decode cX8_mark 33 = .ok (.iload_n 2, 1) := by decide +kernel
theorem dX8_mark_34 : decode cX8_mark 34 = .ok (.invokevirtual 277, 3) := by decide +kernel
theorem dX8_mark_37 : decode cX8_mark 37 = .ok (.ifCond .ne 7, 3) := by decide +kernel
theorem dX8_mark_40 : decode cX8_mark 40 = .ok (.ldc_w 280, 3) := by decide +kernel
theorem dX8_mark_43 : decode cX8_mark 43 = .ok (.ireturn, 1) := by decide +kernel
theorem dX8_mark_44 : decode cX8_mark 44 = .ok (.aload 4, 2) := by decide +kernel
theorem dX8_mark_46 : decode cX8_mark 46 = .ok (.getfield 273, 3) := by decide +kernel
theorem dX8_mark_49 : decode cX8_mark 49 = .ok (.ifCond .ne 23, 3) := by decide +kernel
theorem dX8_mark_52 : decode cX8_mark 52 = .ok (.iload_n 3, 1) := by decide +kernel
theorem dX8_mark_53 : decode cX8_mark 53 = .ok (.ldc 159, 2) := by decide +kernel
theorem dX8_mark_55 : decode cX8_mark 55 = .ok (.if_icmp .ne 6, 3) := by decide +kernel
theorem dX8_mark_58 : decode cX8_mark 58 = .ok (.ldc 148, 2) := by decide +kernel
theorem dX8_mark_60 : decode cX8_mark 60 = .ok (.ireturn, 1) := by decide +kernel
theorem dX8_mark_61 : decode cX8_mark 61 = .ok (.aload 4, 2) := by decide +kernel
theorem dX8_mark_63 : decode cX8_mark 63 = .ok (.getfield 281, 3) := by decide +kernel
theorem dX8_mark_66 : decode cX8_mark 66 = .ok (.iload_n 2, 1) := by decide +kernel
theorem dX8_mark_67 : decode cX8_mark 67 = .ok (.iload_n 3, 1) := by decide +kernel
theorem dX8_mark_68 : decode cX8_mark 68 = .ok (.i2s, 1) := by decide +kernel
theorem dX8_mark_69 : decode cX8_mark 69 = .ok (.iastore, 1) := by decide +kernel
theorem dX8_mark_70 : decode cX8_mark 70 = .ok (.iconst 1, 1) := by decide +kernel
theorem dX8_mark_71 : decode cX8_mark 71 = .ok (.ireturn, 1) := by decide +kernel
theorem dX8_mark_72 : decode cX8_mark 72 = .ok (.iload_n 3, 1) := by decide +kernel
theorem dX8_mark_73 : decode cX8_mark 73 = .ok (.ldc 159, 2) := by decide +kernel
theorem dX8_mark_75 : decode cX8_mark 75 = .ok (.if_icmp .eq 19, 3) := by decide +kernel
theorem dX8_mark_78 : decode cX8_mark 78 = .ok (.iload_n 3, 1) := by decide +kernel
theorem dX8_mark_79 : decode cX8_mark 79 = .ok (.ldc_w 284, 3) := by decide +kernel
theorem dX8_mark_82 : decode cX8_mark 82 = .ok (.ldc_w 285, 3) := by decide +kernel
theorem dX8_mark_85 : decode cX8_mark 85 = .ok (.invokestatic 68, 3) := by decide +kernel
theorem dX8_mark_88 : decode cX8_mark 88 = .ok (.ifCond .ne 6, 3) := by decide +kernel
theorem dX8_mark_91 : decode cX8_mark 91 = .ok (.ldc 72, 2) := by decide +kernel
theorem dX8_mark_93 : decode cX8_mark 93 = .ok (.ireturn, 1) := by decide +kernel
theorem dX8_mark_94 : decode cX8_mark 94 = .ok (.aload 4, 2) := by decide +kernel
theorem dX8_mark_96 : decode cX8_mark 96 = .ok (.getfield 281, 3) := by decide +kernel
theorem dX8_mark_99 : decode cX8_mark 99 = .ok (.iload_n 2, 1) := by decide +kernel
theorem dX8_mark_100 : decode cX8_mark 100 = .ok (.iload_n 3, 1) := by decide +kernel
theorem dX8_mark_101 : decode cX8_mark 101 = .ok (.iastore, 1) := by decide +kernel
theorem dX8_mark_102 : decode cX8_mark 102 = .ok (.iconst 1, 1) := by decide +kernel
theorem dX8_mark_103 : decode cX8_mark 103 = .ok (.ireturn, 1) := by decide +kernel
theorem dX8_pour_0 : decode cX8_pour 0 = .ok (.iload_n 1, 1) := by decide +kernel
theorem dX8_pour_1 : decode cX8_pour 1 = .ok (.invokestatic 266, 3) := by decide +kernel
theorem dX8_pour_4 : decode cX8_pour 4 = .ok (.ifCond .eq 14, 3) := by decide +kernel
theorem dX8_pour_7 : decode cX8_pour 7 = .ok (.aload_n 0, 1) := by decide +kernel
theorem dX8_pour_8 : decode cX8_pour 8 = .ok (.getfield 14, 3) := by decide +kernel
theorem dX8_pour_11 : decode cX8_pour 11 = .ok (.iload_n 2, 1) := by decide +kernel
theorem dX8_pour_12 : decode cX8_pour 12 = .ok (.invokevirtual 121, 3) := by decide +kernel
theorem dX8_pour_15 : decode cX8_pour 15 = .ok (.ifCond .ne 6, 3) := by decide +kernel
theorem dX8_pour_18 : decode cX8_pour 18 = .ok (.ldc 72, 2) := by decide +kernel
theorem dX8_pour_20 : decode cX8_pour 20 = .ok (.ireturn, 1) := by decide +kernel
theorem dX8_pour_21 : decode cX8_pour 21 = .ok (.aload_n 0, 1) := by decide +kernel
theorem dX8_pour_22 : decode cX8_pour 22 = .ok (.getfield 52, 3) := by decide +kernel
theorem dX8_pour_25 : decode cX8_pour 25 = .ok (.iload_n 1, 1) := by decide +kernel
theorem dX8_pour_26 : decode cX8_pour 26 = .ok (.aaload, 1) := by decide +kernel
theorem dX8_pour_27 : decode cX8_pour 27 = .ok (.astore_n 3, 1) := by decide +kernel
theorem dX8_pour_28 : decode cX8_pour 28 = .ok (.aload_n 3, 1) := by decide +kernel
theorem dX8_pour_29 : decode cX8_pour 29 = .ok (.getfield 273, 3) := by decide +kernel
theorem dX8_pour_32 : decode cX8_pour 32 = .ok (.iconst (-1), 1) := by decide +kernel
theorem dX8_pour_33 : decode cX8_pour 33 = .ok (.if_icmp .ne 7, 3) := by decide +kernel
theorem dX8_pour_36 : decode cX8_pour 36 = .ok (.ldc_w 276, 3) := by decide +kernel
theorem dX8_pour_39 : decode cX8_pour 39 = .ok (.ireturn, 1) := by decide +kernel
theorem dX8_pour_40 : decode cX8_pour 40 = .ok (.aload_n 3, 1) := by decide +kernel
theorem dX8_pour_41 : decode cX8_pour 41 = .ok (.getfield 286, 3) := by decide +kernel
theorem dX8_pour_44 : decode cX8_pour 44 = .ok (.iconst 3, 1) := by decide +kernel
theorem dX8_pour_45 : decode cX8_pour 45 = .ok (.if_icmp .ge 7, 3) := by decide +kernel
theorem dX8_pour_48 : decode cX8_pour 48 = .ok (.ldc_w 280, 3) := by decide +kernel
theorem dX8_pour_51 : decode cX8_pour 51 = .ok (.ireturn, 1) := by decide +kernel
theorem dX8_pour_52 : decode cX8_pour 52 = .ok (.aload_n 3, 1) := by decide +kernel
theorem dX8_pour_53 : decode cX8_pour 53 = .ok (.getfield 281, 3) := by decide +kernel
theorem dX8_pour_56 : decode cX8_pour 56 = .ok (.iconst 0, 1) := by decide +kernel
theorem dX8_pour_57 : decode cX8_pour 57 = .ok (.iaload, 1) := by decide +kernel
theorem dX8_pour_58 : decode cX8_pour 58 = .ok (.istore 4, 2) := by decide +kernel
theorem dX8_pour_60 : decode cX8_pour 60 = .ok (.aload_n 3, 1) := by decide +kernel
theorem dX8_pour_61 : decode cX8_pour 61 = .ok (.getfield 281, 3) := by decide +kernel
theorem dX8_pour_64 : decode cX8_pour 64 = .ok (.iconst 1, 1) := by decide +kernel
theorem dX8_pour_65 : decode cX8_pour 65 = .ok (.iaload, 1) := by decide +kernel
theorem dX8_pour_66 : decode cX8_pour 66 = .ok (.istore 5, 2) := by decide +kernel
theorem dX8_pour_68 : decode cX8_pour 68 = .ok (.aload_n 3, 1) := by decide +kernel
theorem dX8_pour_69 : decode cX8_pour 69 = .ok (.getfield 281, 3) := by decide +kernel
theorem dX8_pour_72 : decode cX8_pour 72 = .ok (.iconst 2, 1) := by decide +kernel
theorem dX8_pour_73 : decode cX8_pour 73 = .ok (.iaload, 1) := by decide +kernel
theorem dX8_pour_74 : decode cX8_pour 74 = .ok (.istore 6, 2) := by decide +kernel
theorem dX8_pour_76 : decode cX8_pour 76 = .ok (.iload 4, 2) := by decide +kernel
theorem dX8_pour_78 : decode cX8_pour 78 = .ok (.ldc 159, 2) := by decide +kernel
theorem dX8_pour_80 : decode cX8_pour 80 = .ok (.if_icmp .eq 17, 3) := by decide +kernel
theorem dX8_pour_83 : decode cX8_pour 83 = .ok (.iload 5, 2) := by decide +kernel
theorem dX8_pour_85 : decode cX8_pour 85 = .ok (.ldc 159, 2) := by decide +kernel
theorem dX8_pour_87 : decode cX8_pour 87 = .ok (.if_icmp .eq 10, 3) := by decide +kernel
theorem dX8_pour_90 : decode cX8_pour 90 = .ok (.iload 6, 2) := by decide +kernel
theorem dX8_pour_92 : decode cX8_pour 92 = .ok (.ldc 159, 2) := by decide +kernel
theorem dX8_pour_94 : decode cX8_pour 94 = .ok (.if_icmp .ne 6, 3) := by decide +kernel
theorem dX8_pour_97 : decode cX8_pour 97 = .ok (.ldc 148, 2) := by decide +kernel
theorem dX8_pour_99 : decode cX8_pour 99 = .ok (.ireturn, 1) := by decide +kernel
theorem dX8_pour_100 : decode cX8_pour 100 = .ok (.iload 4, 2) := by decide +kernel
theorem dX8_pour_102 : decode cX8_pour 102 = .ok (.iload 5, 2) := by decide +kernel
theorem dX8_pour_104 : decode cX8_pour 104 = .ok (.iload 6, 2) := by decide +kernel
theorem dX8_pour_106 : decode cX8_pour 106 = .ok (.invokestatic 152, 3) := by decide +kernel
theorem dX8_pour_109 : decode cX8_pour 109 = .ok (.ifCond .eq 17, 3) := by decide +kernel
theorem dX8_pour_112 : decode cX8_pour 112 = .ok (.aload_n 0, 1) := by decide +kernel
theorem dX8_pour_113 : decode cX8_pour 113 = .ok (.iload_n 2, 1) := by decide +kernel
theorem dX8_pour_114 : decode cX8_pour 114 = .ok (.iload 4, 2) := by decide +kernel
theorem dX8_pour_116 : decode cX8_pour 116 = .ok (.iload 5, 2) := by decide +kernel
theorem dX8_pour_118 : decode cX8_pour 118 = .ok (.iload 6, 2) := by decide +kernel
theorem dX8_pour_120 : decode cX8_pour 120 = .ok (.invokevirtual 155, 3) := by decide +kernel
theorem dX8_pour_123 : decode cX8_pour 123 = .ok (.goto 5, 3) := by decide +kernel
theorem dX8_pour_126 : decode cX8_pour 126 = .ok (.ldc 72, 2) := by decide +kernel
theorem dX8_pour_128 : decode cX8_pour 128 = .ok (.ireturn, 1) := by decide +kernel
theorem dX8_reads_0 : decode cX8_reads 0 = .ok (.iload_n 1, 1) := by decide +kernel
theorem dX8_reads_1 : decode cX8_reads 1 = .ok (.invokestatic 266, 3) := by decide +kernel
theorem dX8_reads_4 : decode cX8_reads 4 = .ok (.ifCond .eq 14, 3) := by decide +kernel
theorem dX8_reads_7 : decode cX8_reads 7 = .ok (.aload_n 0, 1) := by decide +kernel
theorem dX8_reads_8 : decode cX8_reads 8 = .ok (.getfield 14, 3) := by decide +kernel
theorem dX8_reads_11 : decode cX8_reads 11 = .ok (.iload_n 2, 1) := by decide +kernel
theorem dX8_reads_12 : decode cX8_reads 12 = .ok (.invokevirtual 121, 3) := by decide +kernel
theorem dX8_reads_15 : decode cX8_reads 15 = .ok (.ifCond .ne 6, 3) := by decide +kernel
theorem dX8_reads_18 : decode cX8_reads 18 = .ok (.ldc 72, 2) := by decide +kernel
theorem dX8_reads_20 : decode cX8_reads 20 = .ok (.ireturn, 1) := by decide +kernel
theorem dX8_reads_21 : decode cX8_reads 21 = .ok (.aload_n 0, 1) := by decide +kernel
theorem dX8_reads_22 : decode cX8_reads 22 = .ok (.getfield 52, 3) := by decide +kernel
theorem dX8_reads_25 : decode cX8_reads 25 = .ok (.iload_n 1, 1) := by decide +kernel
theorem dX8_reads_26 : decode cX8_reads 26 = .ok (.aaload, 1) := by decide +kernel
theorem dX8_reads_27 : decode cX8_reads 27 = .ok (.astore_n 3, 1) := by decide +kernel
theorem dX8_reads_28 : decode cX8_reads 28 = .ok (.aload_n 3, 1) := by decide +kernel
theorem dX8_reads_29 : decode cX8_reads 29 = .ok (.getfield 273, 3) := by decide +kernel
theorem dX8_reads_32 : decode cX8_reads 32 = .ok (.iconst (-1), 1) := by decide +kernel
theorem dX8_reads_33 : decode cX8_reads 33 = .ok (.if_icmp .ne 7, 3) := by decide +kernel
theorem dX8_reads_36 : decode cX8_reads 36 = .ok (.ldc_w 276, 3) := by decide +kernel
theorem dX8_reads_39 : decode cX8_reads 39 = .ok (.ireturn, 1) := by decide +kernel
theorem dX8_reads_40 : decode cX8_reads 40 = .ok (.aload_n 0, 1) := by decide +kernel
theorem dX8_reads_41 : decode cX8_reads 41 = .ok (.getfield 24, 3) := by decide +kernel
theorem dX8_reads_44 : decode cX8_reads 44 = .ok (.aload_n 0, 1) := by decide +kernel
theorem dX8_reads_45 : decode cX8_reads 45 = .ok (.getfield 14, 3) := by decide +kernel
theorem dX8_reads_48 : decode cX8_reads 48 = .ok (.invokevirtual 88, 3) := by decide +kernel
theorem dX8_reads_51 : decode cX8_reads 51 = .ok (.iconst 0, 1) := by decide +kernel
theorem dX8_reads_52 : decode cX8_reads 52 = .ok (.istore 4, 2) := by decide +kernel
theorem dX8_reads_54 : decode cX8_reads 54 = .ok (.iload 4, 2) := by decide +kernel
theorem dX8_reads_56 : decode cX8_reads 56 = .ok (.aload_n 3, 1) := by decide +kernel
theorem dX8_reads_57 : decode cX8_reads 57 = .ok (.getfield 286, 3) := by decide +kernel
theorem dX8_reads_60 : decode cX8_reads 60 = .ok (.if_icmp .ge 49, 3) := by decide +kernel
theorem dX8_reads_63 : decode cX8_reads 63 = .ok (.aload_n 3, 1) := by decide +kernel
theorem dX8_reads_64 : decode cX8_reads 64 = .ok (.getfield 281, 3) := by decide +kernel
theorem dX8_reads_67 : decode cX8_reads 67 = .ok (.iload 4, 2) := by decide +kernel
theorem dX8_reads_69 : decode cX8_reads 69 = .ok (.iaload, 1) := by decide +kernel
theorem dX8_reads_70 : decode cX8_reads 70 = .ok (.istore 5, 2) := by decide +kernel
theorem dX8_reads_72 : decode cX8_reads 72 = .ok (.iload 5, 2) := by decide +kernel
theorem dX8_reads_74 : decode cX8_reads 74 = .ok (.ldc 159, 2) := by decide +kernel
theorem dX8_reads_76 : decode cX8_reads 76 = .ok (.if_icmp .eq 27, 3) := by decide +kernel
theorem dX8_reads_79 : decode cX8_reads 79 = .ok (.iload 4, 2) := by decide +kernel
theorem dX8_reads_81 : decode cX8_reads 81 = .ok (.iconst 4, 1) := by decide +kernel
theorem dX8_reads_82 : decode cX8_reads 82 = .ok (.if_icmp .ge 18, 3) := by decide +kernel
theorem dX8_reads_85 : decode cX8_reads 85 = .ok (.iload 5, 2) := by decide +kernel
theorem dX8_reads_87 : decode cX8_reads 87 = .ok (.aload_n 0, 1) := by decide +kernel
theorem dX8_reads_88 : decode cX8_reads 88 = .ok (.getfield 24, 3) := by decide +kernel
theorem dX8_reads_91 : decode cX8_reads 91 = .ok (.iload_n 2, 1) := by decide +kernel
theorem dX8_reads_92 : decode cX8_reads 92 = .ok (.iload 4, 2) := by decide +kernel
theorem dX8_reads_94 : decode cX8_reads 94 = .ok (.invokevirtual 124, 3) := by decide +kernel
theorem dX8_reads_97 : decode cX8_reads 97 = .ok (.if_icmp .eq 6, 3) := by decide +kernel
theorem dX8_reads_100 : decode cX8_reads 100 = .ok (.iload 4, 2) := by decide +kernel
theorem dX8_reads_102 : decode cX8_reads 102 = .ok (.ireturn, 1) := by decide +kernel
theorem dX8_reads_103 : decode cX8_reads 103 = .ok (.iinc 4 1, 3) := by decide +kernel
theorem dX8_reads_106 : decode cX8_reads 106 = .ok (.goto (-52), 3) := by decide +kernel
theorem dX8_reads_109 : decode cX8_reads 109 = .ok (.ldc 159, 2) := by decide +kernel
theorem dX8_reads_111 : decode cX8_reads 111 = .ok (.ireturn, 1) := by decide +kernel
theorem dX8_copy_0 : decode cX8_copy 0 = .ok (.iload_n 1, 1) := by decide +kernel
theorem dX8_copy_1 : decode cX8_copy 1 = .ok (.invokestatic 266, 3) := by decide +kernel
theorem dX8_copy_4 : decode cX8_copy 4 = .ok (.ifCond .eq 10, 3) := by decide +kernel
theorem dX8_copy_7 : decode cX8_copy 7 = .ok (.iload_n 3, 1) := by decide +kernel
theorem dX8_copy_8 : decode cX8_copy 8 = .ok (.invokestatic 266, 3) := by decide +kernel
theorem dX8_copy_11 : decode cX8_copy 11 = .ok (.ifCond .ne 6, 3) := by decide +kernel
theorem dX8_copy_14 : decode cX8_copy 14 = .ok (.ldc 72, 2) := by decide +kernel
theorem dX8_copy_16 : decode cX8_copy 16 = .ok (.ireturn, 1) := by decide +kernel
theorem dX8_copy_17 : decode cX8_copy 17 = .ok (.aload_n 0, 1) := by decide +kernel
theorem dX8_copy_18 : decode cX8_copy 18 = .ok (.getfield 52, 3) := by decide +kernel
theorem dX8_copy_21 : decode cX8_copy 21 = .ok (.iload_n 1, 1) := by decide +kernel
theorem dX8_copy_22 : decode cX8_copy 22 = .ok (.aaload, 1) := by decide +kernel
theorem dX8_copy_23 : decode cX8_copy 23 = .ok (.astore 6, 2) := by decide +kernel
theorem dX8_copy_25 : decode cX8_copy 25 = .ok (.aload_n 0, 1) := by decide +kernel
theorem dX8_copy_26 : decode cX8_copy 26 = .ok (.getfield 52, 3) := by decide +kernel
theorem dX8_copy_29 : decode cX8_copy 29 = .ok (.iload_n 3, 1) := by decide +kernel
theorem dX8_copy_30 : decode cX8_copy 30 = .ok (.aaload, 1) := by decide +kernel
theorem dX8_copy_31 : decode cX8_copy 31 = .ok (.astore 7, 2) := by decide +kernel
theorem dX8_copy_33 : decode cX8_copy 33 = .ok (.aload 6, 2) := by decide +kernel
theorem dX8_copy_35 : decode cX8_copy 35 = .ok (.getfield 273, 3) := by decide +kernel
theorem dX8_copy_38 : decode cX8_copy 38 = .ok (.iconst (-1), 1) := by decide +kernel
theorem dX8_copy_39 : decode cX8_copy 39 = .ok (.if_icmp .eq 12, 3) := by decide +kernel
theorem dX8_copy_42 : decode cX8_copy 42 = .ok (.aload 7, 2) := by decide +kernel
theorem dX8_copy_44 : decode cX8_copy 44 = .ok (.getfield 273, 3) := by decide +kernel
theorem dX8_copy_47 : decode cX8_copy 47 = .ok (.iconst (-1), 1) := by decide +kernel
theorem dX8_copy_48 : decode cX8_copy 48 = .ok (.if_icmp .ne 7, 3) := by decide +kernel
theorem dX8_copy_51 : decode cX8_copy 51 = .ok (.ldc_w 276, 3) := by decide +kernel
theorem dX8_copy_54 : decode cX8_copy 54 = .ok (.ireturn, 1) := by decide +kernel
theorem dX8_copy_55 : decode cX8_copy 55 = .ok (.aload 6, 2) := by decide +kernel
theorem dX8_copy_57 : decode cX8_copy 57 = .ok (.getfield 273, 3) := by decide +kernel
theorem dX8_copy_60 : decode cX8_copy 60 = .ok (.aload 7, 2) := by decide +kernel
theorem dX8_copy_62 : decode cX8_copy 62 = .ok (.getfield 273, 3) := by decide +kernel
theorem dX8_copy_65 : decode cX8_copy 65 = .ok (.if_icmp .eq 6, 3) := by decide +kernel
theorem dX8_copy_68 : decode cX8_copy 68 = .ok (.ldc 148, 2) := by decide +kernel
theorem dX8_copy_70 : decode cX8_copy 70 = .ok (.ireturn, 1) := by decide +kernel
theorem dX8_copy_71 : decode cX8_copy 71 = .ok (.aload 6, 2) := by decide +kernel
theorem dX8_copy_73 : decode cX8_copy 73 = .ok (.iload_n 2, 1) := by decide +kernel
theorem dX8_copy_74 : decode cX8_copy 74 = .ok (.iload 5, 2) := by decide +kernel
theorem dX8_copy_76 : decode cX8_copy 76 = .ok (.invokevirtual 287, 3) := by decide +kernel
theorem dX8_copy_79 : decode cX8_copy 79 = .ok (.ifCond .eq 15, 3) := by decide +kernel
theorem dX8_copy_82 : decode cX8_copy 82 = .ok (.aload 7, 2) := by decide +kernel
theorem dX8_copy_84 : decode cX8_copy 84 = .ok (.iload 4, 2) := by decide +kernel
theorem dX8_copy_86 : decode cX8_copy 86 = .ok (.iload 5, 2) := by decide +kernel
theorem dX8_copy_88 : decode cX8_copy 88 = .ok (.invokevirtual 287, 3) := by decide +kernel
theorem dX8_copy_91 : decode cX8_copy 91 = .ok (.ifCond .ne 7, 3) := by decide +kernel
theorem dX8_copy_94 : decode cX8_copy 94 = .ok (.ldc_w 280, 3) := by decide +kernel
theorem dX8_copy_97 : decode cX8_copy 97 = .ok (.ireturn, 1) := by decide +kernel
theorem dX8_copy_98 : decode cX8_copy 98 = .ok (.aload 6, 2) := by decide +kernel
theorem dX8_copy_100 : decode cX8_copy 100 = .ok (.getfield 281, 3) := by decide +kernel
theorem dX8_copy_103 : decode cX8_copy 103 = .ok (.iload_n 2, 1) := by decide +kernel
theorem dX8_copy_104 : decode cX8_copy 104 = .ok (.aload 7, 2) := by decide +kernel
theorem dX8_copy_106 : decode cX8_copy 106 = .ok (.getfield 281, 3) := by decide +kernel
theorem dX8_copy_109 : decode cX8_copy 109 = .ok (.iload 4, 2) := by decide +kernel
theorem dX8_copy_111 : decode cX8_copy 111 = .ok (.iload 5, 2) := by decide +kernel
theorem dX8_copy_113 : decode cX8_copy 113 = .ok (.invokestatic 290, 3) := by decide +kernel
theorem dX8_copy_116 : decode cX8_copy 116 = .ok (.iload 5, 2) := by decide +kernel
theorem dX8_copy_118 : decode cX8_copy 118 = .ok (.ireturn, 1) := by decide +kernel
theorem dX8_lay_0 : decode cX8_lay 0 = .ok (.iload_n 1, 1) := by decide +kernel
theorem dX8_lay_1 : decode cX8_lay 1 = .ok (.invokestatic 296, 3) := by decide +kernel
theorem dX8_lay_4 : decode cX8_lay 4 = .ok (.ifCond .eq 12, 3) := by decide +kernel
theorem dX8_lay_7 : decode cX8_lay 7 = .ok (.iload_n 2, 1) := by decide +kernel
theorem dX8_lay_8 : decode cX8_lay 8 = .ok (.iconst 0, 1) := by decide +kernel
theorem dX8_lay_9 : decode cX8_lay 9 = .ok (.iconst 3, 1) := by decide +kernel
theorem dX8_lay_10 : decode cX8_lay 10 = .ok (.invokestatic 68, 3) := by decide +kernel
theorem dX8_lay_13 : decode cX8_lay 13 = .ok (.ifCond .ne 6, 3) := by decide +kernel
theorem dX8_lay_16 : decode cX8_lay 16 = .ok (.ldc 72, 2) := by decide +kernel
theorem dX8_lay_18 : decode cX8_lay 18 = .ok (.ireturn, 1) := by decide +kernel
theorem dX8_lay_19 : decode cX8_lay 19 = .ok (.iload_n 2, 1) := by decide +kernel
theorem dX8_lay_20 : decode cX8_lay 20 = .ok (.iconst 1, 1) := by decide +kernel
theorem dX8_lay_21 : decode cX8_lay 21 = .ok (.if_icmp .ne 14, 3) := by decide +kernel
theorem dX8_lay_24 : decode cX8_lay 24 = .ok (.aload_n 0, 1) := by decide +kernel
theorem dX8_lay_25 : decode cX8_lay 25 = .ok (.getfield 14, 3) := by decide +kernel
theorem dX8_lay_28 : decode cX8_lay 28 = .ok (.iload_n 3, 1) := by decide +kernel
theorem dX8_lay_29 : decode cX8_lay 29 = .ok (.invokevirtual 121, 3) := by decide +kernel
theorem dX8_lay_32 : decode cX8_lay 32 = .ok (.ifCond .eq 15, 3) := by decide +kernel
theorem dX8_lay_35 : decode cX8_lay 35 = .ok (.iload_n 2, 1) := by decide +kernel
theorem dX8_lay_36 : decode cX8_lay 36 = .ok (.iconst 2, 1) := by decide +kernel
theorem dX8_lay_37 : decode cX8_lay 37 = .ok (.if_icmp .ne 13, 3) := by decide +kernel
theorem dX8_lay_40 : decode cX8_lay 40 = .ok (.iload_n 3, 1) := by decide +kernel
theorem dX8_lay_41 : decode cX8_lay 41 = .ok (.invokestatic 266, 3) := by decide +kernel
theorem dX8_lay_44 : decode cX8_lay 44 = .ok (.ifCond .ne 6, 3) := by decide +kernel
theorem dX8_lay_47 : decode cX8_lay 47 = .ok (.ldc 72, 2) := by decide +kernel
theorem dX8_lay_49 : decode cX8_lay 49 = .ok (.ireturn, 1) := by decide +kernel
theorem dX8_lay_50 : decode cX8_lay 50 = .ok (.iload_n 2, 1) := by decide +kernel
theorem dX8_lay_51 : decode cX8_lay 51 = .ok (.iconst 2, 1) := by decide +kernel
theorem dX8_lay_52 : decode cX8_lay 52 = .ok (.if_icmp .ne 20, 3) := by decide +kernel
theorem dX8_lay_55 : decode cX8_lay 55 = .ok (.aload_n 0, 1) := by decide +kernel
theorem dX8_lay_56 : decode cX8_lay 56 = .ok (.getfield 52, 3) := by decide +kernel
theorem dX8_lay_59 : decode cX8_lay 59 = .ok (.iload_n 3, 1) := by decide +kernel
theorem dX8_lay_60 : decode cX8_lay 60 = .ok (.aaload, 1) := by decide +kernel
theorem dX8_lay_61 : decode cX8_lay 61 = .ok (.getfield 273, 3) := by decide +kernel
theorem dX8_lay_64 : decode cX8_lay 64 = .ok (.iconst (-1), 1) := by decide +kernel
theorem dX8_lay_65 : decode cX8_lay 65 = .ok (.if_icmp .ne 7, 3) := by decide +kernel
theorem dX8_lay_68 : decode cX8_lay 68 = .ok (.ldc_w 276, 3) := by decide +kernel
theorem dX8_lay_71 : decode cX8_lay 71 = .ok (.ireturn, 1) := by decide +kernel
theorem dX8_lay_72 : decode cX8_lay 72 = .ok (.aload_n 0, 1) := by decide +kernel
theorem dX8_lay_73 : decode cX8_lay 73 = .ok (.getfield 58, 3) := by decide +kernel
theorem dX8_lay_76 : decode cX8_lay 76 = .ok (.iload_n 1, 1) := by decide +kernel
theorem dX8_lay_77 : decode cX8_lay 77 = .ok (.aaload, 1) := by decide +kernel
theorem dX8_lay_78 : decode cX8_lay 78 = .ok (.astore 4, 2) := by decide +kernel
theorem dX8_lay_80 : decode cX8_lay 80 = .ok (.aload 4, 2) := by decide +kernel
theorem dX8_lay_82 : decode cX8_lay 82 = .ok (.getfield 299, 3) := by decide +kernel
theorem dX8_lay_85 : decode cX8_lay 85 = .ok (.istore 5, 2) := by decide +kernel
theorem dX8_lay_87 : decode cX8_lay 87 = .ok (.aload 4, 2) := by decide +kernel
theorem dX8_lay_89 : decode cX8_lay 89 = .ok (.iload_n 2, 1) := by decide +kernel
theorem dX8_lay_90 : decode cX8_lay 90 = .ok (.putfield 299, 3) := by decide +kernel
theorem dX8_lay_93 : decode cX8_lay 93 = .ok (.iload_n 2, 1) := by decide +kernel
theorem dX8_lay_94 : decode cX8_lay 94 = .ok (.iconst 1, 1) := by decide +kernel
theorem dX8_lay_95 : decode cX8_lay 95 = .ok (.if_icmp .ne 23, 3) := by decide +kernel
theorem dX8_lay_98 : decode cX8_lay 98 = .ok (.aload 4, 2) := by decide +kernel
theorem dX8_lay_100 : decode cX8_lay 100 = .ok (.getfield 302, 3) := by decide +kernel
theorem dX8_lay_103 : decode cX8_lay 103 = .ok (.aload_n 0, 1) := by decide +kernel
theorem dX8_lay_104 : decode cX8_lay 104 = .ok (.getfield 14, 3) := by decide +kernel
theorem dX8_lay_107 : decode cX8_lay 107 = .ok (.getfield 105, 3) := by decide +kernel
theorem dX8_lay_110 : decode cX8_lay 110 = .ok (.iload_n 3, 1) := by decide +kernel
theorem dX8_lay_111 : decode cX8_lay 111 = .ok (.aaload, 1) := by decide +kernel
theorem dX8_lay_112 : decode cX8_lay 112 = .ok (.invokevirtual 305, 3) := by decide +kernel
theorem dX8_lay_115 : decode cX8_lay 115 = .ok (.goto 31, 3) := by decide +kernel
theorem dX8_lay_118 : decode cX8_lay 118 = .ok (.iload_n 2, 1) := by decide +kernel
theorem dX8_lay_119 : decode cX8_lay 119 = .ok (.iconst 2, 1) := by decide +kernel
theorem dX8_lay_120 : decode cX8_lay 120 = .ok (.if_icmp .ne 20, 3) := by decide +kernel
theorem dX8_lay_123 : decode cX8_lay 123 = .ok (.aload 4, 2) := by decide +kernel
theorem dX8_lay_125 : decode cX8_lay 125 = .ok (.getfield 309, 3) := by decide +kernel
theorem dX8_lay_128 : decode cX8_lay 128 = .ok (.aload_n 0, 1) := by decide +kernel
theorem dX8_lay_129 : decode cX8_lay 129 = .ok (.getfield 52, 3) := by decide +kernel
theorem dX8_lay_132 : decode cX8_lay 132 = .ok (.iload_n 3, 1) := by decide +kernel
theorem dX8_lay_133 : decode cX8_lay 133 = .ok (.aaload, 1) := by decide +kernel
theorem dX8_lay_134 : decode cX8_lay 134 = .ok (.invokevirtual 313, 3) := by decide +kernel
theorem dX8_lay_137 : decode cX8_lay 137 = .ok (.goto 9, 3) := by decide +kernel
theorem dX8_lay_140 : decode cX8_lay 140 = .ok (.aload 4, 2) := by decide +kernel
theorem dX8_lay_142 : decode cX8_lay 142 = .ok (.iload_n 3, 1) := by decide +kernel
theorem dX8_lay_143 : decode cX8_lay 143 = .ok (.putfield 316, 3) := by decide +kernel
theorem dX8_lay_146 : decode cX8_lay 146 = .ok (.iload 5, 2) := by decide +kernel
theorem dX8_lay_148 : decode cX8_lay 148 = .ok (.ireturn, 1) := by decide +kernel
theorem dX8_ask_0 : decode cX8_ask 0 = .ok (.iload_n 1, 1) := by decide +kernel
theorem dX8_ask_1 : decode cX8_ask 1 = .ok (.invokestatic 296, 3) := by decide +kernel
theorem dX8_ask_4 : decode cX8_ask 4 = .ok (.ifCond .eq 10, 3) := by decide +kernel
theorem dX8_ask_7 : decode cX8_ask 7 = .ok (.iload_n 2, 1) := by decide +kernel
theorem dX8_ask_8 : decode cX8_ask 8 = .ok (.invokestatic 93, 3) := by decide +kernel
theorem dX8_ask_11 : decode cX8_ask 11 = .ok (.ifCond .ne 6, 3) := by decide +kernel
theorem dX8_ask_14 : decode cX8_ask 14 = .ok (.ldc 72, 2) := by decide +kernel
theorem dX8_ask_16 : decode cX8_ask 16 = .ok (.ireturn, 1) := by decide +kernel
theorem dX8_ask_17 : decode cX8_ask 17 = .ok (.aload_n 0, 1) := by decide +kernel
theorem dX8_ask_18 : decode cX8_ask 18 = .ok (.getfield 58, 3) := by decide +kernel
theorem dX8_ask_21 : decode cX8_ask 21 = .ok (.iload_n 1, 1) := by decide +kernel
theorem dX8_ask_22 : decode cX8_ask 22 = .ok (.aaload, 1) := by decide +kernel
theorem dX8_ask_23 : decode cX8_ask 23 = .ok (.astore_n 3, 1) := by decide +kernel
theorem dX8_ask_24 : decode cX8_ask 24 = .ok (.aload_n 3, 1) := by decide +kernel
theorem dX8_ask_25 : decode cX8_ask 25 = .ok (.getfield 299, 3) := by decide +kernel
theorem dX8_ask_28 : decode cX8_ask 28 = .ok (.ifCond .ne 7, 3) := by decide +kernel
theorem dX8_ask_31 : decode cX8_ask 31 = .ok (.ldc_w 276, 3) := by decide +kernel
theorem dX8_ask_34 : decode cX8_ask 34 = .ok (.ireturn, 1) := by decide +kernel
theorem dX8_ask_35 : decode cX8_ask 35 = .ok (.aload_n 3, 1) := by decide +kernel
theorem dX8_ask_36 : decode cX8_ask 36 = .ok (.getfield 299, 3) := by decide +kernel
theorem dX8_ask_39 : decode cX8_ask 39 = .ok (.iconst 1, 1) := by decide +kernel
theorem dX8_ask_40 : decode cX8_ask 40 = .ok (.if_icmp .ne 17, 3) := by decide +kernel
theorem dX8_ask_43 : decode cX8_ask 43 = .ok (.aload_n 3, 1) := by decide +kernel
theorem dX8_ask_44 : decode cX8_ask 44 = .ok (.getfield 302, 3) := by decide +kernel
theorem dX8_ask_47 : decode cX8_ask 47 = .ok (.getfield 141, 3) := by decide +kernel
theorem dX8_ask_50 : decode cX8_ask 50 = .ok (.iload_n 2, 1) := by decide +kernel
theorem dX8_ask_51 : decode cX8_ask 51 = .ok (.invokestatic 144, 3) := by decide +kernel
theorem dX8_ask_54 : decode cX8_ask 54 = .ok (.ifCond .ne 6, 3) := by decide +kernel
theorem dX8_ask_57 : decode cX8_ask 57 = .ok (.ldc 148, 2) := by decide +kernel
theorem dX8_ask_59 : decode cX8_ask 59 = .ok (.ireturn, 1) := by decide +kernel
theorem dX8_ask_60 : decode cX8_ask 60 = .ok (.aload_n 3, 1) := by decide +kernel
theorem dX8_ask_61 : decode cX8_ask 61 = .ok (.getfield 302, 3) := by decide +kernel
theorem dX8_ask_64 : decode cX8_ask 64 = .ok (.invokevirtual 319, 3) := by decide +kernel
theorem dX8_ask_67 : decode cX8_ask 67 = .ok (.ireturn, 1) := by decide +kernel
theorem dX8_item_0 : decode cX8_item 0 = .ok (.iload_n 1, 1) := by decide +kernel
theorem dX8_item_1 : decode cX8_item 1 = .ok (.invokestatic 296, 3) := by decide +kernel
theorem dX8_item_4 : decode cX8_item 4 = .ok (.ifCond .ne 6, 3) := by decide +kernel
theorem dX8_item_7 : decode cX8_item 7 = .ok (.ldc 72, 2) := by decide +kernel
theorem dX8_item_9 : decode cX8_item 9 = .ok (.ireturn, 1) := by decide +kernel
theorem dX8_item_10 : decode cX8_item 10 = .ok (.aload_n 0, 1) := by decide +kernel
theorem dX8_item_11 : decode cX8_item 11 = .ok (.getfield 58, 3) := by decide +kernel
theorem dX8_item_14 : decode cX8_item 14 = .ok (.iload_n 1, 1) := by decide +kernel
theorem dX8_item_15 : decode cX8_item 15 = .ok (.aaload, 1) := by decide +kernel
theorem dX8_item_16 : decode cX8_item 16 = .ok (.astore_n 3, 1) := by decide +kernel
theorem dX8_item_17 : decode cX8_item 17 = .ok (.aload_n 3, 1) := by decide +kernel
theorem dX8_item_18 : decode cX8_item 18 = .ok (.getfield 299, 3) := by decide +kernel
theorem dX8_item_21 : decode cX8_item 21 = .ok (.ifCond .ne 7, 3) := by decide +kernel
theorem dX8_item_24 : decode cX8_item 24 = .ok (.ldc_w 276, 3) := by decide +kernel
theorem dX8_item_27 : decode cX8_item 27 = .ok (.ireturn, 1) := by decide +kernel
theorem dX8_item_28 : decode cX8_item 28 = .ok (.aload_n 3, 1) := by decide +kernel
theorem dX8_item_29 : decode cX8_item 29 = .ok (.getfield 299, 3) := by decide +kernel
theorem dX8_item_32 : decode cX8_item 32 = .ok (.iconst 2, 1) := by decide +kernel
theorem dX8_item_33 : decode cX8_item 33 = .ok (.if_icmp .eq 6, 3) := by decide +kernel
theorem dX8_item_36 : decode cX8_item 36 = .ok (.ldc 148, 2) := by decide +kernel
theorem dX8_item_38 : decode cX8_item 38 = .ok (.ireturn, 1) := by decide +kernel
theorem dX8_item_39 : decode cX8_item 39 = .ok (.aload_n 3, 1) := by decide +kernel
theorem dX8_item_40 : decode cX8_item 40 = .ok (.getfield 309, 3) := by decide +kernel
theorem dX8_item_43 : decode cX8_item 43 = .ok (.iload_n 2, 1) := by decide +kernel
theorem dX8_item_44 : decode cX8_item 44 = .ok (.invokevirtual 277, 3) := by decide +kernel
theorem dX8_item_47 : decode cX8_item 47 = .ok (.ifCond .ne 7, 3) := by decide +kernel
theorem dX8_item_50 : decode cX8_item 50 = .ok (.ldc_w 280, 3) := by decide +kernel
theorem dX8_item_53 : decode cX8_item 53 = .ok (.ireturn, 1) := by decide +kernel
theorem dX8_item_54 : decode cX8_item 54 = .ok (.aload_n 3, 1) := by decide +kernel
theorem dX8_item_55 : decode cX8_item 55 = .ok (.getfield 309, 3) := by decide +kernel
theorem dX8_item_58 : decode cX8_item 58 = .ok (.getfield 281, 3) := by decide +kernel
theorem dX8_item_61 : decode cX8_item 61 = .ok (.iload_n 2, 1) := by decide +kernel
theorem dX8_item_62 : decode cX8_item 62 = .ok (.iaload, 1) := by decide +kernel
theorem dX8_item_63 : decode cX8_item 63 = .ok (.istore 4, 2) := by decide +kernel
theorem dX8_item_65 : decode cX8_item 65 = .ok (.iload 4, 2) := by decide +kernel
theorem dX8_item_67 : decode cX8_item 67 = .ok (.ldc 159, 2) := by decide +kernel
theorem dX8_item_69 : decode cX8_item 69 = .ok (.if_icmp .ne 8, 3) := by decide +kernel
theorem dX8_item_72 : decode cX8_item 72 = .ok (.ldc 148, 2) := by decide +kernel
theorem dX8_item_74 : decode cX8_item 74 = .ok (.goto 5, 3) := by decide +kernel
theorem dX8_item_77 : decode cX8_item 77 = .ok (.iload 4, 2) := by decide +kernel
theorem dX8_item_79 : decode cX8_item 79 = .ok (.ireturn, 1) := by decide +kernel
theorem dX8_rest_0 : decode cX8_rest 0 = .ok (.iload_n 1, 1) := by decide +kernel
theorem dX8_rest_1 : decode cX8_rest 1 = .ok (.invokestatic 296, 3) := by decide +kernel
theorem dX8_rest_4 : decode cX8_rest 4 = .ok (.ifCond .ne 6, 3) := by decide +kernel
theorem dX8_rest_7 : decode cX8_rest 7 = .ok (.ldc 72, 2) := by decide +kernel
theorem dX8_rest_9 : decode cX8_rest 9 = .ok (.ireturn, 1) := by decide +kernel
theorem dX8_rest_10 : decode cX8_rest 10 = .ok (.aload_n 0, 1) := by decide +kernel
theorem dX8_rest_11 : decode cX8_rest 11 = .ok (.getfield 58, 3) := by decide +kernel
theorem dX8_rest_14 : decode cX8_rest 14 = .ok (.iload_n 1, 1) := by decide +kernel
theorem dX8_rest_15 : decode cX8_rest 15 = .ok (.aaload, 1) := by decide +kernel
theorem dX8_rest_16 : decode cX8_rest 16 = .ok (.astore_n 3, 1) := by decide +kernel
theorem dX8_rest_17 : decode cX8_rest 17 = .ok (.aload_n 3, 1) := by decide +kernel
theorem dX8_rest_18 : decode cX8_rest 18 = .ok (.getfield 299, 3) := by decide +kernel
theorem dX8_rest_21 : decode cX8_rest 21 = .ok (.ifCond .ne 7, 3) := by decide +kernel
theorem dX8_rest_24 : decode cX8_rest 24 = .ok (.ldc_w 276, 3) := by decide +kernel
theorem dX8_rest_27 : decode cX8_rest 27 = .ok (.ireturn, 1) := by decide +kernel
theorem dX8_rest_28 : decode cX8_rest 28 = .ok (.aload_n 3, 1) := by decide +kernel
theorem dX8_rest_29 : decode cX8_rest 29 = .ok (.getfield 299, 3) := by decide +kernel
theorem dX8_rest_32 : decode cX8_rest 32 = .ok (.iconst 3, 1) := by decide +kernel
theorem dX8_rest_33 : decode cX8_rest 33 = .ok (.if_icmp .eq 6, 3) := by decide +kernel
theorem dX8_rest_36 : decode cX8_rest 36 = .ok (.ldc 148, 2) := by decide +kernel
theorem dX8_rest_38 : decode cX8_rest 38 = .ok (.ireturn, 1) := by decide +kernel
theorem dX8_rest_39 : decode cX8_rest 39 = .ok (.iload_n 2, 1) := by decide +kernel
theorem dX8_rest_40 : decode cX8_rest 40 = .ok (.ifCond .ne 8, 3) := by decide +kernel
theorem dX8_rest_43 : decode cX8_rest 43 = .ok (.ldc 176, 2) := by decide +kernel
theorem dX8_rest_45 : decode cX8_rest 45 = .ok (.goto 9, 3) := by decide +kernel
theorem dX8_rest_48 : decode cX8_rest 48 = .ok (.aload_n 3, 1) := by decide +kernel
theorem dX8_rest_49 : decode cX8_rest 49 = .ok (.getfield 316, 3) := by decide +kernel
theorem dX8_rest_52 : decode cX8_rest 52 = .ok (.iload_n 2, 1) := by decide +kernel
theorem dX8_rest_53 : decode cX8_rest 53 = .ok (.irem, 1) := by decide +kernel
theorem dX8_rest_54 : decode cX8_rest 54 = .ok (.ireturn, 1) := by decide +kernel
theorem dX8_tell_0 : decode cX8_tell 0 = .ok (.aload_n 0, 1) := by decide +kernel
theorem dX8_tell_1 : decode cX8_tell 1 = .ok (.getfield 322, 3) := by decide +kernel
theorem dX8_tell_4 : decode cX8_tell 4 = .ok (.bipush 60, 2) := by decide +kernel
theorem dX8_tell_6 : decode cX8_tell 6 = .ok (.if_icmp .lt 6, 3) := by decide +kernel
theorem dX8_tell_9 : decode cX8_tell 9 = .ok (.ldc 77, 2) := by decide +kernel
theorem dX8_tell_11 : decode cX8_tell 11 = .ok (.ireturn, 1) := by decide +kernel
theorem dX8_tell_12 : decode cX8_tell 12 = .ok (.aload_n 0, 1) := by decide +kernel
theorem dX8_tell_13 : decode cX8_tell 13 = .ok (.getfield 62, 3) := by decide +kernel
theorem dX8_tell_16 : decode cX8_tell 16 = .ok (.aload_n 0, 1) := by decide +kernel
theorem dX8_tell_17 : decode cX8_tell 17 = .ok (.getfield 322, 3) := by decide +kernel
theorem dX8_tell_20 : decode cX8_tell 20 = .ok (.iload_n 1, 1) := by decide +kernel
theorem dX8_tell_21 : decode cX8_tell 21 = .ok (.iastore, 1) := by decide +kernel
theorem dX8_tell_22 : decode cX8_tell 22 = .ok (.aload_n 0, 1) := by decide +kernel
theorem dX8_tell_23 : decode cX8_tell 23 = .ok (.dup, 1) := by decide +kernel
theorem dX8_tell_24 : decode cX8_tell 24 = .ok (.getfield 322, 3) := by decide +kernel
theorem dX8_tell_27 : decode cX8_tell 27 = .ok (.iconst 1, 1) := by decide +kernel
theorem dX8_tell_28 : decode cX8_tell 28 = .ok (.iadd, 1) := by decide +kernel
theorem dX8_tell_29 : decode cX8_tell 29 = .ok (.putfield 322, 3) := by decide +kernel
theorem dX8_tell_32 : decode cX8_tell 32 = .ok (.aload_n 0, 1) := by decide +kernel
theorem dX8_tell_33 : decode cX8_tell 33 = .ok (.getfield 322, 3) := by decide +kernel
theorem dX8_tell_36 : decode cX8_tell 36 = .ok (.ireturn, 1) := by decide +kernel
theorem dX8_check_0 : decode cX8_check 0 = .ok (.aload_n 0, 1) := by decide +kernel
theorem dX8_check_1 : decode cX8_check 1 = .ok (.getfield 322, 3) := by decide +kernel
theorem dX8_check_4 : decode cX8_check 4 = .ok (.istore_n 2, 1) := by decide +kernel
theorem dX8_check_5 : decode cX8_check 5 = .ok (.aload_n 0, 1) := by decide +kernel
theorem dX8_check_6 : decode cX8_check 6 = .ok (.iconst 0, 1) := by decide +kernel
theorem dX8_check_7 : decode cX8_check 7 = .ok (.putfield 322, 3) := by decide +kernel
theorem dX8_check_10 : decode cX8_check 10 = .ok (.iload_n 1, 1) := by decide +kernel
theorem dX8_check_11 : decode cX8_check 11 = .ok (.iconst 1, 1) := by decide +kernel
theorem dX8_check_12 : decode cX8_check 12 = .ok (.bipush 30, 2) := by decide +kernel
theorem dX8_check_14 : decode cX8_check 14 = .ok (.invokestatic 68, 3) := by decide +kernel
theorem dX8_check_17 : decode cX8_check 17 = .ok (.ifCond .ne 6, 3) := by decide +kernel
theorem dX8_check_20 : decode cX8_check 20 = .ok (.ldc 72, 2) := by decide +kernel
theorem dX8_check_22 : decode cX8_check 22 = .ok (.ireturn, 1) := by decide +kernel
theorem dX8_check_23 : decode cX8_check 23 = .ok (.aload_n 0, 1) := by decide +kernel
theorem dX8_check_24 : decode cX8_check 24 = .ok (.getfield 325, 3) := by decide +kernel
theorem dX8_check_27 : decode cX8_check 27 = .ok (.ifCond .eq 13, 3) := by decide +kernel
theorem dX8_check_30 : decode cX8_check 30 = .ok (.aload_n 0, 1) := by decide +kernel
theorem dX8_check_31 : decode cX8_check 31 = .ok (.getfield 18, 3) := by decide +kernel
theorem dX8_check_34 : decode cX8_check 34 = .ok (.getfield 250, 3) := by decide +kernel
theorem dX8_check_37 : decode cX8_check 37 = .ok (.ifCond .ne 6, 3) := by decide +kernel
theorem dX8_check_40 : decode cX8_check 40 = .ok (.ldc 176, 2) := by decide +kernel
theorem dX8_check_42 : decode cX8_check 42 = .ok (.ireturn, 1) := by decide +kernel
theorem dX8_check_43 : decode cX8_check 43 = .ok (.aload_n 0, 1) := by decide +kernel
theorem dX8_check_44 : decode cX8_check 44 = .ok (.getfield 33, 3) := by decide +kernel
theorem dX8_check_47 : decode cX8_check 47 = .ok (.aload_n 0, 1) := by decide +kernel
theorem dX8_check_48 : decode cX8_check 48 = .ok (.getfield 24, 3) := by decide +kernel
theorem dX8_check_51 : decode cX8_check 51 = .ok (.aload_n 0, 1) := by decide +kernel
theorem dX8_check_52 : decode cX8_check 52 = .ok (.getfield 18, 3) := by decide +kernel
theorem dX8_check_55 : decode cX8_check 55 = .ok (.invokevirtual 207, 3) := by decide +kernel
theorem dX8_check_58 : decode cX8_check 58 = .ok (.pop, 1) := by decide +kernel
theorem dX8_check_59 : decode cX8_check 59 = .ok (.aload_n 0, 1) := by decide +kernel
theorem dX8_check_60 : decode cX8_check 60 = .ok (.getfield 18, 3) := by decide +kernel
theorem dX8_check_63 : decode cX8_check 63 = .ok (.getfield 263, 3) := by decide +kernel
theorem dX8_check_66 : decode cX8_check 66 = .ok (.istore_n 3, 1) := by decide +kernel
theorem dX8_check_67 : decode cX8_check 67 = .ok (.aload_n 0, 1) := by decide +kernel
theorem dX8_check_68 : decode cX8_check 68 = .ok (.iload_n 1, 1) := by decide +kernel
theorem dX8_check_69 : decode cX8_check 69 = .ok (.iload_n 2, 1) := by decide +kernel
theorem dX8_check_70 : decode cX8_check 70 = .ok (.invokevirtual 329, 3) := by decide +kernel
theorem dX8_check_73 : decode cX8_check 73 = .ok (.istore 4, 2) := by decide +kernel
theorem dX8_check_75 : decode cX8_check 75 = .ok (.aload_n 0, 1) := by decide +kernel
theorem dX8_check_76 : decode cX8_check 76 = .ok (.getfield 18, 3) := by decide +kernel
theorem dX8_check_79 : decode cX8_check 79 = .ok (.iload_n 3, 1) := by decide +kernel
theorem dX8_check_80 : decode cX8_check 80 = .ok (.putfield 263, 3) := by decide +kernel
theorem dX8_check_83 : decode cX8_check 83 = .ok (.iload 4, 2) := by decide +kernel
theorem dX8_check_85 : decode cX8_check 85 = .ok (.iload_n 2, 1) := by decide +kernel
theorem dX8_check_86 : decode cX8_check 86 = .ok (.if_icmp .ne 15, 3) := by decide +kernel
theorem dX8_check_89 : decode cX8_check 89 = .ok (.iload 4, 2) := by decide +kernel
theorem dX8_check_91 : decode cX8_check 91 = .ok (.iconst 2, 1) := by decide +kernel
theorem dX8_check_92 : decode cX8_check 92 = .ok (.iload_n 1, 1) := by decide +kernel
theorem dX8_check_93 : decode cX8_check 93 = .ok (.imul, 1) := by decide +kernel
theorem dX8_check_94 : decode cX8_check 94 = .ok (.if_icmp .ne 7, 3) := by decide +kernel
theorem dX8_check_97 : decode cX8_check 97 = .ok (.iconst 0, 1) := by decide +kernel
theorem dX8_check_98 : decode cX8_check 98 = .ok (.goto 7, 3) := by decide +kernel
theorem dX8_check_101 : decode cX8_check 101 = .ok (.iconst 1, 1) := by decide +kernel
theorem dX8_check_102 : decode cX8_check 102 = .ok (.iload 4, 2) := by decide +kernel
theorem dX8_check_104 : decode cX8_check 104 = .ok (.iadd, 1) := by decide +kernel
theorem dX8_check_105 : decode cX8_check 105 = .ok (.ireturn, 1) := by decide +kernel
theorem dX8_keep_0 : decode cX8_keep 0 = .ok (.aload_n 0, 1) := by decide +kernel
theorem dX8_keep_1 : decode cX8_keep 1 = .ok (.getfield 18, 3) := by decide +kernel
theorem dX8_keep_4 : decode cX8_keep 4 = .ok (.aload_n 0, 1) := by decide +kernel
theorem dX8_keep_5 : decode cX8_keep 5 = .ok (.getfield 14, 3) := by decide +kernel
theorem dX8_keep_8 : decode cX8_keep 8 = .ok (.invokevirtual 332, 3) := by decide +kernel
theorem dX8_keep_11 : decode cX8_keep 11 = .ok (.aload_n 0, 1) := by decide +kernel
theorem dX8_keep_12 : decode cX8_keep 12 = .ok (.iconst 1, 1) := by decide +kernel
theorem dX8_keep_13 : decode cX8_keep 13 = .ok (.putfield 325, 3) := by decide +kernel
theorem dX8_keep_16 : decode cX8_keep 16 = .ok (.aload_n 0, 1) := by decide +kernel
theorem dX8_keep_17 : decode cX8_keep 17 = .ok (.getfield 18, 3) := by decide +kernel
theorem dX8_keep_20 : decode cX8_keep 20 = .ok (.getfield 102, 3) := by decide +kernel
theorem dX8_keep_23 : decode cX8_keep 23 = .ok (.ireturn, 1) := by decide +kernel
theorem dX8_back_0 : decode cX8_back 0 = .ok (.aload_n 0, 1) := by decide +kernel
theorem dX8_back_1 : decode cX8_back 1 = .ok (.getfield 325, 3) := by decide +kernel
theorem dX8_back_4 : decode cX8_back 4 = .ok (.ifCond .ne 6, 3) := by decide +kernel
theorem dX8_back_7 : decode cX8_back 7 = .ok (.ldc 176, 2) := by decide +kernel
theorem dX8_back_9 : decode cX8_back 9 = .ok (.ireturn, 1) := by decide +kernel
theorem dX8_back_10 : decode cX8_back 10 = .ok (.aload_n 0, 1) := by decide +kernel
theorem dX8_back_11 : decode cX8_back 11 = .ok (.getfield 14, 3) := by decide +kernel
theorem dX8_back_14 : decode cX8_back 14 = .ok (.aload_n 0, 1) := by decide +kernel
theorem dX8_back_15 : decode cX8_back 15 = .ok (.getfield 18, 3) := by decide +kernel
theorem dX8_back_18 : decode cX8_back 18 = .ok (.invokevirtual 332, 3) := by decide +kernel
theorem dX8_back_21 : decode cX8_back 21 = .ok (.aload_n 0, 1) := by decide +kernel
theorem dX8_back_22 : decode cX8_back 22 = .ok (.getfield 14, 3) := by decide +kernel
theorem dX8_back_25 : decode cX8_back 25 = .ok (.getfield 102, 3) := by decide +kernel
theorem dX8_back_28 : decode cX8_back 28 = .ok (.ireturn, 1) := by decide +kernel
theorem dX8_count_0 : decode cX8_count 0 = .ok (.iload_n 1, 1) := by decide +kernel
theorem dX8_count_1 : decode cX8_count 1 = .ok (.tableswitch 144 0 10 #[59, 67, 75, 83, 91, 99, 107, 115, 123, 128, 136], 59) := by decide +kernel
theorem dX8_count_60 : decode cX8_count 60 = .ok (.aload_n 0, 1) := by decide +kernel
theorem dX8_count_61 : decode cX8_count 61 = .ok (.getfield 14, 3) := by decide +kernel
theorem dX8_count_64 : decode cX8_count 64 = .ok (.getfield 73, 3) := by decide +kernel
theorem dX8_count_67 : decode cX8_count 67 = .ok (.ireturn, 1) := by decide +kernel
theorem dX8_count_68 : decode cX8_count 68 = .ok (.aload_n 0, 1) := by decide +kernel
theorem dX8_count_69 : decode cX8_count 69 = .ok (.getfield 14, 3) := by decide +kernel
theorem dX8_count_72 : decode cX8_count 72 = .ok (.getfield 102, 3) := by decide +kernel
theorem dX8_count_75 : decode cX8_count 75 = .ok (.ireturn, 1) := by decide +kernel
theorem dX8_count_76 : decode cX8_count 76 = .ok (.aload_n 0, 1) := by decide +kernel
theorem dX8_count_77 : decode cX8_count 77 = .ok (.getfield 14, 3) := by decide +kernel
theorem dX8_count_80 : decode cX8_count 80 = .ok (.getfield 232, 3) := by decide +kernel
theorem dX8_count_83 : decode cX8_count 83 = .ok (.ireturn, 1) := by decide +kernel
theorem dX8_count_84 : decode cX8_count 84 = .ok (.aload_n 0, 1) := by decide +kernel
theorem dX8_count_85 : decode cX8_count 85 = .ok (.getfield 14, 3) := by decide +kernel
theorem dX8_count_88 : decode cX8_count 88 = .ok (.getfield 180, 3) := by decide +kernel
theorem dX8_count_91 : decode cX8_count 91 = .ok (.ireturn, 1) := by decide +kernel
theorem dX8_count_92 : decode cX8_count 92 = .ok (.aload_n 0, 1) := by decide +kernel
theorem dX8_count_93 : decode cX8_count 93 = .ok (.getfield 14, 3) := by decide +kernel
theorem dX8_count_96 : decode cX8_count 96 = .ok (.getfield 250, 3) := by decide +kernel
theorem dX8_count_99 : decode cX8_count 99 = .ok (.ireturn, 1) := by decide +kernel
theorem dX8_count_100 : decode cX8_count 100 = .ok (.aload_n 0, 1) := by decide +kernel
theorem dX8_count_101 : decode cX8_count 101 = .ok (.getfield 14, 3) := by decide +kernel
theorem dX8_count_104 : decode cX8_count 104 = .ok (.getfield 198, 3) := by decide +kernel
theorem dX8_count_107 : decode cX8_count 107 = .ok (.ireturn, 1) := by decide +kernel
theorem dX8_count_108 : decode cX8_count 108 = .ok (.aload_n 0, 1) := by decide +kernel
theorem dX8_count_109 : decode cX8_count 109 = .ok (.getfield 14, 3) := by decide +kernel
theorem dX8_count_112 : decode cX8_count 112 = .ok (.getfield 201, 3) := by decide +kernel
theorem dX8_count_115 : decode cX8_count 115 = .ok (.ireturn, 1) := by decide +kernel
theorem dX8_count_116 : decode cX8_count 116 = .ok (.aload_n 0, 1) := by decide +kernel
theorem dX8_count_117 : decode cX8_count 117 = .ok (.getfield 14, 3) := by decide +kernel
theorem dX8_count_120 : decode cX8_count 120 = .ok (.getfield 163, 3) := by decide +kernel
theorem dX8_count_123 : decode cX8_count 123 = .ok (.ireturn, 1) := by decide +kernel
theorem dX8_count_124 : decode cX8_count 124 = .ok (.aload_n 0, 1) := by decide +kernel
theorem dX8_count_125 : decode cX8_count 125 = .ok (.getfield 322, 3) := by decide +kernel
theorem dX8_count_128 : decode cX8_count 128 = .ok (.ireturn, 1) := by decide +kernel
theorem dX8_count_129 : decode cX8_count 129 = .ok (.aload_n 0, 1) := by decide +kernel
theorem dX8_count_130 : decode cX8_count 130 = .ok (.getfield 46, 3) := by decide +kernel
theorem dX8_count_133 : decode cX8_count 133 = .ok (.getfield 219, 3) := by decide +kernel
theorem dX8_count_136 : decode cX8_count 136 = .ok (.ireturn, 1) := by decide +kernel
theorem dX8_count_137 : decode cX8_count 137 = .ok (.aload_n 0, 1) := by decide +kernel
theorem dX8_count_138 : decode cX8_count 138 = .ok (.getfield 14, 3) := by decide +kernel
theorem dX8_count_141 : decode cX8_count 141 = .ok (.getfield 263, 3) := by decide +kernel
theorem dX8_count_144 : decode cX8_count 144 = .ok (.ireturn, 1) := by decide +kernel
theorem dX8_count_145 : decode cX8_count 145 = .ok (.ldc 72, 2) := by decide +kernel
theorem dX8_count_147 : decode cX8_count 147 = .ok (.ireturn, 1) := by decide +kernel
theorem dX8_within_0 : decode cX8_within 0 = .ok (.iload_n 0, 1) := by decide +kernel
theorem dX8_within_1 : decode cX8_within 1 = .ok (.iload_n 1, 1) := by decide +kernel
theorem dX8_within_2 : decode cX8_within 2 = .ok (.if_icmp .lt 12, 3) := by decide +kernel
theorem dX8_within_5 : decode cX8_within 5 = .ok (.iload_n 0, 1) := by decide +kernel
theorem dX8_within_6 : decode cX8_within 6 = .ok (.iload_n 2, 1) := by decide +kernel
theorem dX8_within_7 : decode cX8_within 7 = .ok (.if_icmp .gt 7, 3) := by decide +kernel
theorem dX8_within_10 : decode cX8_within 10 = .ok (.iconst 1, 1) := by decide +kernel
theorem dX8_within_11 : decode cX8_within 11 = .ok (.goto 4, 3) := by decide +kernel
theorem dX8_within_14 : decode cX8_within 14 = .ok (.iconst 0, 1) := by decide +kernel
theorem dX8_within_15 : decode cX8_within 15 = .ok (.ireturn, 1) := by decide +kernel
theorem dX8_heldWithin_0 : decode cX8_heldWithin 0 = .ok (.iload_n 1, 1) := by decide +kernel
theorem dX8_heldWithin_1 : decode cX8_heldWithin 1 = .ok (.iload_n 2, 1) := by decide +kernel
theorem dX8_heldWithin_2 : decode cX8_heldWithin 2 = .ok (.iload_n 0, 1) := by decide +kernel
theorem dX8_heldWithin_3 : decode cX8_heldWithin 3 = .ok (.invokestatic 334, 3) := by decide +kernel
theorem dX8_heldWithin_6 : decode cX8_heldWithin 6 = .ok (.invokestatic 339, 3) := by decide +kernel
theorem dX8_heldWithin_9 : decode cX8_heldWithin 9 = .ok (.ireturn, 1) := by decide +kernel
theorem dX8_isKind_0 : decode cX8_isKind 0 = .ok (.iload_n 0, 1) := by decide +kernel
theorem dX8_isKind_1 : decode cX8_isKind 1 = .ok (.iconst 0, 1) := by decide +kernel
theorem dX8_isKind_2 : decode cX8_isKind 2 = .ok (.iconst 5, 1) := by decide +kernel
theorem dX8_isKind_3 : decode cX8_isKind 3 = .ok (.invokestatic 68, 3) := by decide +kernel
theorem dX8_isKind_6 : decode cX8_isKind 6 = .ok (.ireturn, 1) := by decide +kernel
theorem dX8_isLeave_0 : decode cX8_isLeave 0 = .ok (.iload_n 0, 1) := by decide +kernel
theorem dX8_isLeave_1 : decode cX8_isLeave 1 = .ok (.iconst 0, 1) := by decide +kernel
theorem dX8_isLeave_2 : decode cX8_isLeave 2 = .ok (.sipush 1439, 3) := by decide +kernel
theorem dX8_isLeave_5 : decode cX8_isLeave 5 = .ok (.invokestatic 68, 3) := by decide +kernel
theorem dX8_isLeave_8 : decode cX8_isLeave 8 = .ok (.ireturn, 1) := by decide +kernel
theorem dX8_isTakes_0 : decode cX8_isTakes 0 = .ok (.iload_n 0, 1) := by decide +kernel
theorem dX8_isTakes_1 : decode cX8_isTakes 1 = .ok (.iconst 1, 1) := by decide +kernel
theorem dX8_isTakes_2 : decode cX8_isTakes 2 = .ok (.sipush 600, 3) := by decide +kernel
theorem dX8_isTakes_5 : decode cX8_isTakes 5 = .ok (.invokestatic 68, 3) := by decide +kernel
theorem dX8_isTakes_8 : decode cX8_isTakes 8 = .ok (.ireturn, 1) := by decide +kernel
theorem dX8_isSheet_0 : decode cX8_isSheet 0 = .ok (.iload_n 0, 1) := by decide +kernel
theorem dX8_isSheet_1 : decode cX8_isSheet 1 = .ok (.iconst 0, 1) := by decide +kernel
theorem dX8_isSheet_2 : decode cX8_isSheet 2 = .ok (.iconst 3, 1) := by decide +kernel
theorem dX8_isSheet_3 : decode cX8_isSheet 3 = .ok (.invokestatic 68, 3) := by decide +kernel
theorem dX8_isSheet_6 : decode cX8_isSheet 6 = .ok (.ireturn, 1) := by decide +kernel
theorem dX8_isSlot_0 : decode cX8_isSlot 0 = .ok (.iload_n 0, 1) := by decide +kernel
theorem dX8_isSlot_1 : decode cX8_isSlot 1 = .ok (.iconst 0, 1) := by decide +kernel
theorem dX8_isSlot_2 : decode cX8_isSlot 2 = .ok (.iconst 4, 1) := by decide +kernel
theorem dX8_isSlot_3 : decode cX8_isSlot 3 = .ok (.invokestatic 68, 3) := by decide +kernel
theorem dX8_isSlot_6 : decode cX8_isSlot 6 = .ok (.ireturn, 1) := by decide +kernel
theorem dX8_isUnder_0 : decode cX8_isUnder 0 = .ok (.iload_n 0, 1) := by decide +kernel
theorem dX8_isUnder_1 : decode cX8_isUnder 1 = .ok (.istore_n 2, 1) := by decide +kernel
theorem dX8_isUnder_2 : decode cX8_isUnder 2 = .ok (.iconst 0, 1) := by decide +kernel
theorem dX8_isUnder_3 : decode cX8_isUnder 3 = .ok (.istore_n 3, 1) := by decide +kernel
theorem dX8_isUnder_4 : decode cX8_isUnder 4 = .ok (.iload_n 3, 1) := by decide +kernel
theorem dX8_isUnder_5 : decode cX8_isUnder 5 = .ok (.bipush 6, 2) := by decide +kernel
theorem dX8_isUnder_7 : decode cX8_isUnder 7 = .ok (.if_icmp .ge 29, 3) := by decide +kernel
theorem dX8_isUnder_10 : decode cX8_isUnder 10 = .ok (.iload_n 2, 1) := by decide +kernel
theorem dX8_isUnder_11 : decode cX8_isUnder 11 = .ok (.invokestatic 93, 3) := by decide +kernel
theorem dX8_isUnder_14 : decode cX8_isUnder 14 = .ok (.ifCond .eq 22, 3) := by decide +kernel
theorem dX8_isUnder_17 : decode cX8_isUnder 17 = .ok (.iload_n 2, 1) := by decide +kernel
theorem dX8_isUnder_18 : decode cX8_isUnder 18 = .ok (.iload_n 1, 1) := by decide +kernel
theorem dX8_isUnder_19 : decode cX8_isUnder 19 = .ok (.if_icmp .ne 5, 3) := by decide +kernel
theorem dX8_isUnder_22 : decode cX8_isUnder 22 = .ok (.iconst 1, 1) := by decide +kernel
theorem dX8_isUnder_23 : decode cX8_isUnder 23 = .ok (.ireturn, 1) := by decide +kernel
theorem dX8_isUnder_24 : decode cX8_isUnder 24 = .ok (.getstatic 342, 3) := by decide +kernel
theorem dX8_isUnder_27 : decode cX8_isUnder 27 = .ok (.iload_n 2, 1) := by decide +kernel
theorem dX8_isUnder_28 : decode cX8_isUnder 28 = .ok (.iaload, 1) := by decide +kernel
theorem dX8_isUnder_29 : decode cX8_isUnder 29 = .ok (.istore_n 2, 1) := by decide +kernel
theorem dX8_isUnder_30 : decode cX8_isUnder 30 = .ok (.iinc 3 1, 3) := by decide +kernel
theorem dX8_isUnder_33 : decode cX8_isUnder 33 = .ok (.goto (-29), 3) := by decide +kernel
theorem dX8_isUnder_36 : decode cX8_isUnder 36 = .ok (.iconst 0, 1) := by decide +kernel
theorem dX8_isUnder_37 : decode cX8_isUnder 37 = .ok (.ireturn, 1) := by decide +kernel
theorem dX8_areChances_0 : decode cX8_areChances 0 = .ok (.iload_n 0, 1) := by decide +kernel
theorem dX8_areChances_1 : decode cX8_areChances 1 = .ok (.iconst 0, 1) := by decide +kernel
theorem dX8_areChances_2 : decode cX8_areChances 2 = .ok (.bipush 100, 2) := by decide +kernel
theorem dX8_areChances_4 : decode cX8_areChances 4 = .ok (.invokestatic 68, 3) := by decide +kernel
theorem dX8_areChances_7 : decode cX8_areChances 7 = .ok (.ifCond .eq 37, 3) := by decide +kernel
theorem dX8_areChances_10 : decode cX8_areChances 10 = .ok (.iload_n 1, 1) := by decide +kernel
theorem dX8_areChances_11 : decode cX8_areChances 11 = .ok (.iconst 0, 1) := by decide +kernel
theorem dX8_areChances_12 : decode cX8_areChances 12 = .ok (.bipush 100, 2) := by decide +kernel
theorem dX8_areChances_14 : decode cX8_areChances 14 = .ok (.invokestatic 68, 3) := by decide +kernel
theorem dX8_areChances_17 : decode cX8_areChances 17 = .ok (.ifCond .eq 27, 3) := by decide +kernel
theorem dX8_areChances_20 : decode cX8_areChances 20 = .ok (.iload_n 2, 1) := by decide +kernel
theorem dX8_areChances_21 : decode cX8_areChances 21 = .ok (.iconst 0, 1) := by decide +kernel
theorem dX8_areChances_22 : decode cX8_areChances 22 = .ok (.bipush 100, 2) := by decide +kernel
theorem dX8_areChances_24 : decode cX8_areChances 24 = .ok (.invokestatic 68, 3) := by decide +kernel
theorem dX8_areChances_27 : decode cX8_areChances 27 = .ok (.ifCond .eq 17, 3) := by decide +kernel
theorem dX8_areChances_30 : decode cX8_areChances 30 = .ok (.iload_n 0, 1) := by decide +kernel
theorem dX8_areChances_31 : decode cX8_areChances 31 = .ok (.iload_n 1, 1) := by decide +kernel
theorem dX8_areChances_32 : decode cX8_areChances 32 = .ok (.iadd, 1) := by decide +kernel
theorem dX8_areChances_33 : decode cX8_areChances 33 = .ok (.iload_n 2, 1) := by decide +kernel
theorem dX8_areChances_34 : decode cX8_areChances 34 = .ok (.iadd, 1) := by decide +kernel
theorem dX8_areChances_35 : decode cX8_areChances 35 = .ok (.bipush 100, 2) := by decide +kernel
theorem dX8_areChances_37 : decode cX8_areChances 37 = .ok (.if_icmp .gt 7, 3) := by decide +kernel
theorem dX8_areChances_40 : decode cX8_areChances 40 = .ok (.iconst 1, 1) := by decide +kernel
theorem dX8_areChances_41 : decode cX8_areChances 41 = .ok (.goto 4, 3) := by decide +kernel
theorem dX8_areChances_44 : decode cX8_areChances 44 = .ok (.iconst 0, 1) := by decide +kernel
theorem dX8_areChances_45 : decode cX8_areChances 45 = .ok (.ireturn, 1) := by decide +kernel
theorem dX8_putChances_0 : decode cX8_putChances 0 = .ok (.aload_n 0, 1) := by decide +kernel
theorem dX8_putChances_1 : decode cX8_putChances 1 = .ok (.getfield 14, 3) := by decide +kernel
theorem dX8_putChances_4 : decode cX8_putChances 4 = .ok (.getfield 105, 3) := by decide +kernel
theorem dX8_putChances_7 : decode cX8_putChances 7 = .ok (.iload_n 1, 1) := by decide +kernel
theorem dX8_putChances_8 : decode cX8_putChances 8 = .ok (.aaload, 1) := by decide +kernel
theorem dX8_putChances_9 : decode cX8_putChances 9 = .ok (.getfield 128, 3) := by decide +kernel
theorem dX8_putChances_12 : decode cX8_putChances 12 = .ok (.astore 5, 2) := by decide +kernel
theorem dX8_putChances_14 : decode cX8_putChances 14 = .ok (.aload 5, 2) := by decide +kernel
theorem dX8_putChances_16 : decode cX8_putChances 16 = .ok (.iconst 0, 1) := by decide +kernel
theorem dX8_putChances_17 : decode cX8_putChances 17 = .ok (.bipush 100, 2) := by decide +kernel
theorem dX8_putChances_19 : decode cX8_putChances 19 = .ok (.iload_n 2, 1) := by decide +kernel
theorem dX8_putChances_20 : decode cX8_putChances 20 = .ok (.isub, 1) := by decide +kernel
theorem dX8_putChances_21 : decode cX8_putChances 21 = .ok (.iload_n 3, 1) := by decide +kernel
theorem dX8_putChances_22 : decode cX8_putChances 22 = .ok (.isub, 1) := by decide +kernel
theorem dX8_putChances_23 : decode cX8_putChances 23 = .ok (.iload 4, 2) := by decide +kernel
theorem dX8_putChances_25 : decode cX8_putChances 25 = .ok (.isub, 1) := by decide +kernel
theorem dX8_putChances_26 : decode cX8_putChances 26 = .ok (.iastore, 1) := by decide +kernel
theorem dX8_putChances_27 : decode cX8_putChances 27 = .ok (.aload 5, 2) := by decide +kernel
theorem dX8_putChances_29 : decode cX8_putChances 29 = .ok (.iconst 1, 1) := by decide +kernel
theorem dX8_putChances_30 : decode cX8_putChances 30 = .ok (.iload_n 2, 1) := by decide +kernel
theorem dX8_putChances_31 : decode cX8_putChances 31 = .ok (.iastore, 1) := by decide +kernel
theorem dX8_putChances_32 : decode cX8_putChances 32 = .ok (.aload 5, 2) := by decide +kernel
theorem dX8_putChances_34 : decode cX8_putChances 34 = .ok (.iconst 2, 1) := by decide +kernel
theorem dX8_putChances_35 : decode cX8_putChances 35 = .ok (.iload_n 3, 1) := by decide +kernel
theorem dX8_putChances_36 : decode cX8_putChances 36 = .ok (.iastore, 1) := by decide +kernel
theorem dX8_putChances_37 : decode cX8_putChances 37 = .ok (.aload 5, 2) := by decide +kernel
theorem dX8_putChances_39 : decode cX8_putChances 39 = .ok (.iconst 3, 1) := by decide +kernel
theorem dX8_putChances_40 : decode cX8_putChances 40 = .ok (.iload 4, 2) := by decide +kernel
theorem dX8_putChances_42 : decode cX8_putChances 42 = .ok (.iastore, 1) := by decide +kernel
theorem dX8_putChances_43 : decode cX8_putChances 43 = .ok (.aload_n 0, 1) := by decide +kernel
theorem dX8_putChances_44 : decode cX8_putChances 44 = .ok (.invokevirtual 81, 3) := by decide +kernel
theorem dX8_putChances_47 : decode cX8_putChances 47 = .ok (.aload 5, 2) := by decide +kernel
theorem dX8_putChances_49 : decode cX8_putChances 49 = .ok (.iconst 0, 1) := by decide +kernel
theorem dX8_putChances_50 : decode cX8_putChances 50 = .ok (.iaload, 1) := by decide +kernel
theorem dX8_putChances_51 : decode cX8_putChances 51 = .ok (.ireturn, 1) := by decide +kernel
theorem dX8_areTwoTrains_0 : decode cX8_areTwoTrains 0 = .ok (.aload_n 0, 1) := by decide +kernel
theorem dX8_areTwoTrains_1 : decode cX8_areTwoTrains 1 = .ok (.getfield 14, 3) := by decide +kernel
theorem dX8_areTwoTrains_4 : decode cX8_areTwoTrains 4 = .ok (.iload_n 1, 1) := by decide +kernel
theorem dX8_areTwoTrains_5 : decode cX8_areTwoTrains 5 = .ok (.invokevirtual 121, 3) := by decide +kernel
theorem dX8_areTwoTrains_8 : decode cX8_areTwoTrains 8 = .ok (.ifCond .eq 23, 3) := by decide +kernel
theorem dX8_areTwoTrains_11 : decode cX8_areTwoTrains 11 = .ok (.aload_n 0, 1) := by decide +kernel
theorem dX8_areTwoTrains_12 : decode cX8_areTwoTrains 12 = .ok (.getfield 14, 3) := by decide +kernel
theorem dX8_areTwoTrains_15 : decode cX8_areTwoTrains 15 = .ok (.iload_n 2, 1) := by decide +kernel
theorem dX8_areTwoTrains_16 : decode cX8_areTwoTrains 16 = .ok (.invokevirtual 121, 3) := by decide +kernel
theorem dX8_areTwoTrains_19 : decode cX8_areTwoTrains 19 = .ok (.ifCond .eq 12, 3) := by decide +kernel
theorem dX8_areTwoTrains_22 : decode cX8_areTwoTrains 22 = .ok (.iload_n 1, 1) := by decide +kernel
theorem dX8_areTwoTrains_23 : decode cX8_areTwoTrains 23 = .ok (.iload_n 2, 1) := by decide +kernel
theorem dX8_areTwoTrains_24 : decode cX8_areTwoTrains 24 = .ok (.if_icmp .eq 7, 3) := by decide +kernel
theorem dX8_areTwoTrains_27 : decode cX8_areTwoTrains 27 = .ok (.iconst 1, 1) := by decide +kernel
theorem dX8_areTwoTrains_28 : decode cX8_areTwoTrains 28 = .ok (.goto 4, 3) := by decide +kernel
theorem dX8_areTwoTrains_31 : decode cX8_areTwoTrains 31 = .ok (.iconst 0, 1) := by decide +kernel
theorem dX8_areTwoTrains_32 : decode cX8_areTwoTrains 32 = .ok (.ireturn, 1) := by decide +kernel
theorem dX8_isPoint_0 : decode cX8_isPoint 0 = .ok (.aload_n 0, 1) := by decide +kernel
theorem dX8_isPoint_1 : decode cX8_isPoint 1 = .ok (.getfield 14, 3) := by decide +kernel
theorem dX8_isPoint_4 : decode cX8_isPoint 4 = .ok (.iload_n 1, 1) := by decide +kernel
theorem dX8_isPoint_5 : decode cX8_isPoint 5 = .ok (.invokevirtual 84, 3) := by decide +kernel
theorem dX8_isPoint_8 : decode cX8_isPoint 8 = .ok (.ifCond .eq 18, 3) := by decide +kernel
theorem dX8_isPoint_11 : decode cX8_isPoint 11 = .ok (.iload_n 2, 1) := by decide +kernel
theorem dX8_isPoint_12 : decode cX8_isPoint 12 = .ok (.iconst 0, 1) := by decide +kernel
theorem dX8_isPoint_13 : decode cX8_isPoint 13 = .ok (.sipush 2879, 3) := by decide +kernel
theorem dX8_isPoint_16 : decode cX8_isPoint 16 = .ok (.invokestatic 68, 3) := by decide +kernel
theorem dX8_isPoint_19 : decode cX8_isPoint 19 = .ok (.ifCond .eq 7, 3) := by decide +kernel
theorem dX8_isPoint_22 : decode cX8_isPoint 22 = .ok (.iconst 1, 1) := by decide +kernel
theorem dX8_isPoint_23 : decode cX8_isPoint 23 = .ok (.goto 4, 3) := by decide +kernel
theorem dX8_isPoint_26 : decode cX8_isPoint 26 = .ok (.iconst 0, 1) := by decide +kernel
theorem dX8_isPoint_27 : decode cX8_isPoint 27 = .ok (.ireturn, 1) := by decide +kernel
theorem dX8_stampAnew_0 : decode cX8_stampAnew 0 = .ok (.aload_n 0, 1) := by decide +kernel
theorem dX8_stampAnew_1 : decode cX8_stampAnew 1 = .ok (.dup, 1) := by decide +kernel
theorem dX8_stampAnew_2 : decode cX8_stampAnew 2 = .ok (.getfield 345, 3) := by decide +kernel
theorem dX8_stampAnew_5 : decode cX8_stampAnew 5 = .ok (.iconst 1, 1) := by decide +kernel
theorem dX8_stampAnew_6 : decode cX8_stampAnew 6 = .ok (.iadd, 1) := by decide +kernel
theorem dX8_stampAnew_7 : decode cX8_stampAnew 7 = .ok (.putfield 345, 3) := by decide +kernel
theorem dX8_stampAnew_10 : decode cX8_stampAnew 10 = .ok (.aload_n 0, 1) := by decide +kernel
theorem dX8_stampAnew_11 : decode cX8_stampAnew 11 = .ok (.getfield 14, 3) := by decide +kernel
theorem dX8_stampAnew_14 : decode cX8_stampAnew 14 = .ok (.aload_n 0, 1) := by decide +kernel
theorem dX8_stampAnew_15 : decode cX8_stampAnew 15 = .ok (.getfield 345, 3) := by decide +kernel
theorem dX8_stampAnew_18 : decode cX8_stampAnew 18 = .ok (.putfield 348, 3) := by decide +kernel
theorem dX8_stampAnew_21 : decode cX8_stampAnew 21 = .ok (.return_, 1) := by decide +kernel
theorem dX8_rideOn_0 : decode cX8_rideOn 0 = .ok (.iload_n 2, 1) := by decide +kernel
theorem dX8_rideOn_1 : decode cX8_rideOn 1 = .ok (.istore 4, 2) := by decide +kernel
theorem dX8_rideOn_3 : decode cX8_rideOn 3 = .ok (.iload_n 3, 1) := by decide +kernel
theorem dX8_rideOn_4 : decode cX8_rideOn 4 = .ok (.istore 5, 2) := by decide +kernel
theorem dX8_rideOn_6 : decode cX8_rideOn 6 = .ok (.aload_n 0, 1) := by decide +kernel
theorem dX8_rideOn_7 : decode cX8_rideOn 7 = .ok (.iconst 0, 1) := by decide +kernel
theorem dX8_rideOn_8 : decode cX8_rideOn 8 = .ok (.putfield 351, 3) := by decide +kernel
theorem dX8_rideOn_11 : decode cX8_rideOn 11 = .ok (.iconst 0, 1) := by decide +kernel
theorem dX8_rideOn_12 : decode cX8_rideOn 12 = .ok (.istore 6, 2) := by decide +kernel
theorem dX8_rideOn_14 : decode cX8_rideOn 14 = .ok (.iload 6, 2) := by decide +kernel
theorem dX8_rideOn_16 : decode cX8_rideOn 16 = .ok (.ldc_w 354, 3) := by decide +kernel
theorem dX8_rideOn_19 : decode cX8_rideOn 19 = .ok (.if_icmp .ge 101, 3) := by decide +kernel
theorem dX8_rideOn_22 : decode cX8_rideOn 22 = .ok (.iload 4, 2) := by decide +kernel
theorem dX8_rideOn_24 : decode cX8_rideOn 24 = .ok (.aload_n 1, 1) := by decide +kernel
theorem dX8_rideOn_25 : decode cX8_rideOn 25 = .ok (.getfield 198, 3) := by decide +kernel
theorem dX8_rideOn_28 : decode cX8_rideOn 28 = .ok (.if_icmp .eq 92, 3) := by decide +kernel
theorem dX8_rideOn_31 : decode cX8_rideOn 31 = .ok (.aload_n 0, 1) := by decide +kernel
theorem dX8_rideOn_32 : decode cX8_rideOn 32 = .ok (.getfield 33, 3) := by decide +kernel
theorem dX8_rideOn_35 : decode cX8_rideOn 35 = .ok (.aload_n 0, 1) := by decide +kernel
theorem dX8_rideOn_36 : decode cX8_rideOn 36 = .ok (.getfield 24, 3) := by decide +kernel
theorem dX8_rideOn_39 : decode cX8_rideOn 39 = .ok (.iload 4, 2) := by decide +kernel
theorem dX8_rideOn_41 : decode cX8_rideOn 41 = .ok (.iload 5, 2) := by decide +kernel
theorem dX8_rideOn_43 : decode cX8_rideOn 43 = .ok (.invokevirtual 215, 3) := by decide +kernel
theorem dX8_rideOn_46 : decode cX8_rideOn 46 = .ok (.istore 7, 2) := by decide +kernel
theorem dX8_rideOn_48 : decode cX8_rideOn 48 = .ok (.iload 7, 2) := by decide +kernel
theorem dX8_rideOn_50 : decode cX8_rideOn 50 = .ok (.ldc 159, 2) := by decide +kernel
theorem dX8_rideOn_52 : decode cX8_rideOn 52 = .ok (.if_icmp .ne 7, 3) := by decide +kernel
theorem dX8_rideOn_55 : decode cX8_rideOn 55 = .ok (.sipush 2880, 3) := by decide +kernel
theorem dX8_rideOn_58 : decode cX8_rideOn 58 = .ok (.ireturn, 1) := by decide +kernel
theorem dX8_rideOn_59 : decode cX8_rideOn 59 = .ok (.aload_n 0, 1) := by decide +kernel
theorem dX8_rideOn_60 : decode cX8_rideOn 60 = .ok (.getfield 24, 3) := by decide +kernel
theorem dX8_rideOn_63 : decode cX8_rideOn 63 = .ok (.iload 7, 2) := by decide +kernel
theorem dX8_rideOn_65 : decode cX8_rideOn 65 = .ok (.aload_n 1, 1) := by decide +kernel
theorem dX8_rideOn_66 : decode cX8_rideOn 66 = .ok (.invokevirtual 355, 3) := by decide +kernel
theorem dX8_rideOn_69 : decode cX8_rideOn 69 = .ok (.bipush 100, 2) := by decide +kernel
theorem dX8_rideOn_71 : decode cX8_rideOn 71 = .ok (.irem, 1) := by decide +kernel
theorem dX8_rideOn_72 : decode cX8_rideOn 72 = .ok (.invokevirtual 358, 3) := by decide +kernel
theorem dX8_rideOn_75 : decode cX8_rideOn 75 = .ok (.istore 8, 2) := by decide +kernel
theorem dX8_rideOn_77 : decode cX8_rideOn 77 = .ok (.aload_n 0, 1) := by decide +kernel
theorem dX8_rideOn_78 : decode cX8_rideOn 78 = .ok (.getfield 24, 3) := by decide +kernel
theorem dX8_rideOn_81 : decode cX8_rideOn 81 = .ok (.iload 7, 2) := by decide +kernel
theorem dX8_rideOn_83 : decode cX8_rideOn 83 = .ok (.iload 8, 2) := by decide +kernel
theorem dX8_rideOn_85 : decode cX8_rideOn 85 = .ok (.iload 5, 2) := by decide +kernel
theorem dX8_rideOn_87 : decode cX8_rideOn 87 = .ok (.invokevirtual 361, 3) := by decide +kernel
theorem dX8_rideOn_90 : decode cX8_rideOn 90 = .ok (.istore 5, 2) := by decide +kernel
theorem dX8_rideOn_92 : decode cX8_rideOn 92 = .ok (.aload_n 0, 1) := by decide +kernel
theorem dX8_rideOn_93 : decode cX8_rideOn 93 = .ok (.getfield 24, 3) := by decide +kernel
theorem dX8_rideOn_96 : decode cX8_rideOn 96 = .ok (.getfield 364, 3) := by decide +kernel
theorem dX8_rideOn_99 : decode cX8_rideOn 99 = .ok (.iload 7, 2) := by decide +kernel
theorem dX8_rideOn_101 : decode cX8_rideOn 101 = .ok (.iaload, 1) := by decide +kernel
theorem dX8_rideOn_102 : decode cX8_rideOn 102 = .ok (.istore 4, 2) := by decide +kernel
theorem dX8_rideOn_104 : decode cX8_rideOn 104 = .ok (.aload_n 0, 1) := by decide +kernel
theorem dX8_rideOn_105 : decode cX8_rideOn 105 = .ok (.dup, 1) := by decide +kernel
theorem dX8_rideOn_106 : decode cX8_rideOn 106 = .ok (.getfield 351, 3) := by decide +kernel
theorem dX8_rideOn_109 : decode cX8_rideOn 109 = .ok (.iconst 1, 1) := by decide +kernel
theorem dX8_rideOn_110 : decode cX8_rideOn 110 = .ok (.iadd, 1) := by decide +kernel
theorem dX8_rideOn_111 : decode cX8_rideOn 111 = .ok (.putfield 351, 3) := by decide +kernel
theorem dX8_rideOn_114 : decode cX8_rideOn 114 = .ok (.iinc 6 1, 3) := by decide +kernel
theorem dX8_rideOn_117 : decode cX8_rideOn 117 = .ok (.goto (-103), 3) := by decide +kernel
theorem dX8_rideOn_120 : decode cX8_rideOn 120 = .ok (.iload 5, 2) := by decide +kernel
theorem dX8_rideOn_122 : decode cX8_rideOn 122 = .ok (.ireturn, 1) := by decide +kernel
theorem dX8_rightAhead_0 : decode cX8_rightAhead 0 = .ok (.iconst 0, 1) := by decide +kernel
theorem dX8_rightAhead_1 : decode cX8_rightAhead 1 = .ok (.istore_n 3, 1) := by decide +kernel
theorem dX8_rightAhead_2 : decode cX8_rightAhead 2 = .ok (.iconst 0, 1) := by decide +kernel
theorem dX8_rightAhead_3 : decode cX8_rightAhead 3 = .ok (.istore 4, 2) := by decide +kernel
theorem dX8_rightAhead_5 : decode cX8_rightAhead 5 = .ok (.iload 4, 2) := by decide +kernel
theorem dX8_rightAhead_7 : decode cX8_rightAhead 7 = .ok (.iload_n 1, 1) := by decide +kernel
theorem dX8_rightAhead_8 : decode cX8_rightAhead 8 = .ok (.if_icmp .ge 120, 3) := by decide +kernel
theorem dX8_rightAhead_11 : decode cX8_rightAhead 11 = .ok (.aload_n 0, 1) := by decide +kernel
theorem dX8_rightAhead_12 : decode cX8_rightAhead 12 = .ok (.aload_n 0, 1) := by decide +kernel
theorem dX8_rightAhead_13 : decode cX8_rightAhead 13 = .ok (.getfield 18, 3) := by decide +kernel
theorem dX8_rightAhead_16 : decode cX8_rightAhead 16 = .ok (.aload_n 0, 1) := by decide +kernel
theorem dX8_rightAhead_17 : decode cX8_rightAhead 17 = .ok (.getfield 18, 3) := by decide +kernel
theorem dX8_rightAhead_20 : decode cX8_rightAhead 20 = .ok (.getfield 253, 3) := by decide +kernel
theorem dX8_rightAhead_23 : decode cX8_rightAhead 23 = .ok (.iload_n 3, 1) := by decide +kernel
theorem dX8_rightAhead_24 : decode cX8_rightAhead 24 = .ok (.iaload, 1) := by decide +kernel
theorem dX8_rightAhead_25 : decode cX8_rightAhead 25 = .ok (.aload_n 0, 1) := by decide +kernel
theorem dX8_rightAhead_26 : decode cX8_rightAhead 26 = .ok (.getfield 18, 3) := by decide +kernel
theorem dX8_rightAhead_29 : decode cX8_rightAhead 29 = .ok (.getfield 256, 3) := by decide +kernel
theorem dX8_rightAhead_32 : decode cX8_rightAhead 32 = .ok (.iload_n 3, 1) := by decide +kernel
theorem dX8_rightAhead_33 : decode cX8_rightAhead 33 = .ok (.iaload, 1) := by decide +kernel
theorem dX8_rightAhead_34 : decode cX8_rightAhead 34 = .ok (.invokevirtual 259, 3) := by decide +kernel
theorem dX8_rightAhead_37 : decode cX8_rightAhead 37 = .ok (.istore 5, 2) := by decide +kernel
theorem dX8_rightAhead_39 : decode cX8_rightAhead 39 = .ok (.iconst 2, 1) := by decide +kernel
theorem dX8_rightAhead_40 : decode cX8_rightAhead 40 = .ok (.iload 4, 2) := by decide +kernel
theorem dX8_rightAhead_42 : decode cX8_rightAhead 42 = .ok (.imul, 1) := by decide +kernel
theorem dX8_rightAhead_43 : decode cX8_rightAhead 43 = .ok (.iload_n 2, 1) := by decide +kernel
theorem dX8_rightAhead_44 : decode cX8_rightAhead 44 = .ok (.if_icmp .ge 17, 3) := by decide +kernel
theorem dX8_rightAhead_47 : decode cX8_rightAhead 47 = .ok (.aload_n 0, 1) := by decide +kernel
theorem dX8_rightAhead_48 : decode cX8_rightAhead 48 = .ok (.getfield 62, 3) := by decide +kernel
theorem dX8_rightAhead_51 : decode cX8_rightAhead 51 = .ok (.iconst 2, 1) := by decide +kernel
theorem dX8_rightAhead_52 : decode cX8_rightAhead 52 = .ok (.iload 4, 2) := by decide +kernel
theorem dX8_rightAhead_54 : decode cX8_rightAhead 54 = .ok (.imul, 1) := by decide +kernel
theorem dX8_rightAhead_55 : decode cX8_rightAhead 55 = .ok (.iaload, 1) := by decide +kernel
theorem dX8_rightAhead_56 : decode cX8_rightAhead 56 = .ok (.iload 5, 2) := by decide +kernel
theorem dX8_rightAhead_58 : decode cX8_rightAhead 58 = .ok (.if_icmp .eq 8, 3) := by decide +kernel
theorem dX8_rightAhead_61 : decode cX8_rightAhead 61 = .ok (.iconst 2, 1) := by decide +kernel
theorem dX8_rightAhead_62 : decode cX8_rightAhead 62 = .ok (.iload 4, 2) := by decide +kernel
theorem dX8_rightAhead_64 : decode cX8_rightAhead 64 = .ok (.imul, 1) := by decide +kernel
theorem dX8_rightAhead_65 : decode cX8_rightAhead 65 = .ok (.ireturn, 1) := by decide +kernel
theorem dX8_rightAhead_66 : decode cX8_rightAhead 66 = .ok (.iconst 2, 1) := by decide +kernel
theorem dX8_rightAhead_67 : decode cX8_rightAhead 67 = .ok (.iload 4, 2) := by decide +kernel
theorem dX8_rightAhead_69 : decode cX8_rightAhead 69 = .ok (.imul, 1) := by decide +kernel
theorem dX8_rightAhead_70 : decode cX8_rightAhead 70 = .ok (.iconst 1, 1) := by decide +kernel
theorem dX8_rightAhead_71 : decode cX8_rightAhead 71 = .ok (.iadd, 1) := by decide +kernel
theorem dX8_rightAhead_72 : decode cX8_rightAhead 72 = .ok (.iload_n 2, 1) := by decide +kernel
theorem dX8_rightAhead_73 : decode cX8_rightAhead 73 = .ok (.if_icmp .ge 21, 3) := by decide +kernel
theorem dX8_rightAhead_76 : decode cX8_rightAhead 76 = .ok (.aload_n 0, 1) := by decide +kernel
theorem dX8_rightAhead_77 : decode cX8_rightAhead 77 = .ok (.getfield 62, 3) := by decide +kernel
theorem dX8_rightAhead_80 : decode cX8_rightAhead 80 = .ok (.iconst 2, 1) := by decide +kernel
theorem dX8_rightAhead_81 : decode cX8_rightAhead 81 = .ok (.iload 4, 2) := by decide +kernel
theorem dX8_rightAhead_83 : decode cX8_rightAhead 83 = .ok (.imul, 1) := by decide +kernel
theorem dX8_rightAhead_84 : decode cX8_rightAhead 84 = .ok (.iconst 1, 1) := by decide +kernel
theorem dX8_rightAhead_85 : decode cX8_rightAhead 85 = .ok (.iadd, 1) := by decide +kernel
theorem dX8_rightAhead_86 : decode cX8_rightAhead 86 = .ok (.iaload, 1) := by decide +kernel
theorem dX8_rightAhead_87 : decode cX8_rightAhead 87 = .ok (.aload_n 0, 1) := by decide +kernel
theorem dX8_rightAhead_88 : decode cX8_rightAhead 88 = .ok (.getfield 351, 3) := by decide +kernel
theorem dX8_rightAhead_91 : decode cX8_rightAhead 91 = .ok (.if_icmp .eq 10, 3) := by decide +kernel
theorem dX8_rightAhead_94 : decode cX8_rightAhead 94 = .ok (.iconst 2, 1) := by decide +kernel
theorem dX8_rightAhead_95 : decode cX8_rightAhead 95 = .ok (.iload 4, 2) := by decide +kernel
theorem dX8_rightAhead_97 : decode cX8_rightAhead 97 = .ok (.imul, 1) := by decide +kernel
theorem dX8_rightAhead_98 : decode cX8_rightAhead 98 = .ok (.iconst 1, 1) := by decide +kernel
theorem dX8_rightAhead_99 : decode cX8_rightAhead 99 = .ok (.iadd, 1) := by decide +kernel
theorem dX8_rightAhead_100 : decode cX8_rightAhead 100 = .ok (.ireturn, 1) := by decide +kernel
theorem dX8_rightAhead_101 : decode cX8_rightAhead 101 = .ok (.iload_n 3, 1) := by decide +kernel
theorem dX8_rightAhead_102 : decode cX8_rightAhead 102 = .ok (.iconst 1, 1) := by decide +kernel
theorem dX8_rightAhead_103 : decode cX8_rightAhead 103 = .ok (.iadd, 1) := by decide +kernel
theorem dX8_rightAhead_104 : decode cX8_rightAhead 104 = .ok (.aload_n 0, 1) := by decide +kernel
theorem dX8_rightAhead_105 : decode cX8_rightAhead 105 = .ok (.getfield 18, 3) := by decide +kernel
theorem dX8_rightAhead_108 : decode cX8_rightAhead 108 = .ok (.getfield 250, 3) := by decide +kernel
theorem dX8_rightAhead_111 : decode cX8_rightAhead 111 = .ok (.if_icmp .ge 9, 3) := by decide +kernel
theorem dX8_rightAhead_114 : decode cX8_rightAhead 114 = .ok (.iload_n 3, 1) := by decide +kernel
theorem dX8_rightAhead_115 : decode cX8_rightAhead 115 = .ok (.iconst 1, 1) := by decide +kernel
theorem dX8_rightAhead_116 : decode cX8_rightAhead 116 = .ok (.iadd, 1) := by decide +kernel
theorem dX8_rightAhead_117 : decode cX8_rightAhead 117 = .ok (.goto 4, 3) := by decide +kernel
theorem dX8_rightAhead_120 : decode cX8_rightAhead 120 = .ok (.iconst 0, 1) := by decide +kernel
theorem dX8_rightAhead_121 : decode cX8_rightAhead 121 = .ok (.istore_n 3, 1) := by decide +kernel
theorem dX8_rightAhead_122 : decode cX8_rightAhead 122 = .ok (.iinc 4 1, 3) := by decide +kernel
theorem dX8_rightAhead_125 : decode cX8_rightAhead 125 = .ok (.goto (-120), 3) := by decide +kernel
theorem dX8_rightAhead_128 : decode cX8_rightAhead 128 = .ok (.iconst 2, 1) := by decide +kernel
theorem dX8_rightAhead_129 : decode cX8_rightAhead 129 = .ok (.iload_n 1, 1) := by decide +kernel
theorem dX8_rightAhead_130 : decode cX8_rightAhead 130 = .ok (.imul, 1) := by decide +kernel
theorem dX8_rightAhead_131 : decode cX8_rightAhead 131 = .ok (.ireturn, 1) := by decide +kernel
