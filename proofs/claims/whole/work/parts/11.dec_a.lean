theorem dX0_init_0 : decode cX0_init 0 = .ok (.aload_n 0, 1) := by decide +kernel
theorem dX0_init_1 : decode cX0_init 1 = .ok (.invokespecial 3, 3) := by decide +kernel
theorem dX0_init_4 : decode cX0_init 4 = .ok (.aload_n 0, 1) := by decide +kernel
theorem dX0_init_5 : decode cX0_init 5 = .ok (.sipush 2238, 3) := by decide +kernel
theorem dX0_init_8 : decode cX0_init 8 = .ok (.newarray .int, 2) := by decide +kernel
theorem dX0_init_10 : decode cX0_init 10 = .ok (.putfield 11, 3) := by decide +kernel
theorem dX0_init_13 : decode cX0_init 13 = .ok (.aload_n 0, 1) := by decide +kernel
theorem dX0_init_14 : decode cX0_init 14 = .ok (.iconst (-1), 1) := by decide +kernel
theorem dX0_init_15 : decode cX0_init 15 = .ok (.putfield 15, 3) := by decide +kernel
theorem dX0_init_18 : decode cX0_init 18 = .ok (.aload_n 0, 1) := by decide +kernel
theorem dX0_init_19 : decode cX0_init 19 = .ok (.iload_n 1, 1) := by decide +kernel
theorem dX0_init_20 : decode cX0_init 20 = .ok (.putfield 19, 3) := by decide +kernel
theorem dX0_init_23 : decode cX0_init 23 = .ok (.return_, 1) := by decide +kernel
theorem dX0_drawnFor_0 : decode cX0_drawnFor 0 = .ok (.aload_n 1, 1) := by decide +kernel
theorem dX0_drawnFor_1 : decode cX0_drawnFor 1 = .ok (.aload_n 2, 1) := by decide +kernel
theorem dX0_drawnFor_2 : decode cX0_drawnFor 2 = .ok (.invokevirtual 22, 3) := by decide +kernel
theorem dX0_drawnFor_5 : decode cX0_drawnFor 5 = .ok (.aload_n 0, 1) := by decide +kernel
theorem dX0_drawnFor_6 : decode cX0_drawnFor 6 = .ok (.getfield 15, 3) := by decide +kernel
theorem dX0_drawnFor_9 : decode cX0_drawnFor 9 = .ok (.aload_n 1, 1) := by decide +kernel
theorem dX0_drawnFor_10 : decode cX0_drawnFor 10 = .ok (.getfield 28, 3) := by decide +kernel
theorem dX0_drawnFor_13 : decode cX0_drawnFor 13 = .ok (.if_icmp .eq 16, 3) := by decide +kernel
theorem dX0_drawnFor_16 : decode cX0_drawnFor 16 = .ok (.aload_n 0, 1) := by decide +kernel
theorem dX0_drawnFor_17 : decode cX0_drawnFor 17 = .ok (.aload_n 1, 1) := by decide +kernel
theorem dX0_drawnFor_18 : decode cX0_drawnFor 18 = .ok (.getfield 28, 3) := by decide +kernel
theorem dX0_drawnFor_21 : decode cX0_drawnFor 21 = .ok (.putfield 15, 3) := by decide +kernel
theorem dX0_drawnFor_24 : decode cX0_drawnFor 24 = .ok (.aload_n 0, 1) := by decide +kernel
theorem dX0_drawnFor_25 : decode cX0_drawnFor 25 = .ok (.aload_n 1, 1) := by decide +kernel
theorem dX0_drawnFor_26 : decode cX0_drawnFor 26 = .ok (.invokevirtual 29, 3) := by decide +kernel
theorem dX0_drawnFor_29 : decode cX0_drawnFor 29 = .ok (.aload_n 0, 1) := by decide +kernel
theorem dX0_drawnFor_30 : decode cX0_drawnFor 30 = .ok (.areturn, 1) := by decide +kernel
theorem dX0_fillRow_0 : decode cX0_fillRow 0 = .ok (.iconst 0, 1) := by decide +kernel
theorem dX0_fillRow_1 : decode cX0_fillRow 1 = .ok (.istore_n 2, 1) := by decide +kernel
theorem dX0_fillRow_2 : decode cX0_fillRow 2 = .ok (.iload_n 2, 1) := by decide +kernel
theorem dX0_fillRow_3 : decode cX0_fillRow 3 = .ok (.bipush 6, 2) := by decide +kernel
theorem dX0_fillRow_5 : decode cX0_fillRow 5 = .ok (.if_icmp .ge 23, 3) := by decide +kernel
theorem dX0_fillRow_8 : decode cX0_fillRow 8 = .ok (.aload_n 0, 1) := by decide +kernel
theorem dX0_fillRow_9 : decode cX0_fillRow 9 = .ok (.getfield 11, 3) := by decide +kernel
theorem dX0_fillRow_12 : decode cX0_fillRow 12 = .ok (.iload_n 2, 1) := by decide +kernel
theorem dX0_fillRow_13 : decode cX0_fillRow 13 = .ok (.sipush 373, 3) := by decide +kernel
theorem dX0_fillRow_16 : decode cX0_fillRow 16 = .ok (.imul, 1) := by decide +kernel
theorem dX0_fillRow_17 : decode cX0_fillRow 17 = .ok (.aload_n 0, 1) := by decide +kernel
theorem dX0_fillRow_18 : decode cX0_fillRow 18 = .ok (.invokevirtual 33, 3) := by decide +kernel
theorem dX0_fillRow_21 : decode cX0_fillRow 21 = .ok (.iastore, 1) := by decide +kernel
theorem dX0_fillRow_22 : decode cX0_fillRow 22 = .ok (.iinc 2 1, 3) := by decide +kernel
theorem dX0_fillRow_25 : decode cX0_fillRow 25 = .ok (.goto (-23), 3) := by decide +kernel
theorem dX0_fillRow_28 : decode cX0_fillRow 28 = .ok (.iconst 1, 1) := by decide +kernel
theorem dX0_fillRow_29 : decode cX0_fillRow 29 = .ok (.istore_n 2, 1) := by decide +kernel
theorem dX0_fillRow_30 : decode cX0_fillRow 30 = .ok (.iload_n 2, 1) := by decide +kernel
theorem dX0_fillRow_31 : decode cX0_fillRow 31 = .ok (.aload_n 1, 1) := by decide +kernel
theorem dX0_fillRow_32 : decode cX0_fillRow 32 = .ok (.getfield 37, 3) := by decide +kernel
theorem dX0_fillRow_35 : decode cX0_fillRow 35 = .ok (.if_icmp .gt 134, 3) := by decide +kernel
theorem dX0_fillRow_38 : decode cX0_fillRow 38 = .ok (.aload_n 1, 1) := by decide +kernel
theorem dX0_fillRow_39 : decode cX0_fillRow 39 = .ok (.getfield 40, 3) := by decide +kernel
theorem dX0_fillRow_42 : decode cX0_fillRow 42 = .ok (.iload_n 2, 1) := by decide +kernel
theorem dX0_fillRow_43 : decode cX0_fillRow 43 = .ok (.iaload, 1) := by decide +kernel
theorem dX0_fillRow_44 : decode cX0_fillRow 44 = .ok (.istore_n 3, 1) := by decide +kernel
theorem dX0_fillRow_45 : decode cX0_fillRow 45 = .ok (.iconst 0, 1) := by decide +kernel
theorem dX0_fillRow_46 : decode cX0_fillRow 46 = .ok (.istore 4, 2) := by decide +kernel
theorem dX0_fillRow_48 : decode cX0_fillRow 48 = .ok (.iload 4, 2) := by decide +kernel
theorem dX0_fillRow_50 : decode cX0_fillRow 50 = .ok (.bipush 6, 2) := by decide +kernel
theorem dX0_fillRow_52 : decode cX0_fillRow 52 = .ok (.if_icmp .ge 37, 3) := by decide +kernel
theorem dX0_fillRow_55 : decode cX0_fillRow 55 = .ok (.aload_n 0, 1) := by decide +kernel
theorem dX0_fillRow_56 : decode cX0_fillRow 56 = .ok (.getfield 11, 3) := by decide +kernel
theorem dX0_fillRow_59 : decode cX0_fillRow 59 = .ok (.iload 4, 2) := by decide +kernel
theorem dX0_fillRow_61 : decode cX0_fillRow 61 = .ok (.sipush 373, 3) := by decide +kernel
theorem dX0_fillRow_64 : decode cX0_fillRow 64 = .ok (.imul, 1) := by decide +kernel
theorem dX0_fillRow_65 : decode cX0_fillRow 65 = .ok (.iload_n 2, 1) := by decide +kernel
theorem dX0_fillRow_66 : decode cX0_fillRow 66 = .ok (.iadd, 1) := by decide +kernel
theorem dX0_fillRow_67 : decode cX0_fillRow 67 = .ok (.aload_n 0, 1) := by decide +kernel
theorem dX0_fillRow_68 : decode cX0_fillRow 68 = .ok (.getfield 11, 3) := by decide +kernel
theorem dX0_fillRow_71 : decode cX0_fillRow 71 = .ok (.iload 4, 2) := by decide +kernel
theorem dX0_fillRow_73 : decode cX0_fillRow 73 = .ok (.sipush 373, 3) := by decide +kernel
theorem dX0_fillRow_76 : decode cX0_fillRow 76 = .ok (.imul, 1) := by decide +kernel
theorem dX0_fillRow_77 : decode cX0_fillRow 77 = .ok (.iload_n 2, 1) := by decide +kernel
theorem dX0_fillRow_78 : decode cX0_fillRow 78 = .ok (.iadd, 1) := by decide +kernel
theorem dX0_fillRow_79 : decode cX0_fillRow 79 = .ok (.iconst 1, 1) := by decide +kernel
theorem dX0_fillRow_80 : decode cX0_fillRow 80 = .ok (.isub, 1) := by decide +kernel
theorem dX0_fillRow_81 : decode cX0_fillRow 81 = .ok (.iaload, 1) := by decide +kernel
theorem dX0_fillRow_82 : decode cX0_fillRow 82 = .ok (.iastore, 1) := by decide +kernel
theorem dX0_fillRow_83 : decode cX0_fillRow 83 = .ok (.iinc 4 1, 3) := by decide +kernel
theorem dX0_fillRow_86 : decode cX0_fillRow 86 = .ok (.goto (-38), 3) := by decide +kernel
theorem dX0_fillRow_89 : decode cX0_fillRow 89 = .ok (.iconst 0, 1) := by decide +kernel
theorem dX0_fillRow_90 : decode cX0_fillRow 90 = .ok (.istore 4, 2) := by decide +kernel
theorem dX0_fillRow_92 : decode cX0_fillRow 92 = .ok (.iload 4, 2) := by decide +kernel
theorem dX0_fillRow_94 : decode cX0_fillRow 94 = .ok (.aload_n 1, 1) := by decide +kernel
theorem dX0_fillRow_95 : decode cX0_fillRow 95 = .ok (.getfield 43, 3) := by decide +kernel
theorem dX0_fillRow_98 : decode cX0_fillRow 98 = .ok (.if_icmp .ge 65, 3) := by decide +kernel
theorem dX0_fillRow_101 : decode cX0_fillRow 101 = .ok (.iload_n 3, 1) := by decide +kernel
theorem dX0_fillRow_102 : decode cX0_fillRow 102 = .ok (.aload_n 1, 1) := by decide +kernel
theorem dX0_fillRow_103 : decode cX0_fillRow 103 = .ok (.getfield 46, 3) := by decide +kernel
theorem dX0_fillRow_106 : decode cX0_fillRow 106 = .ok (.iload 4, 2) := by decide +kernel
theorem dX0_fillRow_108 : decode cX0_fillRow 108 = .ok (.iaload, 1) := by decide +kernel
theorem dX0_fillRow_109 : decode cX0_fillRow 109 = .ok (.aload_n 1, 1) := by decide +kernel
theorem dX0_fillRow_110 : decode cX0_fillRow 110 = .ok (.iload 4, 2) := by decide +kernel
theorem dX0_fillRow_112 : decode cX0_fillRow 112 = .ok (.invokevirtual 49, 3) := by decide +kernel
theorem dX0_fillRow_115 : decode cX0_fillRow 115 = .ok (.invokestatic 53, 3) := by decide +kernel
theorem dX0_fillRow_118 : decode cX0_fillRow 118 = .ok (.ifCond .eq 39, 3) := by decide +kernel
theorem dX0_fillRow_121 : decode cX0_fillRow 121 = .ok (.aload_n 0, 1) := by decide +kernel
theorem dX0_fillRow_122 : decode cX0_fillRow 122 = .ok (.aload_n 1, 1) := by decide +kernel
theorem dX0_fillRow_123 : decode cX0_fillRow 123 = .ok (.aload_n 1, 1) := by decide +kernel
theorem dX0_fillRow_124 : decode cX0_fillRow 124 = .ok (.getfield 57, 3) := by decide +kernel
theorem dX0_fillRow_127 : decode cX0_fillRow 127 = .ok (.iload 4, 2) := by decide +kernel
theorem dX0_fillRow_129 : decode cX0_fillRow 129 = .ok (.iaload, 1) := by decide +kernel
theorem dX0_fillRow_130 : decode cX0_fillRow 130 = .ok (.iload_n 3, 1) := by decide +kernel
theorem dX0_fillRow_131 : decode cX0_fillRow 131 = .ok (.invokevirtual 60, 3) := by decide +kernel
theorem dX0_fillRow_134 : decode cX0_fillRow 134 = .ok (.pop, 1) := by decide +kernel
theorem dX0_fillRow_135 : decode cX0_fillRow 135 = .ok (.aload_n 0, 1) := by decide +kernel
theorem dX0_fillRow_136 : decode cX0_fillRow 136 = .ok (.getfield 11, 3) := by decide +kernel
theorem dX0_fillRow_139 : decode cX0_fillRow 139 = .ok (.aload_n 1, 1) := by decide +kernel
theorem dX0_fillRow_140 : decode cX0_fillRow 140 = .ok (.getfield 57, 3) := by decide +kernel
theorem dX0_fillRow_143 : decode cX0_fillRow 143 = .ok (.iload 4, 2) := by decide +kernel
theorem dX0_fillRow_145 : decode cX0_fillRow 145 = .ok (.iaload, 1) := by decide +kernel
theorem dX0_fillRow_146 : decode cX0_fillRow 146 = .ok (.sipush 373, 3) := by decide +kernel
theorem dX0_fillRow_149 : decode cX0_fillRow 149 = .ok (.imul, 1) := by decide +kernel
theorem dX0_fillRow_150 : decode cX0_fillRow 150 = .ok (.iload_n 2, 1) := by decide +kernel
theorem dX0_fillRow_151 : decode cX0_fillRow 151 = .ok (.iadd, 1) := by decide +kernel
theorem dX0_fillRow_152 : decode cX0_fillRow 152 = .ok (.aload_n 0, 1) := by decide +kernel
theorem dX0_fillRow_153 : decode cX0_fillRow 153 = .ok (.getfield 64, 3) := by decide +kernel
theorem dX0_fillRow_156 : decode cX0_fillRow 156 = .ok (.iastore, 1) := by decide +kernel
theorem dX0_fillRow_157 : decode cX0_fillRow 157 = .ok (.iinc 4 1, 3) := by decide +kernel
theorem dX0_fillRow_160 : decode cX0_fillRow 160 = .ok (.goto (-68), 3) := by decide +kernel
theorem dX0_fillRow_163 : decode cX0_fillRow 163 = .ok (.iinc 2 1, 3) := by decide +kernel
theorem dX0_fillRow_166 : decode cX0_fillRow 166 = .ok (.goto (-136), 3) := by decide +kernel
theorem dX0_fillRow_169 : decode cX0_fillRow 169 = .ok (.return_, 1) := by decide +kernel
theorem dX0_worthAt_0 : decode cX0_worthAt 0 = .ok (.iload_n 2, 1) := by decide +kernel
theorem dX0_worthAt_1 : decode cX0_worthAt 1 = .ok (.aload_n 1, 1) := by decide +kernel
theorem dX0_worthAt_2 : decode cX0_worthAt 2 = .ok (.getfield 67, 3) := by decide +kernel
theorem dX0_worthAt_5 : decode cX0_worthAt 5 = .ok (.if_icmp .ne 13, 3) := by decide +kernel
theorem dX0_worthAt_8 : decode cX0_worthAt 8 = .ok (.aload_n 0, 1) := by decide +kernel
theorem dX0_worthAt_9 : decode cX0_worthAt 9 = .ok (.iload_n 3, 1) := by decide +kernel
theorem dX0_worthAt_10 : decode cX0_worthAt 10 = .ok (.aload_n 1, 1) := by decide +kernel
theorem dX0_worthAt_11 : decode cX0_worthAt 11 = .ok (.getfield 70, 3) := by decide +kernel
theorem dX0_worthAt_14 : decode cX0_worthAt 14 = .ok (.invokevirtual 73, 3) := by decide +kernel
theorem dX0_worthAt_17 : decode cX0_worthAt 17 = .ok (.ireturn, 1) := by decide +kernel
theorem dX0_worthAt_18 : decode cX0_worthAt 18 = .ok (.iload_n 3, 1) := by decide +kernel
theorem dX0_worthAt_19 : decode cX0_worthAt 19 = .ok (.iconst 0, 1) := by decide +kernel
theorem dX0_worthAt_20 : decode cX0_worthAt 20 = .ok (.sipush 1589, 3) := by decide +kernel
theorem dX0_worthAt_23 : decode cX0_worthAt 23 = .ok (.invokestatic 53, 3) := by decide +kernel
theorem dX0_worthAt_26 : decode cX0_worthAt 26 = .ok (.ifCond .ne 8, 3) := by decide +kernel
theorem dX0_worthAt_29 : decode cX0_worthAt 29 = .ok (.aload_n 0, 1) := by decide +kernel
theorem dX0_worthAt_30 : decode cX0_worthAt 30 = .ok (.invokevirtual 33, 3) := by decide +kernel
theorem dX0_worthAt_33 : decode cX0_worthAt 33 = .ok (.ireturn, 1) := by decide +kernel
theorem dX0_worthAt_34 : decode cX0_worthAt 34 = .ok (.aload_n 0, 1) := by decide +kernel
theorem dX0_worthAt_35 : decode cX0_worthAt 35 = .ok (.getfield 11, 3) := by decide +kernel
theorem dX0_worthAt_38 : decode cX0_worthAt 38 = .ok (.iload_n 2, 1) := by decide +kernel
theorem dX0_worthAt_39 : decode cX0_worthAt 39 = .ok (.sipush 373, 3) := by decide +kernel
theorem dX0_worthAt_42 : decode cX0_worthAt 42 = .ok (.imul, 1) := by decide +kernel
theorem dX0_worthAt_43 : decode cX0_worthAt 43 = .ok (.aload_n 1, 1) := by decide +kernel
theorem dX0_worthAt_44 : decode cX0_worthAt 44 = .ok (.getfield 77, 3) := by decide +kernel
theorem dX0_worthAt_47 : decode cX0_worthAt 47 = .ok (.iload_n 3, 1) := by decide +kernel
theorem dX0_worthAt_48 : decode cX0_worthAt 48 = .ok (.iaload, 1) := by decide +kernel
theorem dX0_worthAt_49 : decode cX0_worthAt 49 = .ok (.iadd, 1) := by decide +kernel
theorem dX0_worthAt_50 : decode cX0_worthAt 50 = .ok (.iaload, 1) := by decide +kernel
theorem dX0_worthAt_51 : decode cX0_worthAt 51 = .ok (.ireturn, 1) := by decide +kernel
theorem dX0_worthAtGoal_0 : decode cX0_worthAtGoal 0 = .ok (.iload_n 1, 1) := by decide +kernel
theorem dX0_worthAtGoal_1 : decode cX0_worthAtGoal 1 = .ok (.iload_n 2, 1) := by decide +kernel
theorem dX0_worthAtGoal_2 : decode cX0_worthAtGoal 2 = .ok (.if_icmp .gt 7, 3) := by decide +kernel
theorem dX0_worthAtGoal_5 : decode cX0_worthAtGoal 5 = .ok (.iconst 1, 1) := by decide +kernel
theorem dX0_worthAtGoal_6 : decode cX0_worthAtGoal 6 = .ok (.goto 4, 3) := by decide +kernel
theorem dX0_worthAtGoal_9 : decode cX0_worthAtGoal 9 = .ok (.iconst 0, 1) := by decide +kernel
theorem dX0_worthAtGoal_10 : decode cX0_worthAtGoal 10 = .ok (.istore_n 3, 1) := by decide +kernel
theorem dX0_worthAtGoal_11 : decode cX0_worthAtGoal 11 = .ok (.aload_n 0, 1) := by decide +kernel
theorem dX0_worthAtGoal_12 : decode cX0_worthAtGoal 12 = .ok (.getfield 19, 3) := by decide +kernel
theorem dX0_worthAtGoal_15 : decode cX0_worthAtGoal 15 = .ok (.lookupswitch 48 #[(1, 25), (2, 37)], 25) := by decide +kernel
theorem dX0_worthAtGoal_40 : decode cX0_worthAtGoal 40 = .ok (.iload_n 3, 1) := by decide +kernel
theorem dX0_worthAtGoal_41 : decode cX0_worthAtGoal 41 = .ok (.ifCond .eq 9, 3) := by decide +kernel
theorem dX0_worthAtGoal_44 : decode cX0_worthAtGoal 44 = .ok (.sipush 10000, 3) := by decide +kernel
theorem dX0_worthAtGoal_47 : decode cX0_worthAtGoal 47 = .ok (.goto 4, 3) := by decide +kernel
theorem dX0_worthAtGoal_50 : decode cX0_worthAtGoal 50 = .ok (.iconst 0, 1) := by decide +kernel
theorem dX0_worthAtGoal_51 : decode cX0_worthAtGoal 51 = .ok (.ireturn, 1) := by decide +kernel
theorem dX0_worthAtGoal_52 : decode cX0_worthAtGoal 52 = .ok (.iload_n 3, 1) := by decide +kernel
theorem dX0_worthAtGoal_53 : decode cX0_worthAtGoal 53 = .ok (.ifCond .eq 7, 3) := by decide +kernel
theorem dX0_worthAtGoal_56 : decode cX0_worthAtGoal 56 = .ok (.iconst 0, 1) := by decide +kernel
theorem dX0_worthAtGoal_57 : decode cX0_worthAtGoal 57 = .ok (.goto 5, 3) := by decide +kernel
theorem dX0_worthAtGoal_60 : decode cX0_worthAtGoal 60 = .ok (.ldc 80, 2) := by decide +kernel
theorem dX0_worthAtGoal_62 : decode cX0_worthAtGoal 62 = .ok (.ireturn, 1) := by decide +kernel
theorem dX0_worthAtGoal_63 : decode cX0_worthAtGoal 63 = .ok (.bipush 100, 2) := by decide +kernel
theorem dX0_worthAtGoal_65 : decode cX0_worthAtGoal 65 = .ok (.iload_n 1, 1) := by decide +kernel
theorem dX0_worthAtGoal_66 : decode cX0_worthAtGoal 66 = .ok (.imul, 1) := by decide +kernel
theorem dX0_worthAtGoal_67 : decode cX0_worthAtGoal 67 = .ok (.ireturn, 1) := by decide +kernel
theorem dX0_worthOfNone_0 : decode cX0_worthOfNone 0 = .ok (.aload_n 0, 1) := by decide +kernel
theorem dX0_worthOfNone_1 : decode cX0_worthOfNone 1 = .ok (.getfield 19, 3) := by decide +kernel
theorem dX0_worthOfNone_4 : decode cX0_worthOfNone 4 = .ok (.lookupswitch 33 #[(1, 28), (2, 30)], 28) := by decide +kernel
theorem dX0_worthOfNone_32 : decode cX0_worthOfNone 32 = .ok (.iconst 0, 1) := by decide +kernel
theorem dX0_worthOfNone_33 : decode cX0_worthOfNone 33 = .ok (.ireturn, 1) := by decide +kernel
theorem dX0_worthOfNone_34 : decode cX0_worthOfNone 34 = .ok (.ldc 80, 2) := by decide +kernel
theorem dX0_worthOfNone_36 : decode cX0_worthOfNone 36 = .ok (.ireturn, 1) := by decide +kernel
theorem dX0_worthOfNone_37 : decode cX0_worthOfNone 37 = .ok (.ldc 81, 2) := by decide +kernel
theorem dX0_worthOfNone_39 : decode cX0_worthOfNone 39 = .ok (.ireturn, 1) := by decide +kernel
theorem dX0_bestTrain_0 : decode cX0_bestTrain 0 = .ok (.ldc 82, 2) := by decide +kernel
theorem dX0_bestTrain_2 : decode cX0_bestTrain 2 = .ok (.istore 4, 2) := by decide +kernel
theorem dX0_bestTrain_4 : decode cX0_bestTrain 4 = .ok (.aload_n 0, 1) := by decide +kernel
theorem dX0_bestTrain_5 : decode cX0_bestTrain 5 = .ok (.aload_n 0, 1) := by decide +kernel
theorem dX0_bestTrain_6 : decode cX0_bestTrain 6 = .ok (.invokevirtual 33, 3) := by decide +kernel
theorem dX0_bestTrain_9 : decode cX0_bestTrain 9 = .ok (.putfield 64, 3) := by decide +kernel
theorem dX0_bestTrain_12 : decode cX0_bestTrain 12 = .ok (.iconst 0, 1) := by decide +kernel
theorem dX0_bestTrain_13 : decode cX0_bestTrain 13 = .ok (.istore 5, 2) := by decide +kernel
theorem dX0_bestTrain_15 : decode cX0_bestTrain 15 = .ok (.iload 5, 2) := by decide +kernel
theorem dX0_bestTrain_17 : decode cX0_bestTrain 17 = .ok (.aload_n 1, 1) := by decide +kernel
theorem dX0_bestTrain_18 : decode cX0_bestTrain 18 = .ok (.getfield 43, 3) := by decide +kernel
theorem dX0_bestTrain_21 : decode cX0_bestTrain 21 = .ok (.if_icmp .ge 97, 3) := by decide +kernel
theorem dX0_bestTrain_24 : decode cX0_bestTrain 24 = .ok (.iload_n 2, 1) := by decide +kernel
theorem dX0_bestTrain_25 : decode cX0_bestTrain 25 = .ok (.aload_n 1, 1) := by decide +kernel
theorem dX0_bestTrain_26 : decode cX0_bestTrain 26 = .ok (.getfield 67, 3) := by decide +kernel
theorem dX0_bestTrain_29 : decode cX0_bestTrain 29 = .ok (.if_icmp .eq 89, 3) := by decide +kernel
theorem dX0_bestTrain_32 : decode cX0_bestTrain 32 = .ok (.aload_n 1, 1) := by decide +kernel
theorem dX0_bestTrain_33 : decode cX0_bestTrain 33 = .ok (.getfield 57, 3) := by decide +kernel
theorem dX0_bestTrain_36 : decode cX0_bestTrain 36 = .ok (.iload 5, 2) := by decide +kernel
theorem dX0_bestTrain_38 : decode cX0_bestTrain 38 = .ok (.iaload, 1) := by decide +kernel
theorem dX0_bestTrain_39 : decode cX0_bestTrain 39 = .ok (.iload_n 2, 1) := by decide +kernel
theorem dX0_bestTrain_40 : decode cX0_bestTrain 40 = .ok (.if_icmp .ne 72, 3) := by decide +kernel
theorem dX0_bestTrain_43 : decode cX0_bestTrain 43 = .ok (.aload_n 1, 1) := by decide +kernel
theorem dX0_bestTrain_44 : decode cX0_bestTrain 44 = .ok (.iload 5, 2) := by decide +kernel
theorem dX0_bestTrain_46 : decode cX0_bestTrain 46 = .ok (.invokevirtual 49, 3) := by decide +kernel
theorem dX0_bestTrain_49 : decode cX0_bestTrain 49 = .ok (.iload_n 3, 1) := by decide +kernel
theorem dX0_bestTrain_50 : decode cX0_bestTrain 50 = .ok (.if_icmp .lt 62, 3) := by decide +kernel
theorem dX0_bestTrain_53 : decode cX0_bestTrain 53 = .ok (.aload_n 0, 1) := by decide +kernel
theorem dX0_bestTrain_54 : decode cX0_bestTrain 54 = .ok (.getfield 19, 3) := by decide +kernel
theorem dX0_bestTrain_57 : decode cX0_bestTrain 57 = .ok (.iconst 2, 1) := by decide +kernel
theorem dX0_bestTrain_58 : decode cX0_bestTrain 58 = .ok (.if_icmp .ne 14, 3) := by decide +kernel
theorem dX0_bestTrain_61 : decode cX0_bestTrain 61 = .ok (.aload_n 0, 1) := by decide +kernel
theorem dX0_bestTrain_62 : decode cX0_bestTrain 62 = .ok (.aload_n 1, 1) := by decide +kernel
theorem dX0_bestTrain_63 : decode cX0_bestTrain 63 = .ok (.iload 5, 2) := by decide +kernel
theorem dX0_bestTrain_65 : decode cX0_bestTrain 65 = .ok (.iload_n 3, 1) := by decide +kernel
theorem dX0_bestTrain_66 : decode cX0_bestTrain 66 = .ok (.invokevirtual 83, 3) := by decide +kernel
theorem dX0_bestTrain_69 : decode cX0_bestTrain 69 = .ok (.goto 11, 3) := by decide +kernel
theorem dX0_bestTrain_72 : decode cX0_bestTrain 72 = .ok (.aload_n 0, 1) := by decide +kernel
theorem dX0_bestTrain_73 : decode cX0_bestTrain 73 = .ok (.aload_n 1, 1) := by decide +kernel
theorem dX0_bestTrain_74 : decode cX0_bestTrain 74 = .ok (.iload 5, 2) := by decide +kernel
theorem dX0_bestTrain_76 : decode cX0_bestTrain 76 = .ok (.iload_n 3, 1) := by decide +kernel
theorem dX0_bestTrain_77 : decode cX0_bestTrain 77 = .ok (.invokevirtual 86, 3) := by decide +kernel
theorem dX0_bestTrain_80 : decode cX0_bestTrain 80 = .ok (.istore 6, 2) := by decide +kernel
theorem dX0_bestTrain_82 : decode cX0_bestTrain 82 = .ok (.iload 4, 2) := by decide +kernel
theorem dX0_bestTrain_84 : decode cX0_bestTrain 84 = .ok (.ldc 82, 2) := by decide +kernel
theorem dX0_bestTrain_86 : decode cX0_bestTrain 86 = .ok (.if_icmp .eq 16, 3) := by decide +kernel
theorem dX0_bestTrain_89 : decode cX0_bestTrain 89 = .ok (.aload_n 0, 1) := by decide +kernel
theorem dX0_bestTrain_90 : decode cX0_bestTrain 90 = .ok (.iload 6, 2) := by decide +kernel
theorem dX0_bestTrain_92 : decode cX0_bestTrain 92 = .ok (.aload_n 0, 1) := by decide +kernel
theorem dX0_bestTrain_93 : decode cX0_bestTrain 93 = .ok (.getfield 64, 3) := by decide +kernel
theorem dX0_bestTrain_96 : decode cX0_bestTrain 96 = .ok (.invokevirtual 89, 3) := by decide +kernel
theorem dX0_bestTrain_99 : decode cX0_bestTrain 99 = .ok (.ifCond .eq 13, 3) := by decide +kernel
theorem dX0_bestTrain_102 : decode cX0_bestTrain 102 = .ok (.iload 5, 2) := by decide +kernel
theorem dX0_bestTrain_104 : decode cX0_bestTrain 104 = .ok (.istore 4, 2) := by decide +kernel
theorem dX0_bestTrain_106 : decode cX0_bestTrain 106 = .ok (.aload_n 0, 1) := by decide +kernel
theorem dX0_bestTrain_107 : decode cX0_bestTrain 107 = .ok (.iload 6, 2) := by decide +kernel
theorem dX0_bestTrain_109 : decode cX0_bestTrain 109 = .ok (.putfield 64, 3) := by decide +kernel
theorem dX0_bestTrain_112 : decode cX0_bestTrain 112 = .ok (.iinc 5 1, 3) := by decide +kernel
theorem dX0_bestTrain_115 : decode cX0_bestTrain 115 = .ok (.goto (-100), 3) := by decide +kernel
theorem dX0_bestTrain_118 : decode cX0_bestTrain 118 = .ok (.iload 4, 2) := by decide +kernel
theorem dX0_bestTrain_120 : decode cX0_bestTrain 120 = .ok (.ireturn, 1) := by decide +kernel
theorem dX0_isBetter_0 : decode cX0_isBetter 0 = .ok (.aload_n 0, 1) := by decide +kernel
theorem dX0_isBetter_1 : decode cX0_isBetter 1 = .ok (.getfield 19, 3) := by decide +kernel
theorem dX0_isBetter_4 : decode cX0_isBetter 4 = .ok (.iconst 1, 1) := by decide +kernel
theorem dX0_isBetter_5 : decode cX0_isBetter 5 = .ok (.if_icmp .ne 16, 3) := by decide +kernel
theorem dX0_isBetter_8 : decode cX0_isBetter 8 = .ok (.iload_n 1, 1) := by decide +kernel
theorem dX0_isBetter_9 : decode cX0_isBetter 9 = .ok (.iload_n 2, 1) := by decide +kernel
theorem dX0_isBetter_10 : decode cX0_isBetter 10 = .ok (.if_icmp .le 7, 3) := by decide +kernel
theorem dX0_isBetter_13 : decode cX0_isBetter 13 = .ok (.iconst 1, 1) := by decide +kernel
theorem dX0_isBetter_14 : decode cX0_isBetter 14 = .ok (.goto 17, 3) := by decide +kernel
theorem dX0_isBetter_17 : decode cX0_isBetter 17 = .ok (.iconst 0, 1) := by decide +kernel
theorem dX0_isBetter_18 : decode cX0_isBetter 18 = .ok (.goto 13, 3) := by decide +kernel
theorem dX0_isBetter_21 : decode cX0_isBetter 21 = .ok (.iload_n 1, 1) := by decide +kernel
theorem dX0_isBetter_22 : decode cX0_isBetter 22 = .ok (.iload_n 2, 1) := by decide +kernel
theorem dX0_isBetter_23 : decode cX0_isBetter 23 = .ok (.if_icmp .ge 7, 3) := by decide +kernel
theorem dX0_isBetter_26 : decode cX0_isBetter 26 = .ok (.iconst 1, 1) := by decide +kernel
theorem dX0_isBetter_27 : decode cX0_isBetter 27 = .ok (.goto 4, 3) := by decide +kernel
theorem dX0_isBetter_30 : decode cX0_isBetter 30 = .ok (.iconst 0, 1) := by decide +kernel
theorem dX0_isBetter_31 : decode cX0_isBetter 31 = .ok (.ireturn, 1) := by decide +kernel
theorem dX0_meanBehind_0 : decode cX0_meanBehind 0 = .ok (.iconst 0, 1) := by decide +kernel
theorem dX0_meanBehind_1 : decode cX0_meanBehind 1 = .ok (.istore 4, 2) := by decide +kernel
theorem dX0_meanBehind_3 : decode cX0_meanBehind 3 = .ok (.iconst 0, 1) := by decide +kernel
theorem dX0_meanBehind_4 : decode cX0_meanBehind 4 = .ok (.istore 5, 2) := by decide +kernel
theorem dX0_meanBehind_6 : decode cX0_meanBehind 6 = .ok (.iload 5, 2) := by decide +kernel
theorem dX0_meanBehind_8 : decode cX0_meanBehind 8 = .ok (.iconst 4, 1) := by decide +kernel
theorem dX0_meanBehind_9 : decode cX0_meanBehind 9 = .ok (.if_icmp .ge 54, 3) := by decide +kernel
theorem dX0_meanBehind_12 : decode cX0_meanBehind 12 = .ok (.aload_n 1, 1) := by decide +kernel
theorem dX0_meanBehind_13 : decode cX0_meanBehind 13 = .ok (.getfield 93, 3) := by decide +kernel
theorem dX0_meanBehind_16 : decode cX0_meanBehind 16 = .ok (.iload_n 2, 1) := by decide +kernel
theorem dX0_meanBehind_17 : decode cX0_meanBehind 17 = .ok (.iconst 4, 1) := by decide +kernel
theorem dX0_meanBehind_18 : decode cX0_meanBehind 18 = .ok (.imul, 1) := by decide +kernel
theorem dX0_meanBehind_19 : decode cX0_meanBehind 19 = .ok (.iload 5, 2) := by decide +kernel
theorem dX0_meanBehind_21 : decode cX0_meanBehind 21 = .ok (.iadd, 1) := by decide +kernel
theorem dX0_meanBehind_22 : decode cX0_meanBehind 22 = .ok (.iaload, 1) := by decide +kernel
theorem dX0_meanBehind_23 : decode cX0_meanBehind 23 = .ok (.istore 6, 2) := by decide +kernel
theorem dX0_meanBehind_25 : decode cX0_meanBehind 25 = .ok (.iload 6, 2) := by decide +kernel
theorem dX0_meanBehind_27 : decode cX0_meanBehind 27 = .ok (.ifCond .eq 30, 3) := by decide +kernel
theorem dX0_meanBehind_30 : decode cX0_meanBehind 30 = .ok (.iload 4, 2) := by decide +kernel
theorem dX0_meanBehind_32 : decode cX0_meanBehind 32 = .ok (.iload 6, 2) := by decide +kernel
theorem dX0_meanBehind_34 : decode cX0_meanBehind 34 = .ok (.aload_n 0, 1) := by decide +kernel
theorem dX0_meanBehind_35 : decode cX0_meanBehind 35 = .ok (.aload_n 1, 1) := by decide +kernel
theorem dX0_meanBehind_36 : decode cX0_meanBehind 36 = .ok (.aload_n 1, 1) := by decide +kernel
theorem dX0_meanBehind_37 : decode cX0_meanBehind 37 = .ok (.getfield 96, 3) := by decide +kernel
theorem dX0_meanBehind_40 : decode cX0_meanBehind 40 = .ok (.iload_n 2, 1) := by decide +kernel
theorem dX0_meanBehind_41 : decode cX0_meanBehind 41 = .ok (.iaload, 1) := by decide +kernel
theorem dX0_meanBehind_42 : decode cX0_meanBehind 42 = .ok (.aload_n 1, 1) := by decide +kernel
theorem dX0_meanBehind_43 : decode cX0_meanBehind 43 = .ok (.iload_n 2, 1) := by decide +kernel
theorem dX0_meanBehind_44 : decode cX0_meanBehind 44 = .ok (.iload 5, 2) := by decide +kernel
theorem dX0_meanBehind_46 : decode cX0_meanBehind 46 = .ok (.iload_n 3, 1) := by decide +kernel
theorem dX0_meanBehind_47 : decode cX0_meanBehind 47 = .ok (.invokevirtual 99, 3) := by decide +kernel
theorem dX0_meanBehind_50 : decode cX0_meanBehind 50 = .ok (.invokevirtual 103, 3) := by decide +kernel
theorem dX0_meanBehind_53 : decode cX0_meanBehind 53 = .ok (.imul, 1) := by decide +kernel
theorem dX0_meanBehind_54 : decode cX0_meanBehind 54 = .ok (.iadd, 1) := by decide +kernel
theorem dX0_meanBehind_55 : decode cX0_meanBehind 55 = .ok (.istore 4, 2) := by decide +kernel
theorem dX0_meanBehind_57 : decode cX0_meanBehind 57 = .ok (.iinc 5 1, 3) := by decide +kernel
theorem dX0_meanBehind_60 : decode cX0_meanBehind 60 = .ok (.goto (-54), 3) := by decide +kernel
theorem dX0_meanBehind_63 : decode cX0_meanBehind 63 = .ok (.iload 4, 2) := by decide +kernel
theorem dX0_meanBehind_65 : decode cX0_meanBehind 65 = .ok (.bipush 100, 2) := by decide +kernel
theorem dX0_meanBehind_67 : decode cX0_meanBehind 67 = .ok (.idiv, 1) := by decide +kernel
theorem dX0_meanBehind_68 : decode cX0_meanBehind 68 = .ok (.ireturn, 1) := by decide +kernel
theorem dX0_dearestBehind_0 : decode cX0_dearestBehind 0 = .ok (.iconst 0, 1) := by decide +kernel
theorem dX0_dearestBehind_1 : decode cX0_dearestBehind 1 = .ok (.istore 4, 2) := by decide +kernel
theorem dX0_dearestBehind_3 : decode cX0_dearestBehind 3 = .ok (.iconst 0, 1) := by decide +kernel
theorem dX0_dearestBehind_4 : decode cX0_dearestBehind 4 = .ok (.istore 5, 2) := by decide +kernel
theorem dX0_dearestBehind_6 : decode cX0_dearestBehind 6 = .ok (.iload 5, 2) := by decide +kernel
theorem dX0_dearestBehind_8 : decode cX0_dearestBehind 8 = .ok (.iconst 4, 1) := by decide +kernel
theorem dX0_dearestBehind_9 : decode cX0_dearestBehind 9 = .ok (.if_icmp .ge 49, 3) := by decide +kernel
theorem dX0_dearestBehind_12 : decode cX0_dearestBehind 12 = .ok (.aload_n 1, 1) := by decide +kernel
theorem dX0_dearestBehind_13 : decode cX0_dearestBehind 13 = .ok (.getfield 93, 3) := by decide +kernel
theorem dX0_dearestBehind_16 : decode cX0_dearestBehind 16 = .ok (.iload_n 2, 1) := by decide +kernel
theorem dX0_dearestBehind_17 : decode cX0_dearestBehind 17 = .ok (.iconst 4, 1) := by decide +kernel
theorem dX0_dearestBehind_18 : decode cX0_dearestBehind 18 = .ok (.imul, 1) := by decide +kernel
theorem dX0_dearestBehind_19 : decode cX0_dearestBehind 19 = .ok (.iload 5, 2) := by decide +kernel
theorem dX0_dearestBehind_21 : decode cX0_dearestBehind 21 = .ok (.iadd, 1) := by decide +kernel
theorem dX0_dearestBehind_22 : decode cX0_dearestBehind 22 = .ok (.iaload, 1) := by decide +kernel
theorem dX0_dearestBehind_23 : decode cX0_dearestBehind 23 = .ok (.ifCond .eq 29, 3) := by decide +kernel
theorem dX0_dearestBehind_26 : decode cX0_dearestBehind 26 = .ok (.iload 4, 2) := by decide +kernel
theorem dX0_dearestBehind_28 : decode cX0_dearestBehind 28 = .ok (.aload_n 0, 1) := by decide +kernel
theorem dX0_dearestBehind_29 : decode cX0_dearestBehind 29 = .ok (.aload_n 1, 1) := by decide +kernel
theorem dX0_dearestBehind_30 : decode cX0_dearestBehind 30 = .ok (.aload_n 1, 1) := by decide +kernel
theorem dX0_dearestBehind_31 : decode cX0_dearestBehind 31 = .ok (.getfield 96, 3) := by decide +kernel
theorem dX0_dearestBehind_34 : decode cX0_dearestBehind 34 = .ok (.iload_n 2, 1) := by decide +kernel
theorem dX0_dearestBehind_35 : decode cX0_dearestBehind 35 = .ok (.iaload, 1) := by decide +kernel
theorem dX0_dearestBehind_36 : decode cX0_dearestBehind 36 = .ok (.aload_n 1, 1) := by decide +kernel
theorem dX0_dearestBehind_37 : decode cX0_dearestBehind 37 = .ok (.iload_n 2, 1) := by decide +kernel
theorem dX0_dearestBehind_38 : decode cX0_dearestBehind 38 = .ok (.iload 5, 2) := by decide +kernel
theorem dX0_dearestBehind_40 : decode cX0_dearestBehind 40 = .ok (.iload_n 3, 1) := by decide +kernel
theorem dX0_dearestBehind_41 : decode cX0_dearestBehind 41 = .ok (.invokevirtual 99, 3) := by decide +kernel
theorem dX0_dearestBehind_44 : decode cX0_dearestBehind 44 = .ok (.invokevirtual 103, 3) := by decide +kernel
theorem dX0_dearestBehind_47 : decode cX0_dearestBehind 47 = .ok (.invokestatic 106, 3) := by decide +kernel
theorem dX0_dearestBehind_50 : decode cX0_dearestBehind 50 = .ok (.istore 4, 2) := by decide +kernel
theorem dX0_dearestBehind_52 : decode cX0_dearestBehind 52 = .ok (.iinc 5 1, 3) := by decide +kernel
theorem dX0_dearestBehind_55 : decode cX0_dearestBehind 55 = .ok (.goto (-49), 3) := by decide +kernel
theorem dX0_dearestBehind_58 : decode cX0_dearestBehind 58 = .ok (.iload 4, 2) := by decide +kernel
theorem dX0_dearestBehind_60 : decode cX0_dearestBehind 60 = .ok (.ldc 80, 2) := by decide +kernel
theorem dX0_dearestBehind_62 : decode cX0_dearestBehind 62 = .ok (.if_icmp .ne 8, 3) := by decide +kernel
theorem dX0_dearestBehind_65 : decode cX0_dearestBehind 65 = .ok (.ldc 80, 2) := by decide +kernel
theorem dX0_dearestBehind_67 : decode cX0_dearestBehind 67 = .ok (.goto 12, 3) := by decide +kernel
theorem dX0_dearestBehind_70 : decode cX0_dearestBehind 70 = .ok (.aload_n 1, 1) := by decide +kernel
theorem dX0_dearestBehind_71 : decode cX0_dearestBehind 71 = .ok (.getfield 111, 3) := by decide +kernel
theorem dX0_dearestBehind_74 : decode cX0_dearestBehind 74 = .ok (.iload_n 2, 1) := by decide +kernel
theorem dX0_dearestBehind_75 : decode cX0_dearestBehind 75 = .ok (.iaload, 1) := by decide +kernel
theorem dX0_dearestBehind_76 : decode cX0_dearestBehind 76 = .ok (.iload 4, 2) := by decide +kernel
theorem dX0_dearestBehind_78 : decode cX0_dearestBehind 78 = .ok (.iadd, 1) := by decide +kernel
theorem dX0_dearestBehind_79 : decode cX0_dearestBehind 79 = .ok (.ireturn, 1) := by decide +kernel
theorem dX1_init_0 : decode cX1_init 0 = .ok (.aload_n 0, 1) := by decide +kernel
theorem dX1_init_1 : decode cX1_init 1 = .ok (.invokespecial 3, 3) := by decide +kernel
theorem dX1_init_4 : decode cX1_init 4 = .ok (.aload_n 0, 1) := by decide +kernel
theorem dX1_init_5 : decode cX1_init 5 = .ok (.iconst (-1), 1) := by decide +kernel
theorem dX1_init_6 : decode cX1_init 6 = .ok (.putfield 9, 3) := by decide +kernel
theorem dX1_init_9 : decode cX1_init 9 = .ok (.aload_n 0, 1) := by decide +kernel
theorem dX1_init_10 : decode cX1_init 10 = .ok (.bipush 24, 2) := by decide +kernel
theorem dX1_init_12 : decode cX1_init 12 = .ok (.newarray .int, 2) := by decide +kernel
theorem dX1_init_14 : decode cX1_init 14 = .ok (.putfield 15, 3) := by decide +kernel
theorem dX1_init_17 : decode cX1_init 17 = .ok (.return_, 1) := by decide +kernel
theorem dX1_begin_0 : decode cX1_begin 0 = .ok (.aload_n 0, 1) := by decide +kernel
theorem dX1_begin_1 : decode cX1_begin 1 = .ok (.iload_n 1, 1) := by decide +kernel
theorem dX1_begin_2 : decode cX1_begin 2 = .ok (.putfield 9, 3) := by decide +kernel
theorem dX1_begin_5 : decode cX1_begin 5 = .ok (.aload_n 0, 1) := by decide +kernel
theorem dX1_begin_6 : decode cX1_begin 6 = .ok (.iload_n 2, 1) := by decide +kernel
theorem dX1_begin_7 : decode cX1_begin 7 = .ok (.putfield 19, 3) := by decide +kernel
theorem dX1_begin_10 : decode cX1_begin 10 = .ok (.aload_n 0, 1) := by decide +kernel
theorem dX1_begin_11 : decode cX1_begin 11 = .ok (.getfield 15, 3) := by decide +kernel
theorem dX1_begin_14 : decode cX1_begin 14 = .ok (.iconst 0, 1) := by decide +kernel
theorem dX1_begin_15 : decode cX1_begin 15 = .ok (.invokestatic 22, 3) := by decide +kernel
theorem dX1_begin_18 : decode cX1_begin 18 = .ok (.return_, 1) := by decide +kernel
theorem dX1_takeFrom_0 : decode cX1_takeFrom 0 = .ok (.aload_n 0, 1) := by decide +kernel
theorem dX1_takeFrom_1 : decode cX1_takeFrom 1 = .ok (.aload_n 1, 1) := by decide +kernel
theorem dX1_takeFrom_2 : decode cX1_takeFrom 2 = .ok (.getfield 9, 3) := by decide +kernel
theorem dX1_takeFrom_5 : decode cX1_takeFrom 5 = .ok (.putfield 9, 3) := by decide +kernel
theorem dX1_takeFrom_8 : decode cX1_takeFrom 8 = .ok (.aload_n 0, 1) := by decide +kernel
theorem dX1_takeFrom_9 : decode cX1_takeFrom 9 = .ok (.aload_n 1, 1) := by decide +kernel
theorem dX1_takeFrom_10 : decode cX1_takeFrom 10 = .ok (.getfield 19, 3) := by decide +kernel
theorem dX1_takeFrom_13 : decode cX1_takeFrom 13 = .ok (.putfield 19, 3) := by decide +kernel
theorem dX1_takeFrom_16 : decode cX1_takeFrom 16 = .ok (.aload_n 1, 1) := by decide +kernel
theorem dX1_takeFrom_17 : decode cX1_takeFrom 17 = .ok (.getfield 15, 3) := by decide +kernel
theorem dX1_takeFrom_20 : decode cX1_takeFrom 20 = .ok (.iconst 0, 1) := by decide +kernel
theorem dX1_takeFrom_21 : decode cX1_takeFrom 21 = .ok (.aload_n 0, 1) := by decide +kernel
theorem dX1_takeFrom_22 : decode cX1_takeFrom 22 = .ok (.getfield 15, 3) := by decide +kernel
theorem dX1_takeFrom_25 : decode cX1_takeFrom 25 = .ok (.iconst 0, 1) := by decide +kernel
theorem dX1_takeFrom_26 : decode cX1_takeFrom 26 = .ok (.bipush 24, 2) := by decide +kernel
theorem dX1_takeFrom_28 : decode cX1_takeFrom 28 = .ok (.invokestatic 28, 3) := by decide +kernel
theorem dX1_takeFrom_31 : decode cX1_takeFrom 31 = .ok (.return_, 1) := by decide +kernel
theorem dX1_hasPlace_0 : decode cX1_hasPlace 0 = .ok (.iload_n 1, 1) := by decide +kernel
theorem dX1_hasPlace_1 : decode cX1_hasPlace 1 = .ok (.iconst 0, 1) := by decide +kernel
theorem dX1_hasPlace_2 : decode cX1_hasPlace 2 = .ok (.aload_n 0, 1) := by decide +kernel
theorem dX1_hasPlace_3 : decode cX1_hasPlace 3 = .ok (.getfield 19, 3) := by decide +kernel
theorem dX1_hasPlace_6 : decode cX1_hasPlace 6 = .ok (.iconst 1, 1) := by decide +kernel
theorem dX1_hasPlace_7 : decode cX1_hasPlace 7 = .ok (.isub, 1) := by decide +kernel
theorem dX1_hasPlace_8 : decode cX1_hasPlace 8 = .ok (.invokestatic 34, 3) := by decide +kernel
theorem dX1_hasPlace_11 : decode cX1_hasPlace 11 = .ok (.ireturn, 1) := by decide +kernel
theorem dX1_hasRun_0 : decode cX1_hasRun 0 = .ok (.iload_n 1, 1) := by decide +kernel
theorem dX1_hasRun_1 : decode cX1_hasRun 1 = .ok (.iconst 0, 1) := by decide +kernel
theorem dX1_hasRun_2 : decode cX1_hasRun 2 = .ok (.aload_n 0, 1) := by decide +kernel
theorem dX1_hasRun_3 : decode cX1_hasRun 3 = .ok (.getfield 19, 3) := by decide +kernel
theorem dX1_hasRun_6 : decode cX1_hasRun 6 = .ok (.invokestatic 34, 3) := by decide +kernel
theorem dX1_hasRun_9 : decode cX1_hasRun 9 = .ok (.ifCond .eq 21, 3) := by decide +kernel
theorem dX1_hasRun_12 : decode cX1_hasRun 12 = .ok (.iload_n 2, 1) := by decide +kernel
theorem dX1_hasRun_13 : decode cX1_hasRun 13 = .ok (.iconst 0, 1) := by decide +kernel
theorem dX1_hasRun_14 : decode cX1_hasRun 14 = .ok (.aload_n 0, 1) := by decide +kernel
theorem dX1_hasRun_15 : decode cX1_hasRun 15 = .ok (.getfield 19, 3) := by decide +kernel
theorem dX1_hasRun_18 : decode cX1_hasRun 18 = .ok (.iload_n 1, 1) := by decide +kernel
theorem dX1_hasRun_19 : decode cX1_hasRun 19 = .ok (.isub, 1) := by decide +kernel
theorem dX1_hasRun_20 : decode cX1_hasRun 20 = .ok (.invokestatic 34, 3) := by decide +kernel
theorem dX1_hasRun_23 : decode cX1_hasRun 23 = .ok (.ifCond .eq 7, 3) := by decide +kernel
theorem dX1_hasRun_26 : decode cX1_hasRun 26 = .ok (.iconst 1, 1) := by decide +kernel
theorem dX1_hasRun_27 : decode cX1_hasRun 27 = .ok (.goto 4, 3) := by decide +kernel
theorem dX1_hasRun_30 : decode cX1_hasRun 30 = .ok (.iconst 0, 1) := by decide +kernel
theorem dX1_hasRun_31 : decode cX1_hasRun 31 = .ok (.ireturn, 1) := by decide +kernel
theorem dX2_init_0 : decode cX2_init 0 = .ok (.aload_n 0, 1) := by decide +kernel
theorem dX2_init_1 : decode cX2_init 1 = .ok (.invokespecial 3, 3) := by decide +kernel
theorem dX2_init_4 : decode cX2_init 4 = .ok (.aload_n 0, 1) := by decide +kernel
theorem dX2_init_5 : decode cX2_init 5 = .ok (.iconst 0, 1) := by decide +kernel
theorem dX2_init_6 : decode cX2_init 6 = .ok (.putfield 9, 3) := by decide +kernel
theorem dX2_init_9 : decode cX2_init 9 = .ok (.aload_n 0, 1) := by decide +kernel
theorem dX2_init_10 : decode cX2_init 10 = .ok (.new 15, 3) := by decide +kernel
theorem dX2_init_13 : decode cX2_init 13 = .ok (.dup, 1) := by decide +kernel
theorem dX2_init_14 : decode cX2_init 14 = .ok (.invokespecial 17, 3) := by decide +kernel
theorem dX2_init_17 : decode cX2_init 17 = .ok (.putfield 18, 3) := by decide +kernel
theorem dX2_init_20 : decode cX2_init 20 = .ok (.aload_n 0, 1) := by decide +kernel
theorem dX2_init_21 : decode cX2_init 21 = .ok (.new 22, 3) := by decide +kernel
theorem dX2_init_24 : decode cX2_init 24 = .ok (.dup, 1) := by decide +kernel
theorem dX2_init_25 : decode cX2_init 25 = .ok (.invokespecial 24, 3) := by decide +kernel
theorem dX2_init_28 : decode cX2_init 28 = .ok (.putfield 25, 3) := by decide +kernel
theorem dX2_init_31 : decode cX2_init 31 = .ok (.return_, 1) := by decide +kernel
theorem dX3_init_0 : decode cX3_init 0 = .ok (.aload_n 0, 1) := by decide +kernel
theorem dX3_init_1 : decode cX3_init 1 = .ok (.invokespecial 3, 3) := by decide +kernel
theorem dX3_init_4 : decode cX3_init 4 = .ok (.aload_n 0, 1) := by decide +kernel
theorem dX3_init_5 : decode cX3_init 5 = .ok (.bipush 96, 2) := by decide +kernel
theorem dX3_init_7 : decode cX3_init 7 = .ok (.newarray .byte, 2) := by decide +kernel
theorem dX3_init_9 : decode cX3_init 9 = .ok (.putfield 9, 3) := by decide +kernel
theorem dX3_init_12 : decode cX3_init 12 = .ok (.aload_n 0, 1) := by decide +kernel
theorem dX3_init_13 : decode cX3_init 13 = .ok (.bipush 96, 2) := by decide +kernel
theorem dX3_init_15 : decode cX3_init 15 = .ok (.newarray .int, 2) := by decide +kernel
theorem dX3_init_17 : decode cX3_init 17 = .ok (.putfield 15, 3) := by decide +kernel
theorem dX3_init_20 : decode cX3_init 20 = .ok (.return_, 1) := by decide +kernel
theorem dX3_append_0 : decode cX3_append 0 = .ok (.bipush 24, 2) := by decide +kernel
theorem dX3_append_2 : decode cX3_append 2 = .ok (.istore_n 2, 1) := by decide +kernel
theorem dX3_append_3 : decode cX3_append 3 = .ok (.iload_n 2, 1) := by decide +kernel
theorem dX3_append_4 : decode cX3_append 4 = .ok (.ifCond .lt 41, 3) := by decide +kernel
theorem dX3_append_7 : decode cX3_append 7 = .ok (.aload_n 0, 1) := by decide +kernel
theorem dX3_append_8 : decode cX3_append 8 = .ok (.getfield 19, 3) := by decide +kernel
theorem dX3_append_11 : decode cX3_append 11 = .ok (.bipush 96, 2) := by decide +kernel
theorem dX3_append_13 : decode cX3_append 13 = .ok (.if_icmp .ge 32, 3) := by decide +kernel
theorem dX3_append_16 : decode cX3_append 16 = .ok (.aload_n 0, 1) := by decide +kernel
theorem dX3_append_17 : decode cX3_append 17 = .ok (.getfield 9, 3) := by decide +kernel
theorem dX3_append_20 : decode cX3_append 20 = .ok (.aload_n 0, 1) := by decide +kernel
theorem dX3_append_21 : decode cX3_append 21 = .ok (.getfield 19, 3) := by decide +kernel
theorem dX3_append_24 : decode cX3_append 24 = .ok (.iload_n 1, 1) := by decide +kernel
theorem dX3_append_25 : decode cX3_append 25 = .ok (.iload_n 2, 1) := by decide +kernel
theorem dX3_append_26 : decode cX3_append 26 = .ok (.ishr, 1) := by decide +kernel
theorem dX3_append_27 : decode cX3_append 27 = .ok (.i2b, 1) := by decide +kernel
theorem dX3_append_28 : decode cX3_append 28 = .ok (.bastore, 1) := by decide +kernel
theorem dX3_append_29 : decode cX3_append 29 = .ok (.aload_n 0, 1) := by decide +kernel
theorem dX3_append_30 : decode cX3_append 30 = .ok (.dup, 1) := by decide +kernel
theorem dX3_append_31 : decode cX3_append 31 = .ok (.getfield 19, 3) := by decide +kernel
theorem dX3_append_34 : decode cX3_append 34 = .ok (.iconst 1, 1) := by decide +kernel
theorem dX3_append_35 : decode cX3_append 35 = .ok (.iadd, 1) := by decide +kernel
theorem dX3_append_36 : decode cX3_append 36 = .ok (.putfield 19, 3) := by decide +kernel
theorem dX3_append_39 : decode cX3_append 39 = .ok (.iinc 2 (-8), 3) := by decide +kernel
theorem dX3_append_42 : decode cX3_append 42 = .ok (.goto (-39), 3) := by decide +kernel
theorem dX3_append_45 : decode cX3_append 45 = .ok (.return_, 1) := by decide +kernel
theorem dX3_byteAt_0 : decode cX3_byteAt 0 = .ok (.iload_n 1, 1) := by decide +kernel
theorem dX3_byteAt_1 : decode cX3_byteAt 1 = .ok (.iconst 0, 1) := by decide +kernel
theorem dX3_byteAt_2 : decode cX3_byteAt 2 = .ok (.aload_n 0, 1) := by decide +kernel
theorem dX3_byteAt_3 : decode cX3_byteAt 3 = .ok (.getfield 19, 3) := by decide +kernel
theorem dX3_byteAt_6 : decode cX3_byteAt 6 = .ok (.iconst 1, 1) := by decide +kernel
theorem dX3_byteAt_7 : decode cX3_byteAt 7 = .ok (.isub, 1) := by decide +kernel
theorem dX3_byteAt_8 : decode cX3_byteAt 8 = .ok (.invokestatic 23, 3) := by decide +kernel
theorem dX3_byteAt_11 : decode cX3_byteAt 11 = .ok (.ifCond .eq 16, 3) := by decide +kernel
theorem dX3_byteAt_14 : decode cX3_byteAt 14 = .ok (.aload_n 0, 1) := by decide +kernel
theorem dX3_byteAt_15 : decode cX3_byteAt 15 = .ok (.getfield 9, 3) := by decide +kernel
theorem dX3_byteAt_18 : decode cX3_byteAt 18 = .ok (.iload_n 1, 1) := by decide +kernel
theorem dX3_byteAt_19 : decode cX3_byteAt 19 = .ok (.baload, 1) := by decide +kernel
theorem dX3_byteAt_20 : decode cX3_byteAt 20 = .ok (.sipush 255, 3) := by decide +kernel
theorem dX3_byteAt_23 : decode cX3_byteAt 23 = .ok (.iand, 1) := by decide +kernel
theorem dX3_byteAt_24 : decode cX3_byteAt 24 = .ok (.goto 5, 3) := by decide +kernel
theorem dX3_byteAt_27 : decode cX3_byteAt 27 = .ok (.bipush 32, 2) := by decide +kernel
theorem dX3_byteAt_29 : decode cX3_byteAt 29 = .ok (.ireturn, 1) := by decide +kernel
theorem dX3_parse_0 : decode cX3_parse 0 = .ok (.aload_n 0, 1) := by decide +kernel
theorem dX3_parse_1 : decode cX3_parse 1 = .ok (.iconst 0, 1) := by decide +kernel
theorem dX3_parse_2 : decode cX3_parse 2 = .ok (.putfield 27, 3) := by decide +kernel
theorem dX3_parse_5 : decode cX3_parse 5 = .ok (.aload_n 0, 1) := by decide +kernel
theorem dX3_parse_6 : decode cX3_parse 6 = .ok (.iconst 3, 1) := by decide +kernel
theorem dX3_parse_7 : decode cX3_parse 7 = .ok (.putfield 30, 3) := by decide +kernel
theorem dX3_parse_10 : decode cX3_parse 10 = .ok (.aload_n 0, 1) := by decide +kernel
theorem dX3_parse_11 : decode cX3_parse 11 = .ok (.iconst 0, 1) := by decide +kernel
theorem dX3_parse_12 : decode cX3_parse 12 = .ok (.putfield 33, 3) := by decide +kernel
theorem dX3_parse_15 : decode cX3_parse 15 = .ok (.aload_n 0, 1) := by decide +kernel
theorem dX3_parse_16 : decode cX3_parse 16 = .ok (.iconst 0, 1) := by decide +kernel
theorem dX3_parse_17 : decode cX3_parse 17 = .ok (.putfield 36, 3) := by decide +kernel
theorem dX3_parse_20 : decode cX3_parse 20 = .ok (.aload_n 0, 1) := by decide +kernel
theorem dX3_parse_21 : decode cX3_parse 21 = .ok (.invokevirtual 39, 3) := by decide +kernel
theorem dX3_parse_24 : decode cX3_parse 24 = .ok (.aload_n 0, 1) := by decide +kernel
theorem dX3_parse_25 : decode cX3_parse 25 = .ok (.aload_n 0, 1) := by decide +kernel
theorem dX3_parse_26 : decode cX3_parse 26 = .ok (.invokevirtual 42, 3) := by decide +kernel
theorem dX3_parse_29 : decode cX3_parse 29 = .ok (.putfield 46, 3) := by decide +kernel
theorem dX3_parse_32 : decode cX3_parse 32 = .ok (.aload_n 0, 1) := by decide +kernel
theorem dX3_parse_33 : decode cX3_parse 33 = .ok (.getfield 46, 3) := by decide +kernel
theorem dX3_parse_36 : decode cX3_parse 36 = .ok (.ldc 49, 2) := by decide +kernel
theorem dX3_parse_38 : decode cX3_parse 38 = .ok (.if_icmp .ne 5, 3) := by decide +kernel
theorem dX3_parse_41 : decode cX3_parse 41 = .ok (.aconst_null, 1) := by decide +kernel
theorem dX3_parse_42 : decode cX3_parse 42 = .ok (.areturn, 1) := by decide +kernel
theorem dX3_parse_43 : decode cX3_parse 43 = .ok (.aload_n 0, 1) := by decide +kernel
theorem dX3_parse_44 : decode cX3_parse 44 = .ok (.invokevirtual 39, 3) := by decide +kernel
theorem dX3_parse_47 : decode cX3_parse 47 = .ok (.aload_n 0, 1) := by decide +kernel
theorem dX3_parse_48 : decode cX3_parse 48 = .ok (.iconst 0, 1) := by decide +kernel
theorem dX3_parse_49 : decode cX3_parse 49 = .ok (.iconst 0, 1) := by decide +kernel
theorem dX3_parse_50 : decode cX3_parse 50 = .ok (.iconst 0, 1) := by decide +kernel
theorem dX3_parse_51 : decode cX3_parse 51 = .ok (.invokevirtual 50, 3) := by decide +kernel
theorem dX3_parse_54 : decode cX3_parse 54 = .ok (.ifCond .eq 14, 3) := by decide +kernel
theorem dX3_parse_57 : decode cX3_parse 57 = .ok (.aload_n 0, 1) := by decide +kernel
theorem dX3_parse_58 : decode cX3_parse 58 = .ok (.getfield 30, 3) := by decide +kernel
theorem dX3_parse_61 : decode cX3_parse 61 = .ok (.ifCond .ne 7, 3) := by decide +kernel
theorem dX3_parse_64 : decode cX3_parse 64 = .ok (.iconst 1, 1) := by decide +kernel
theorem dX3_parse_65 : decode cX3_parse 65 = .ok (.goto 4, 3) := by decide +kernel
theorem dX3_parse_68 : decode cX3_parse 68 = .ok (.iconst 0, 1) := by decide +kernel
theorem dX3_parse_69 : decode cX3_parse 69 = .ok (.istore_n 1, 1) := by decide +kernel
theorem dX3_parse_70 : decode cX3_parse 70 = .ok (.iload_n 1, 1) := by decide +kernel
theorem dX3_parse_71 : decode cX3_parse 71 = .ok (.ifCond .eq 32, 3) := by decide +kernel
theorem dX3_parse_74 : decode cX3_parse 74 = .ok (.new 53, 3) := by decide +kernel
theorem dX3_parse_77 : decode cX3_parse 77 = .ok (.dup, 1) := by decide +kernel
theorem dX3_parse_78 : decode cX3_parse 78 = .ok (.aload_n 0, 1) := by decide +kernel
theorem dX3_parse_79 : decode cX3_parse 79 = .ok (.getfield 46, 3) := by decide +kernel
theorem dX3_parse_82 : decode cX3_parse 82 = .ok (.aload_n 0, 1) := by decide +kernel
theorem dX3_parse_83 : decode cX3_parse 83 = .ok (.getfield 36, 3) := by decide +kernel
theorem dX3_parse_86 : decode cX3_parse 86 = .ok (.aload_n 0, 1) := by decide +kernel
theorem dX3_parse_87 : decode cX3_parse 87 = .ok (.getfield 15, 3) := by decide +kernel
theorem dX3_parse_90 : decode cX3_parse 90 = .ok (.aload_n 0, 1) := by decide +kernel
theorem dX3_parse_91 : decode cX3_parse 91 = .ok (.getfield 33, 3) := by decide +kernel
theorem dX3_parse_94 : decode cX3_parse 94 = .ok (.invokestatic 55, 3) := by decide +kernel
theorem dX3_parse_97 : decode cX3_parse 97 = .ok (.invokespecial 61, 3) := by decide +kernel
theorem dX3_parse_100 : decode cX3_parse 100 = .ok (.goto 4, 3) := by decide +kernel
theorem dX3_parse_103 : decode cX3_parse 103 = .ok (.aconst_null, 1) := by decide +kernel
theorem dX3_parse_104 : decode cX3_parse 104 = .ok (.areturn, 1) := by decide +kernel
theorem dX3_faultPlace_0 : decode cX3_faultPlace 0 = .ok (.aload_n 0, 1) := by decide +kernel
theorem dX3_faultPlace_1 : decode cX3_faultPlace 1 = .ok (.getfield 64, 3) := by decide +kernel
theorem dX3_faultPlace_4 : decode cX3_faultPlace 4 = .ok (.ireturn, 1) := by decide +kernel
theorem dX3_goOn_0 : decode cX3_goOn 0 = .ok (.aload_n 0, 1) := by decide +kernel
theorem dX3_goOn_1 : decode cX3_goOn 1 = .ok (.getfield 30, 3) := by decide +kernel
theorem dX3_goOn_4 : decode cX3_goOn 4 = .ok (.iconst 1, 1) := by decide +kernel
theorem dX3_goOn_5 : decode cX3_goOn 5 = .ok (.if_icmp .eq 11, 3) := by decide +kernel
theorem dX3_goOn_8 : decode cX3_goOn 8 = .ok (.aload_n 0, 1) := by decide +kernel
theorem dX3_goOn_9 : decode cX3_goOn 9 = .ok (.getfield 30, 3) := by decide +kernel
theorem dX3_goOn_12 : decode cX3_goOn 12 = .ok (.iconst 2, 1) := by decide +kernel
theorem dX3_goOn_13 : decode cX3_goOn 13 = .ok (.if_icmp .ne 7, 3) := by decide +kernel
theorem dX3_goOn_16 : decode cX3_goOn 16 = .ok (.iconst 1, 1) := by decide +kernel
theorem dX3_goOn_17 : decode cX3_goOn 17 = .ok (.goto 4, 3) := by decide +kernel
theorem dX3_goOn_20 : decode cX3_goOn 20 = .ok (.iconst 0, 1) := by decide +kernel
theorem dX3_goOn_21 : decode cX3_goOn 21 = .ok (.istore_n 1, 1) := by decide +kernel
theorem dX3_goOn_22 : decode cX3_goOn 22 = .ok (.aload_n 0, 1) := by decide +kernel
theorem dX3_goOn_23 : decode cX3_goOn 23 = .ok (.aload_n 0, 1) := by decide +kernel
theorem dX3_goOn_24 : decode cX3_goOn 24 = .ok (.getfield 27, 3) := by decide +kernel
theorem dX3_goOn_27 : decode cX3_goOn 27 = .ok (.putfield 64, 3) := by decide +kernel
theorem dX3_goOn_30 : decode cX3_goOn 30 = .ok (.aload_n 0, 1) := by decide +kernel
theorem dX3_goOn_31 : decode cX3_goOn 31 = .ok (.getfield 64, 3) := by decide +kernel
theorem dX3_goOn_34 : decode cX3_goOn 34 = .ok (.aload_n 0, 1) := by decide +kernel
theorem dX3_goOn_35 : decode cX3_goOn 35 = .ok (.getfield 19, 3) := by decide +kernel
theorem dX3_goOn_38 : decode cX3_goOn 38 = .ok (.if_icmp .ge 29, 3) := by decide +kernel
theorem dX3_goOn_41 : decode cX3_goOn 41 = .ok (.aload_n 0, 1) := by decide +kernel
theorem dX3_goOn_42 : decode cX3_goOn 42 = .ok (.aload_n 0, 1) := by decide +kernel
theorem dX3_goOn_43 : decode cX3_goOn 43 = .ok (.getfield 64, 3) := by decide +kernel
theorem dX3_goOn_46 : decode cX3_goOn 46 = .ok (.invokevirtual 67, 3) := by decide +kernel
theorem dX3_goOn_49 : decode cX3_goOn 49 = .ok (.bipush 32, 2) := by decide +kernel
theorem dX3_goOn_51 : decode cX3_goOn 51 = .ok (.if_icmp .ne 16, 3) := by decide +kernel
theorem dX3_goOn_54 : decode cX3_goOn 54 = .ok (.aload_n 0, 1) := by decide +kernel
theorem dX3_goOn_55 : decode cX3_goOn 55 = .ok (.dup, 1) := by decide +kernel
theorem dX3_goOn_56 : decode cX3_goOn 56 = .ok (.getfield 64, 3) := by decide +kernel
theorem dX3_goOn_59 : decode cX3_goOn 59 = .ok (.iconst 1, 1) := by decide +kernel
theorem dX3_goOn_60 : decode cX3_goOn 60 = .ok (.iadd, 1) := by decide +kernel
theorem dX3_goOn_61 : decode cX3_goOn 61 = .ok (.putfield 64, 3) := by decide +kernel
theorem dX3_goOn_64 : decode cX3_goOn 64 = .ok (.goto (-34), 3) := by decide +kernel
theorem dX3_goOn_67 : decode cX3_goOn 67 = .ok (.aload_n 0, 1) := by decide +kernel
theorem dX3_goOn_68 : decode cX3_goOn 68 = .ok (.getfield 64, 3) := by decide +kernel
theorem dX3_goOn_71 : decode cX3_goOn 71 = .ok (.aload_n 0, 1) := by decide +kernel
theorem dX3_goOn_72 : decode cX3_goOn 72 = .ok (.getfield 27, 3) := by decide +kernel
theorem dX3_goOn_75 : decode cX3_goOn 75 = .ok (.if_icmp .ne 11, 3) := by decide +kernel
theorem dX3_goOn_78 : decode cX3_goOn 78 = .ok (.iload_n 1, 1) := by decide +kernel
theorem dX3_goOn_79 : decode cX3_goOn 79 = .ok (.ifCond .eq 7, 3) := by decide +kernel
theorem dX3_goOn_82 : decode cX3_goOn 82 = .ok (.iconst 1, 1) := by decide +kernel
theorem dX3_goOn_83 : decode cX3_goOn 83 = .ok (.goto 4, 3) := by decide +kernel
theorem dX3_goOn_86 : decode cX3_goOn 86 = .ok (.iconst 0, 1) := by decide +kernel
theorem dX3_goOn_87 : decode cX3_goOn 87 = .ok (.istore_n 2, 1) := by decide +kernel
theorem dX3_goOn_88 : decode cX3_goOn 88 = .ok (.aload_n 0, 1) := by decide +kernel
theorem dX3_goOn_89 : decode cX3_goOn 89 = .ok (.aload_n 0, 1) := by decide +kernel
theorem dX3_goOn_90 : decode cX3_goOn 90 = .ok (.getfield 64, 3) := by decide +kernel
theorem dX3_goOn_93 : decode cX3_goOn 93 = .ok (.aload_n 0, 1) := by decide +kernel
theorem dX3_goOn_94 : decode cX3_goOn 94 = .ok (.getfield 19, 3) := by decide +kernel
theorem dX3_goOn_97 : decode cX3_goOn 97 = .ok (.if_icmp .lt 7, 3) := by decide +kernel
theorem dX3_goOn_100 : decode cX3_goOn 100 = .ok (.iconst 0, 1) := by decide +kernel
theorem dX3_goOn_101 : decode cX3_goOn 101 = .ok (.goto 14, 3) := by decide +kernel
theorem dX3_goOn_104 : decode cX3_goOn 104 = .ok (.aload_n 0, 1) := by decide +kernel
theorem dX3_goOn_105 : decode cX3_goOn 105 = .ok (.aload_n 0, 1) := by decide +kernel
theorem dX3_goOn_106 : decode cX3_goOn 106 = .ok (.getfield 64, 3) := by decide +kernel
theorem dX3_goOn_109 : decode cX3_goOn 109 = .ok (.invokevirtual 67, 3) := by decide +kernel
theorem dX3_goOn_112 : decode cX3_goOn 112 = .ok (.invokestatic 71, 3) := by decide +kernel
theorem dX3_goOn_115 : decode cX3_goOn 115 = .ok (.putfield 30, 3) := by decide +kernel
theorem dX3_goOn_118 : decode cX3_goOn 118 = .ok (.aload_n 0, 1) := by decide +kernel
theorem dX3_goOn_119 : decode cX3_goOn 119 = .ok (.aload_n 0, 1) := by decide +kernel
theorem dX3_goOn_120 : decode cX3_goOn 120 = .ok (.getfield 30, 3) := by decide +kernel
theorem dX3_goOn_123 : decode cX3_goOn 123 = .ok (.ifCond .ne 10, 3) := by decide +kernel
theorem dX3_goOn_126 : decode cX3_goOn 126 = .ok (.aload_n 0, 1) := by decide +kernel
theorem dX3_goOn_127 : decode cX3_goOn 127 = .ok (.getfield 64, 3) := by decide +kernel
theorem dX3_goOn_130 : decode cX3_goOn 130 = .ok (.goto 9, 3) := by decide +kernel
theorem dX3_goOn_133 : decode cX3_goOn 133 = .ok (.aload_n 0, 1) := by decide +kernel
theorem dX3_goOn_134 : decode cX3_goOn 134 = .ok (.getfield 64, 3) := by decide +kernel
theorem dX3_goOn_137 : decode cX3_goOn 137 = .ok (.iconst 1, 1) := by decide +kernel
theorem dX3_goOn_138 : decode cX3_goOn 138 = .ok (.iadd, 1) := by decide +kernel
theorem dX3_goOn_139 : decode cX3_goOn 139 = .ok (.putfield 27, 3) := by decide +kernel
theorem dX3_goOn_142 : decode cX3_goOn 142 = .ok (.aload_n 0, 1) := by decide +kernel
theorem dX3_goOn_143 : decode cX3_goOn 143 = .ok (.getfield 30, 3) := by decide +kernel
theorem dX3_goOn_146 : decode cX3_goOn 146 = .ok (.iconst 1, 1) := by decide +kernel
theorem dX3_goOn_147 : decode cX3_goOn 147 = .ok (.if_icmp .eq 11, 3) := by decide +kernel
theorem dX3_goOn_150 : decode cX3_goOn 150 = .ok (.aload_n 0, 1) := by decide +kernel
theorem dX3_goOn_151 : decode cX3_goOn 151 = .ok (.getfield 30, 3) := by decide +kernel
theorem dX3_goOn_154 : decode cX3_goOn 154 = .ok (.iconst 2, 1) := by decide +kernel
theorem dX3_goOn_155 : decode cX3_goOn 155 = .ok (.if_icmp .ne 61, 3) := by decide +kernel
theorem dX3_goOn_158 : decode cX3_goOn 158 = .ok (.aload_n 0, 1) := by decide +kernel
theorem dX3_goOn_159 : decode cX3_goOn 159 = .ok (.getfield 27, 3) := by decide +kernel
theorem dX3_goOn_162 : decode cX3_goOn 162 = .ok (.aload_n 0, 1) := by decide +kernel
theorem dX3_goOn_163 : decode cX3_goOn 163 = .ok (.getfield 19, 3) := by decide +kernel
theorem dX3_goOn_166 : decode cX3_goOn 166 = .ok (.if_icmp .ge 34, 3) := by decide +kernel
theorem dX3_goOn_169 : decode cX3_goOn 169 = .ok (.aload_n 0, 1) := by decide +kernel
theorem dX3_goOn_170 : decode cX3_goOn 170 = .ok (.aload_n 0, 1) := by decide +kernel
theorem dX3_goOn_171 : decode cX3_goOn 171 = .ok (.getfield 27, 3) := by decide +kernel
theorem dX3_goOn_174 : decode cX3_goOn 174 = .ok (.invokevirtual 67, 3) := by decide +kernel
theorem dX3_goOn_177 : decode cX3_goOn 177 = .ok (.invokestatic 71, 3) := by decide +kernel
theorem dX3_goOn_180 : decode cX3_goOn 180 = .ok (.aload_n 0, 1) := by decide +kernel
theorem dX3_goOn_181 : decode cX3_goOn 181 = .ok (.getfield 30, 3) := by decide +kernel
theorem dX3_goOn_184 : decode cX3_goOn 184 = .ok (.if_icmp .ne 16, 3) := by decide +kernel
theorem dX3_goOn_187 : decode cX3_goOn 187 = .ok (.aload_n 0, 1) := by decide +kernel
theorem dX3_goOn_188 : decode cX3_goOn 188 = .ok (.dup, 1) := by decide +kernel
theorem dX3_goOn_189 : decode cX3_goOn 189 = .ok (.getfield 27, 3) := by decide +kernel
theorem dX3_goOn_192 : decode cX3_goOn 192 = .ok (.iconst 1, 1) := by decide +kernel
theorem dX3_goOn_193 : decode cX3_goOn 193 = .ok (.iadd, 1) := by decide +kernel
theorem dX3_goOn_194 : decode cX3_goOn 194 = .ok (.putfield 27, 3) := by decide +kernel
theorem dX3_goOn_197 : decode cX3_goOn 197 = .ok (.goto (-39), 3) := by decide +kernel
theorem dX3_goOn_200 : decode cX3_goOn 200 = .ok (.aload_n 0, 1) := by decide +kernel
theorem dX3_goOn_201 : decode cX3_goOn 201 = .ok (.iload_n 2, 1) := by decide +kernel
theorem dX3_goOn_202 : decode cX3_goOn 202 = .ok (.ifCond .eq 7, 3) := by decide +kernel
theorem dX3_goOn_205 : decode cX3_goOn 205 = .ok (.iconst 4, 1) := by decide +kernel
theorem dX3_goOn_206 : decode cX3_goOn 206 = .ok (.goto 7, 3) := by decide +kernel
theorem dX3_goOn_209 : decode cX3_goOn 209 = .ok (.aload_n 0, 1) := by decide +kernel
theorem dX3_goOn_210 : decode cX3_goOn 210 = .ok (.getfield 30, 3) := by decide +kernel
theorem dX3_goOn_213 : decode cX3_goOn 213 = .ok (.putfield 30, 3) := by decide +kernel
theorem dX3_goOn_216 : decode cX3_goOn 216 = .ok (.return_, 1) := by decide +kernel
theorem dX3_sortOf_0 : decode cX3_sortOf 0 = .ok (.iload_n 0, 1) := by decide +kernel
theorem dX3_sortOf_1 : decode cX3_sortOf 1 = .ok (.bipush 97, 2) := by decide +kernel
theorem dX3_sortOf_3 : decode cX3_sortOf 3 = .ok (.bipush 122, 2) := by decide +kernel
theorem dX3_sortOf_5 : decode cX3_sortOf 5 = .ok (.invokestatic 23, 3) := by decide +kernel
theorem dX3_sortOf_8 : decode cX3_sortOf 8 = .ok (.ifCond .eq 5, 3) := by decide +kernel
theorem dX3_sortOf_11 : decode cX3_sortOf 11 = .ok (.iconst 1, 1) := by decide +kernel
theorem dX3_sortOf_12 : decode cX3_sortOf 12 = .ok (.ireturn, 1) := by decide +kernel
theorem dX3_sortOf_13 : decode cX3_sortOf 13 = .ok (.iload_n 0, 1) := by decide +kernel
theorem dX3_sortOf_14 : decode cX3_sortOf 14 = .ok (.bipush 48, 2) := by decide +kernel
theorem dX3_sortOf_16 : decode cX3_sortOf 16 = .ok (.bipush 57, 2) := by decide +kernel
theorem dX3_sortOf_18 : decode cX3_sortOf 18 = .ok (.invokestatic 23, 3) := by decide +kernel
theorem dX3_sortOf_21 : decode cX3_sortOf 21 = .ok (.ifCond .eq 7, 3) := by decide +kernel
theorem dX3_sortOf_24 : decode cX3_sortOf 24 = .ok (.iconst 2, 1) := by decide +kernel
theorem dX3_sortOf_25 : decode cX3_sortOf 25 = .ok (.goto 4, 3) := by decide +kernel
theorem dX3_sortOf_28 : decode cX3_sortOf 28 = .ok (.iconst 3, 1) := by decide +kernel
theorem dX3_sortOf_29 : decode cX3_sortOf 29 = .ok (.ireturn, 1) := by decide +kernel
theorem dX3_keyHere_0 : decode cX3_keyHere 0 = .ok (.iconst 0, 1) := by decide +kernel
theorem dX3_keyHere_1 : decode cX3_keyHere 1 = .ok (.istore_n 1, 1) := by decide +kernel
theorem dX3_keyHere_2 : decode cX3_keyHere 2 = .ok (.iload_n 1, 1) := by decide +kernel
theorem dX3_keyHere_3 : decode cX3_keyHere 3 = .ok (.iconst 3, 1) := by decide +kernel
theorem dX3_keyHere_4 : decode cX3_keyHere 4 = .ok (.if_icmp .ge 30, 3) := by decide +kernel
theorem dX3_keyHere_7 : decode cX3_keyHere 7 = .ok (.aload_n 0, 1) := by decide +kernel
theorem dX3_keyHere_8 : decode cX3_keyHere 8 = .ok (.getfield 30, 3) := by decide +kernel
theorem dX3_keyHere_11 : decode cX3_keyHere 11 = .ok (.iconst 1, 1) := by decide +kernel
theorem dX3_keyHere_12 : decode cX3_keyHere 12 = .ok (.if_icmp .ne 16, 3) := by decide +kernel
theorem dX3_keyHere_15 : decode cX3_keyHere 15 = .ok (.aload_n 0, 1) := by decide +kernel
theorem dX3_keyHere_16 : decode cX3_keyHere 16 = .ok (.iload_n 1, 1) := by decide +kernel
theorem dX3_keyHere_17 : decode cX3_keyHere 17 = .ok (.invokestatic 74, 3) := by decide +kernel
theorem dX3_keyHere_20 : decode cX3_keyHere 20 = .ok (.invokevirtual 78, 3) := by decide +kernel
theorem dX3_keyHere_23 : decode cX3_keyHere 23 = .ok (.ifCond .eq 5, 3) := by decide +kernel
theorem dX3_keyHere_26 : decode cX3_keyHere 26 = .ok (.iload_n 1, 1) := by decide +kernel
theorem dX3_keyHere_27 : decode cX3_keyHere 27 = .ok (.ireturn, 1) := by decide +kernel
theorem dX3_keyHere_28 : decode cX3_keyHere 28 = .ok (.iinc 1 1, 3) := by decide +kernel
theorem dX3_keyHere_31 : decode cX3_keyHere 31 = .ok (.goto (-29), 3) := by decide +kernel
theorem dX3_keyHere_34 : decode cX3_keyHere 34 = .ok (.ldc 49, 2) := by decide +kernel
theorem dX3_keyHere_36 : decode cX3_keyHere 36 = .ok (.ireturn, 1) := by decide +kernel
theorem dX3_wordOf_0 : decode cX3_wordOf 0 = .ok (.iload_n 0, 1) := by decide +kernel
theorem dX3_wordOf_1 : decode cX3_wordOf 1 = .ok (.lookupswitch 33 #[(0, 27), (1, 30)], 27) := by decide +kernel
theorem dX3_wordOf_28 : decode cX3_wordOf 28 = .ok (.ldc 82, 2) := by decide +kernel
theorem dX3_wordOf_30 : decode cX3_wordOf 30 = .ok (.areturn, 1) := by decide +kernel
theorem dX3_wordOf_31 : decode cX3_wordOf 31 = .ok (.ldc 84, 2) := by decide +kernel
theorem dX3_wordOf_33 : decode cX3_wordOf 33 = .ok (.areturn, 1) := by decide +kernel
theorem dX3_wordOf_34 : decode cX3_wordOf 34 = .ok (.ldc 86, 2) := by decide +kernel
theorem dX3_wordOf_36 : decode cX3_wordOf 36 = .ok (.areturn, 1) := by decide +kernel
theorem dX3_namesOf_0 : decode cX3_namesOf 0 = .ok (.iload_n 0, 1) := by decide +kernel
theorem dX3_namesOf_1 : decode cX3_namesOf 1 = .ok (.lookupswitch 33 #[(0, 27), (1, 30)], 27) := by decide +kernel
theorem dX3_namesOf_28 : decode cX3_namesOf 28 = .ok (.ldc 88, 2) := by decide +kernel
theorem dX3_namesOf_30 : decode cX3_namesOf 30 = .ok (.areturn, 1) := by decide +kernel
theorem dX3_namesOf_31 : decode cX3_namesOf 31 = .ok (.ldc 90, 2) := by decide +kernel
theorem dX3_namesOf_33 : decode cX3_namesOf 33 = .ok (.areturn, 1) := by decide +kernel
theorem dX3_namesOf_34 : decode cX3_namesOf 34 = .ok (.ldc 92, 2) := by decide +kernel
theorem dX3_namesOf_36 : decode cX3_namesOf 36 = .ok (.areturn, 1) := by decide +kernel
theorem dX3_isWord_0 : decode cX3_isWord 0 = .ok (.aload_n 0, 1) := by decide +kernel
theorem dX3_isWord_1 : decode cX3_isWord 1 = .ok (.getfield 27, 3) := by decide +kernel
theorem dX3_isWord_4 : decode cX3_isWord 4 = .ok (.aload_n 0, 1) := by decide +kernel
theorem dX3_isWord_5 : decode cX3_isWord 5 = .ok (.getfield 64, 3) := by decide +kernel
theorem dX3_isWord_8 : decode cX3_isWord 8 = .ok (.isub, 1) := by decide +kernel
theorem dX3_isWord_9 : decode cX3_isWord 9 = .ok (.aload_n 1, 1) := by decide +kernel
theorem dX3_isWord_10 : decode cX3_isWord 10 = .ok (.invokevirtual 94, 3) := by decide +kernel
theorem dX3_isWord_13 : decode cX3_isWord 13 = .ok (.if_icmp .eq 5, 3) := by decide +kernel
theorem dX3_isWord_16 : decode cX3_isWord 16 = .ok (.iconst 0, 1) := by decide +kernel
theorem dX3_isWord_17 : decode cX3_isWord 17 = .ok (.ireturn, 1) := by decide +kernel
theorem dX3_isWord_18 : decode cX3_isWord 18 = .ok (.iconst 0, 1) := by decide +kernel
theorem dX3_isWord_19 : decode cX3_isWord 19 = .ok (.istore_n 2, 1) := by decide +kernel
theorem dX3_isWord_20 : decode cX3_isWord 20 = .ok (.iload_n 2, 1) := by decide +kernel
theorem dX3_isWord_21 : decode cX3_isWord 21 = .ok (.aload_n 1, 1) := by decide +kernel
theorem dX3_isWord_22 : decode cX3_isWord 22 = .ok (.invokevirtual 94, 3) := by decide +kernel
theorem dX3_isWord_25 : decode cX3_isWord 25 = .ok (.if_icmp .ge 29, 3) := by decide +kernel
theorem dX3_isWord_28 : decode cX3_isWord 28 = .ok (.aload_n 0, 1) := by decide +kernel
theorem dX3_isWord_29 : decode cX3_isWord 29 = .ok (.aload_n 0, 1) := by decide +kernel
theorem dX3_isWord_30 : decode cX3_isWord 30 = .ok (.getfield 64, 3) := by decide +kernel
theorem dX3_isWord_33 : decode cX3_isWord 33 = .ok (.iload_n 2, 1) := by decide +kernel
theorem dX3_isWord_34 : decode cX3_isWord 34 = .ok (.iadd, 1) := by decide +kernel
theorem dX3_isWord_35 : decode cX3_isWord 35 = .ok (.invokevirtual 67, 3) := by decide +kernel
theorem dX3_isWord_38 : decode cX3_isWord 38 = .ok (.aload_n 1, 1) := by decide +kernel
theorem dX3_isWord_39 : decode cX3_isWord 39 = .ok (.iload_n 2, 1) := by decide +kernel
theorem dX3_isWord_40 : decode cX3_isWord 40 = .ok (.invokevirtual 98, 3) := by decide +kernel
theorem dX3_isWord_43 : decode cX3_isWord 43 = .ok (.if_icmp .eq 5, 3) := by decide +kernel
theorem dX3_isWord_46 : decode cX3_isWord 46 = .ok (.iconst 0, 1) := by decide +kernel
theorem dX3_isWord_47 : decode cX3_isWord 47 = .ok (.ireturn, 1) := by decide +kernel
theorem dX3_isWord_48 : decode cX3_isWord 48 = .ok (.iinc 2 1, 3) := by decide +kernel
theorem dX3_isWord_51 : decode cX3_isWord 51 = .ok (.goto (-31), 3) := by decide +kernel
theorem dX3_isWord_54 : decode cX3_isWord 54 = .ok (.iconst 1, 1) := by decide +kernel
theorem dX3_isWord_55 : decode cX3_isWord 55 = .ok (.ireturn, 1) := by decide +kernel
theorem dX3_readLevel_0 : decode cX3_readLevel 0 = .ok (.iload_n 1, 1) := by decide +kernel
theorem dX3_readLevel_1 : decode cX3_readLevel 1 = .ok (.iconst 5, 1) := by decide +kernel
theorem dX3_readLevel_2 : decode cX3_readLevel 2 = .ok (.if_icmp .lt 10, 3) := by decide +kernel
theorem dX3_readLevel_5 : decode cX3_readLevel 5 = .ok (.aload_n 0, 1) := by decide +kernel
theorem dX3_readLevel_6 : decode cX3_readLevel 6 = .ok (.iload_n 2, 1) := by decide +kernel
theorem dX3_readLevel_7 : decode cX3_readLevel 7 = .ok (.iload_n 3, 1) := by decide +kernel
theorem dX3_readLevel_8 : decode cX3_readLevel 8 = .ok (.invokevirtual 102, 3) := by decide +kernel
theorem dX3_readLevel_11 : decode cX3_readLevel 11 = .ok (.ireturn, 1) := by decide +kernel
theorem dX3_readLevel_12 : decode cX3_readLevel 12 = .ok (.aload_n 0, 1) := by decide +kernel
theorem dX3_readLevel_13 : decode cX3_readLevel 13 = .ok (.iload_n 1, 1) := by decide +kernel
theorem dX3_readLevel_14 : decode cX3_readLevel 14 = .ok (.iconst 1, 1) := by decide +kernel
theorem dX3_readLevel_15 : decode cX3_readLevel 15 = .ok (.iadd, 1) := by decide +kernel
theorem dX3_readLevel_16 : decode cX3_readLevel 16 = .ok (.iload_n 2, 1) := by decide +kernel
theorem dX3_readLevel_17 : decode cX3_readLevel 17 = .ok (.iload_n 3, 1) := by decide +kernel
theorem dX3_readLevel_18 : decode cX3_readLevel 18 = .ok (.invokevirtual 50, 3) := by decide +kernel
theorem dX3_readLevel_21 : decode cX3_readLevel 21 = .ok (.ifCond .ne 5, 3) := by decide +kernel
theorem dX3_readLevel_24 : decode cX3_readLevel 24 = .ok (.iconst 0, 1) := by decide +kernel
theorem dX3_readLevel_25 : decode cX3_readLevel 25 = .ok (.ireturn, 1) := by decide +kernel
theorem dX3_readLevel_26 : decode cX3_readLevel 26 = .ok (.iload_n 1, 1) := by decide +kernel
theorem dX3_readLevel_27 : decode cX3_readLevel 27 = .ok (.iconst 2, 1) := by decide +kernel
theorem dX3_readLevel_28 : decode cX3_readLevel 28 = .ok (.if_icmp .ne 7, 3) := by decide +kernel
theorem dX3_readLevel_31 : decode cX3_readLevel 31 = .ok (.iconst 1, 1) := by decide +kernel
theorem dX3_readLevel_32 : decode cX3_readLevel 32 = .ok (.goto 5, 3) := by decide +kernel
theorem dX3_readLevel_35 : decode cX3_readLevel 35 = .ok (.bipush 96, 2) := by decide +kernel
theorem dX3_readLevel_37 : decode cX3_readLevel 37 = .ok (.istore 4, 2) := by decide +kernel
theorem dX3_readLevel_39 : decode cX3_readLevel 39 = .ok (.iconst 0, 1) := by decide +kernel
theorem dX3_readLevel_40 : decode cX3_readLevel 40 = .ok (.istore 5, 2) := by decide +kernel
theorem dX3_readLevel_42 : decode cX3_readLevel 42 = .ok (.iload 5, 2) := by decide +kernel
theorem dX3_readLevel_44 : decode cX3_readLevel 44 = .ok (.iload 4, 2) := by decide +kernel
theorem dX3_readLevel_46 : decode cX3_readLevel 46 = .ok (.if_icmp .ge 55, 3) := by decide +kernel
theorem dX3_readLevel_49 : decode cX3_readLevel 49 = .ok (.aload_n 0, 1) := by decide +kernel
theorem dX3_readLevel_50 : decode cX3_readLevel 50 = .ok (.iload_n 1, 1) := by decide +kernel
theorem dX3_readLevel_51 : decode cX3_readLevel 51 = .ok (.invokevirtual 106, 3) := by decide +kernel
theorem dX3_readLevel_54 : decode cX3_readLevel 54 = .ok (.ifCond .eq 47, 3) := by decide +kernel
theorem dX3_readLevel_57 : decode cX3_readLevel 57 = .ok (.aload_n 0, 1) := by decide +kernel
theorem dX3_readLevel_58 : decode cX3_readLevel 58 = .ok (.aload_n 0, 1) := by decide +kernel
theorem dX3_readLevel_59 : decode cX3_readLevel 59 = .ok (.getfield 64, 3) := by decide +kernel
theorem dX3_readLevel_62 : decode cX3_readLevel 62 = .ok (.invokevirtual 67, 3) := by decide +kernel
theorem dX3_readLevel_65 : decode cX3_readLevel 65 = .ok (.istore 6, 2) := by decide +kernel
theorem dX3_readLevel_67 : decode cX3_readLevel 67 = .ok (.aload_n 0, 1) := by decide +kernel
theorem dX3_readLevel_68 : decode cX3_readLevel 68 = .ok (.invokevirtual 39, 3) := by decide +kernel
theorem dX3_readLevel_71 : decode cX3_readLevel 71 = .ok (.aload_n 0, 1) := by decide +kernel
theorem dX3_readLevel_72 : decode cX3_readLevel 72 = .ok (.iload_n 1, 1) := by decide +kernel
theorem dX3_readLevel_73 : decode cX3_readLevel 73 = .ok (.iconst 1, 1) := by decide +kernel
theorem dX3_readLevel_74 : decode cX3_readLevel 74 = .ok (.iadd, 1) := by decide +kernel
theorem dX3_readLevel_75 : decode cX3_readLevel 75 = .ok (.iload_n 2, 1) := by decide +kernel
theorem dX3_readLevel_76 : decode cX3_readLevel 76 = .ok (.iload_n 3, 1) := by decide +kernel
theorem dX3_readLevel_77 : decode cX3_readLevel 77 = .ok (.invokevirtual 50, 3) := by decide +kernel
theorem dX3_readLevel_80 : decode cX3_readLevel 80 = .ok (.ifCond .ne 5, 3) := by decide +kernel
theorem dX3_readLevel_83 : decode cX3_readLevel 83 = .ok (.iconst 0, 1) := by decide +kernel
theorem dX3_readLevel_84 : decode cX3_readLevel 84 = .ok (.ireturn, 1) := by decide +kernel
theorem dX3_readLevel_85 : decode cX3_readLevel 85 = .ok (.aload_n 0, 1) := by decide +kernel
theorem dX3_readLevel_86 : decode cX3_readLevel 86 = .ok (.sipush 20000, 3) := by decide +kernel
theorem dX3_readLevel_89 : decode cX3_readLevel 89 = .ok (.iload 6, 2) := by decide +kernel
theorem dX3_readLevel_91 : decode cX3_readLevel 91 = .ok (.iadd, 1) := by decide +kernel
theorem dX3_readLevel_92 : decode cX3_readLevel 92 = .ok (.invokevirtual 110, 3) := by decide +kernel
theorem dX3_readLevel_95 : decode cX3_readLevel 95 = .ok (.iinc 5 1, 3) := by decide +kernel
theorem dX3_readLevel_98 : decode cX3_readLevel 98 = .ok (.goto (-56), 3) := by decide +kernel
theorem dX3_readLevel_101 : decode cX3_readLevel 101 = .ok (.iconst 1, 1) := by decide +kernel
theorem dX3_readLevel_102 : decode cX3_readLevel 102 = .ok (.ireturn, 1) := by decide +kernel
theorem dX3_joinsAt_0 : decode cX3_joinsAt 0 = .ok (.aload_n 0, 1) := by decide +kernel
theorem dX3_joinsAt_1 : decode cX3_joinsAt 1 = .ok (.getfield 30, 3) := by decide +kernel
theorem dX3_joinsAt_4 : decode cX3_joinsAt 4 = .ok (.iconst 3, 1) := by decide +kernel
theorem dX3_joinsAt_5 : decode cX3_joinsAt 5 = .ok (.if_icmp .ne 26, 3) := by decide +kernel
theorem dX3_joinsAt_8 : decode cX3_joinsAt 8 = .ok (.iload_n 1, 1) := by decide +kernel
theorem dX3_joinsAt_9 : decode cX3_joinsAt 9 = .ok (.invokestatic 114, 3) := by decide +kernel
theorem dX3_joinsAt_12 : decode cX3_joinsAt 12 = .ok (.aload_n 0, 1) := by decide +kernel
theorem dX3_joinsAt_13 : decode cX3_joinsAt 13 = .ok (.aload_n 0, 1) := by decide +kernel
theorem dX3_joinsAt_14 : decode cX3_joinsAt 14 = .ok (.getfield 64, 3) := by decide +kernel
theorem dX3_joinsAt_17 : decode cX3_joinsAt 17 = .ok (.invokevirtual 67, 3) := by decide +kernel
theorem dX3_joinsAt_20 : decode cX3_joinsAt 20 = .ok (.i2c, 1) := by decide +kernel
theorem dX3_joinsAt_21 : decode cX3_joinsAt 21 = .ok (.invokevirtual 117, 3) := by decide +kernel
theorem dX3_joinsAt_24 : decode cX3_joinsAt 24 = .ok (.ifCond .lt 7, 3) := by decide +kernel
theorem dX3_joinsAt_27 : decode cX3_joinsAt 27 = .ok (.iconst 1, 1) := by decide +kernel
theorem dX3_joinsAt_28 : decode cX3_joinsAt 28 = .ok (.goto 4, 3) := by decide +kernel
theorem dX3_joinsAt_31 : decode cX3_joinsAt 31 = .ok (.iconst 0, 1) := by decide +kernel
theorem dX3_joinsAt_32 : decode cX3_joinsAt 32 = .ok (.ireturn, 1) := by decide +kernel
theorem dX3_signsOf_0 : decode cX3_signsOf 0 = .ok (.iload_n 0, 1) := by decide +kernel
theorem dX3_signsOf_1 : decode cX3_signsOf 1 = .ok (.tableswitch 43 0 3 #[31, 34, 37, 40], 31) := by decide +kernel
theorem dX3_signsOf_32 : decode cX3_signsOf 32 = .ok (.ldc 120, 2) := by decide +kernel
theorem dX3_signsOf_34 : decode cX3_signsOf 34 = .ok (.areturn, 1) := by decide +kernel
theorem dX3_signsOf_35 : decode cX3_signsOf 35 = .ok (.ldc 122, 2) := by decide +kernel
theorem dX3_signsOf_37 : decode cX3_signsOf 37 = .ok (.areturn, 1) := by decide +kernel
theorem dX3_signsOf_38 : decode cX3_signsOf 38 = .ok (.ldc 124, 2) := by decide +kernel
theorem dX3_signsOf_40 : decode cX3_signsOf 40 = .ok (.areturn, 1) := by decide +kernel
theorem dX3_signsOf_41 : decode cX3_signsOf 41 = .ok (.ldc 126, 2) := by decide +kernel
theorem dX3_signsOf_43 : decode cX3_signsOf 43 = .ok (.areturn, 1) := by decide +kernel
theorem dX3_signsOf_44 : decode cX3_signsOf 44 = .ok (.ldc 128, 2) := by decide +kernel
theorem dX3_signsOf_46 : decode cX3_signsOf 46 = .ok (.areturn, 1) := by decide +kernel
theorem dX3_readPiece_0 : decode cX3_readPiece 0 = .ok (.aload_n 0, 1) := by decide +kernel
theorem dX3_readPiece_1 : decode cX3_readPiece 1 = .ok (.getfield 30, 3) := by decide +kernel
theorem dX3_readPiece_4 : decode cX3_readPiece 4 = .ok (.iconst 2, 1) := by decide +kernel
theorem dX3_readPiece_5 : decode cX3_readPiece 5 = .ok (.if_icmp .eq 11, 3) := by decide +kernel
theorem dX3_readPiece_8 : decode cX3_readPiece 8 = .ok (.aload_n 0, 1) := by decide +kernel
theorem dX3_readPiece_9 : decode cX3_readPiece 9 = .ok (.getfield 30, 3) := by decide +kernel
theorem dX3_readPiece_12 : decode cX3_readPiece 12 = .ok (.iconst 1, 1) := by decide +kernel
theorem dX3_readPiece_13 : decode cX3_readPiece 13 = .ok (.if_icmp .ne 27, 3) := by decide +kernel
theorem dX3_readPiece_16 : decode cX3_readPiece 16 = .ok (.aload_n 0, 1) := by decide +kernel
theorem dX3_readPiece_17 : decode cX3_readPiece 17 = .ok (.aload_n 0, 1) := by decide +kernel
theorem dX3_readPiece_18 : decode cX3_readPiece 18 = .ok (.getfield 30, 3) := by decide +kernel
theorem dX3_readPiece_21 : decode cX3_readPiece 21 = .ok (.iconst 2, 1) := by decide +kernel
theorem dX3_readPiece_22 : decode cX3_readPiece 22 = .ok (.if_icmp .ne 10, 3) := by decide +kernel
theorem dX3_readPiece_25 : decode cX3_readPiece 25 = .ok (.aload_n 0, 1) := by decide +kernel
theorem dX3_readPiece_26 : decode cX3_readPiece 26 = .ok (.invokevirtual 130, 3) := by decide +kernel
theorem dX3_readPiece_29 : decode cX3_readPiece 29 = .ok (.goto 7, 3) := by decide +kernel
theorem dX3_readPiece_32 : decode cX3_readPiece 32 = .ok (.aload_n 0, 1) := by decide +kernel
theorem dX3_readPiece_33 : decode cX3_readPiece 33 = .ok (.invokevirtual 133, 3) := by decide +kernel
theorem dX3_readPiece_36 : decode cX3_readPiece 36 = .ok (.invokevirtual 136, 3) := by decide +kernel
theorem dX3_readPiece_39 : decode cX3_readPiece 39 = .ok (.ireturn, 1) := by decide +kernel
theorem dX3_readPiece_40 : decode cX3_readPiece 40 = .ok (.aload_n 0, 1) := by decide +kernel
theorem dX3_readPiece_41 : decode cX3_readPiece 41 = .ok (.getfield 30, 3) := by decide +kernel
theorem dX3_readPiece_44 : decode cX3_readPiece 44 = .ok (.iconst 3, 1) := by decide +kernel
theorem dX3_readPiece_45 : decode cX3_readPiece 45 = .ok (.if_icmp .ne 14, 3) := by decide +kernel
theorem dX3_readPiece_48 : decode cX3_readPiece 48 = .ok (.aload_n 0, 1) := by decide +kernel
theorem dX3_readPiece_49 : decode cX3_readPiece 49 = .ok (.aload_n 0, 1) := by decide +kernel
theorem dX3_readPiece_50 : decode cX3_readPiece 50 = .ok (.getfield 64, 3) := by decide +kernel
theorem dX3_readPiece_53 : decode cX3_readPiece 53 = .ok (.invokevirtual 67, 3) := by decide +kernel
theorem dX3_readPiece_56 : decode cX3_readPiece 56 = .ok (.goto 4, 3) := by decide +kernel
theorem dX3_readPiece_59 : decode cX3_readPiece 59 = .ok (.iconst 0, 1) := by decide +kernel
theorem dX3_readPiece_60 : decode cX3_readPiece 60 = .ok (.istore_n 3, 1) := by decide +kernel
theorem dX3_readPiece_61 : decode cX3_readPiece 61 = .ok (.iload_n 3, 1) := by decide +kernel
theorem dX3_readPiece_62 : decode cX3_readPiece 62 = .ok (.bipush 33, 2) := by decide +kernel
theorem dX3_readPiece_64 : decode cX3_readPiece 64 = .ok (.if_icmp .ne 33, 3) := by decide +kernel
theorem dX3_readPiece_67 : decode cX3_readPiece 67 = .ok (.iload_n 2, 1) := by decide +kernel
theorem dX3_readPiece_68 : decode cX3_readPiece 68 = .ok (.bipush 8, 2) := by decide +kernel
theorem dX3_readPiece_70 : decode cX3_readPiece 70 = .ok (.if_icmp .ge 27, 3) := by decide +kernel
theorem dX3_readPiece_73 : decode cX3_readPiece 73 = .ok (.aload_n 0, 1) := by decide +kernel
theorem dX3_readPiece_74 : decode cX3_readPiece 74 = .ok (.invokevirtual 39, 3) := by decide +kernel
theorem dX3_readPiece_77 : decode cX3_readPiece 77 = .ok (.aload_n 0, 1) := by decide +kernel
theorem dX3_readPiece_78 : decode cX3_readPiece 78 = .ok (.iload_n 1, 1) := by decide +kernel
theorem dX3_readPiece_79 : decode cX3_readPiece 79 = .ok (.iload_n 2, 1) := by decide +kernel
theorem dX3_readPiece_80 : decode cX3_readPiece 80 = .ok (.iconst 1, 1) := by decide +kernel
theorem dX3_readPiece_81 : decode cX3_readPiece 81 = .ok (.iadd, 1) := by decide +kernel
theorem dX3_readPiece_82 : decode cX3_readPiece 82 = .ok (.invokevirtual 102, 3) := by decide +kernel
theorem dX3_readPiece_85 : decode cX3_readPiece 85 = .ok (.istore 4, 2) := by decide +kernel
theorem dX3_readPiece_87 : decode cX3_readPiece 87 = .ok (.aload_n 0, 1) := by decide +kernel
theorem dX3_readPiece_88 : decode cX3_readPiece 88 = .ok (.sipush 20033, 3) := by decide +kernel
theorem dX3_readPiece_91 : decode cX3_readPiece 91 = .ok (.invokevirtual 110, 3) := by decide +kernel
theorem dX3_readPiece_94 : decode cX3_readPiece 94 = .ok (.iload 4, 2) := by decide +kernel
theorem dX3_readPiece_96 : decode cX3_readPiece 96 = .ok (.ireturn, 1) := by decide +kernel
theorem dX3_readPiece_97 : decode cX3_readPiece 97 = .ok (.iload_n 3, 1) := by decide +kernel
theorem dX3_readPiece_98 : decode cX3_readPiece 98 = .ok (.bipush 40, 2) := by decide +kernel
theorem dX3_readPiece_100 : decode cX3_readPiece 100 = .ok (.if_icmp .ne 9, 3) := by decide +kernel
theorem dX3_readPiece_103 : decode cX3_readPiece 103 = .ok (.iload_n 1, 1) := by decide +kernel
theorem dX3_readPiece_104 : decode cX3_readPiece 104 = .ok (.bipush 8, 2) := by decide +kernel
theorem dX3_readPiece_106 : decode cX3_readPiece 106 = .ok (.if_icmp .lt 5, 3) := by decide +kernel
theorem dX3_readPiece_109 : decode cX3_readPiece 109 = .ok (.iconst 0, 1) := by decide +kernel
theorem dX3_readPiece_110 : decode cX3_readPiece 110 = .ok (.ireturn, 1) := by decide +kernel
theorem dX3_readPiece_111 : decode cX3_readPiece 111 = .ok (.aload_n 0, 1) := by decide +kernel
theorem dX3_readPiece_112 : decode cX3_readPiece 112 = .ok (.invokevirtual 39, 3) := by decide +kernel
theorem dX3_readPiece_115 : decode cX3_readPiece 115 = .ok (.aload_n 0, 1) := by decide +kernel
theorem dX3_readPiece_116 : decode cX3_readPiece 116 = .ok (.iconst 0, 1) := by decide +kernel
theorem dX3_readPiece_117 : decode cX3_readPiece 117 = .ok (.iload_n 1, 1) := by decide +kernel
theorem dX3_readPiece_118 : decode cX3_readPiece 118 = .ok (.iconst 1, 1) := by decide +kernel
theorem dX3_readPiece_119 : decode cX3_readPiece 119 = .ok (.iadd, 1) := by decide +kernel
theorem dX3_readPiece_120 : decode cX3_readPiece 120 = .ok (.iload_n 2, 1) := by decide +kernel
theorem dX3_readPiece_121 : decode cX3_readPiece 121 = .ok (.invokevirtual 50, 3) := by decide +kernel
theorem dX3_readPiece_124 : decode cX3_readPiece 124 = .ok (.ifCond .eq 24, 3) := by decide +kernel
theorem dX3_readPiece_127 : decode cX3_readPiece 127 = .ok (.aload_n 0, 1) := by decide +kernel
theorem dX3_readPiece_128 : decode cX3_readPiece 128 = .ok (.getfield 30, 3) := by decide +kernel
theorem dX3_readPiece_131 : decode cX3_readPiece 131 = .ok (.iconst 3, 1) := by decide +kernel
theorem dX3_readPiece_132 : decode cX3_readPiece 132 = .ok (.if_icmp .ne 16, 3) := by decide +kernel
theorem dX3_readPiece_135 : decode cX3_readPiece 135 = .ok (.aload_n 0, 1) := by decide +kernel
theorem dX3_readPiece_136 : decode cX3_readPiece 136 = .ok (.aload_n 0, 1) := by decide +kernel
theorem dX3_readPiece_137 : decode cX3_readPiece 137 = .ok (.getfield 64, 3) := by decide +kernel
theorem dX3_readPiece_140 : decode cX3_readPiece 140 = .ok (.invokevirtual 67, 3) := by decide +kernel
theorem dX3_readPiece_143 : decode cX3_readPiece 143 = .ok (.bipush 41, 2) := by decide +kernel
theorem dX3_readPiece_145 : decode cX3_readPiece 145 = .ok (.if_icmp .eq 5, 3) := by decide +kernel
theorem dX3_readPiece_148 : decode cX3_readPiece 148 = .ok (.iconst 0, 1) := by decide +kernel
theorem dX3_readPiece_149 : decode cX3_readPiece 149 = .ok (.ireturn, 1) := by decide +kernel
theorem dX3_readPiece_150 : decode cX3_readPiece 150 = .ok (.aload_n 0, 1) := by decide +kernel
theorem dX3_readPiece_151 : decode cX3_readPiece 151 = .ok (.invokevirtual 39, 3) := by decide +kernel
theorem dX3_readPiece_154 : decode cX3_readPiece 154 = .ok (.iconst 1, 1) := by decide +kernel
theorem dX3_readPiece_155 : decode cX3_readPiece 155 = .ok (.ireturn, 1) := by decide +kernel
theorem dX3_numberHere_0 : decode cX3_numberHere 0 = .ok (.aload_n 0, 1) := by decide +kernel
theorem dX3_numberHere_1 : decode cX3_numberHere 1 = .ok (.getfield 27, 3) := by decide +kernel
theorem dX3_numberHere_4 : decode cX3_numberHere 4 = .ok (.aload_n 0, 1) := by decide +kernel
theorem dX3_numberHere_5 : decode cX3_numberHere 5 = .ok (.getfield 64, 3) := by decide +kernel
theorem dX3_numberHere_8 : decode cX3_numberHere 8 = .ok (.isub, 1) := by decide +kernel
theorem dX3_numberHere_9 : decode cX3_numberHere 9 = .ok (.iconst 4, 1) := by decide +kernel
theorem dX3_numberHere_10 : decode cX3_numberHere 10 = .ok (.if_icmp .le 6, 3) := by decide +kernel
theorem dX3_numberHere_13 : decode cX3_numberHere 13 = .ok (.ldc 49, 2) := by decide +kernel
theorem dX3_numberHere_15 : decode cX3_numberHere 15 = .ok (.ireturn, 1) := by decide +kernel
theorem dX3_numberHere_16 : decode cX3_numberHere 16 = .ok (.iconst 0, 1) := by decide +kernel
theorem dX3_numberHere_17 : decode cX3_numberHere 17 = .ok (.istore_n 1, 1) := by decide +kernel
theorem dX3_numberHere_18 : decode cX3_numberHere 18 = .ok (.aload_n 0, 1) := by decide +kernel
theorem dX3_numberHere_19 : decode cX3_numberHere 19 = .ok (.getfield 64, 3) := by decide +kernel
theorem dX3_numberHere_22 : decode cX3_numberHere 22 = .ok (.istore_n 2, 1) := by decide +kernel
theorem dX3_numberHere_23 : decode cX3_numberHere 23 = .ok (.iload_n 2, 1) := by decide +kernel
theorem dX3_numberHere_24 : decode cX3_numberHere 24 = .ok (.aload_n 0, 1) := by decide +kernel
theorem dX3_numberHere_25 : decode cX3_numberHere 25 = .ok (.getfield 27, 3) := by decide +kernel
theorem dX3_numberHere_28 : decode cX3_numberHere 28 = .ok (.if_icmp .ge 23, 3) := by decide +kernel
theorem dX3_numberHere_31 : decode cX3_numberHere 31 = .ok (.bipush 10, 2) := by decide +kernel
theorem dX3_numberHere_33 : decode cX3_numberHere 33 = .ok (.iload_n 1, 1) := by decide +kernel
theorem dX3_numberHere_34 : decode cX3_numberHere 34 = .ok (.imul, 1) := by decide +kernel
theorem dX3_numberHere_35 : decode cX3_numberHere 35 = .ok (.aload_n 0, 1) := by decide +kernel
theorem dX3_numberHere_36 : decode cX3_numberHere 36 = .ok (.iload_n 2, 1) := by decide +kernel
theorem dX3_numberHere_37 : decode cX3_numberHere 37 = .ok (.invokevirtual 67, 3) := by decide +kernel
theorem dX3_numberHere_40 : decode cX3_numberHere 40 = .ok (.iadd, 1) := by decide +kernel
theorem dX3_numberHere_41 : decode cX3_numberHere 41 = .ok (.bipush 48, 2) := by decide +kernel
theorem dX3_numberHere_43 : decode cX3_numberHere 43 = .ok (.isub, 1) := by decide +kernel
theorem dX3_numberHere_44 : decode cX3_numberHere 44 = .ok (.istore_n 1, 1) := by decide +kernel
theorem dX3_numberHere_45 : decode cX3_numberHere 45 = .ok (.iinc 2 1, 3) := by decide +kernel
theorem dX3_numberHere_48 : decode cX3_numberHere 48 = .ok (.goto (-25), 3) := by decide +kernel
theorem dX3_numberHere_51 : decode cX3_numberHere 51 = .ok (.iload_n 1, 1) := by decide +kernel
theorem dX3_numberHere_52 : decode cX3_numberHere 52 = .ok (.ireturn, 1) := by decide +kernel
theorem dX3_nameHere_0 : decode cX3_nameHere 0 = .ok (.aload_n 0, 1) := by decide +kernel
theorem dX3_nameHere_1 : decode cX3_nameHere 1 = .ok (.getfield 27, 3) := by decide +kernel
theorem dX3_nameHere_4 : decode cX3_nameHere 4 = .ok (.aload_n 0, 1) := by decide +kernel
theorem dX3_nameHere_5 : decode cX3_nameHere 5 = .ok (.getfield 64, 3) := by decide +kernel
theorem dX3_nameHere_8 : decode cX3_nameHere 8 = .ok (.isub, 1) := by decide +kernel
theorem dX3_nameHere_9 : decode cX3_nameHere 9 = .ok (.iconst 1, 1) := by decide +kernel
theorem dX3_nameHere_10 : decode cX3_nameHere 10 = .ok (.if_icmp .ne 25, 3) := by decide +kernel
theorem dX3_nameHere_13 : decode cX3_nameHere 13 = .ok (.aload_n 0, 1) := by decide +kernel
theorem dX3_nameHere_14 : decode cX3_nameHere 14 = .ok (.getfield 46, 3) := by decide +kernel
theorem dX3_nameHere_17 : decode cX3_nameHere 17 = .ok (.invokestatic 139, 3) := by decide +kernel
theorem dX3_nameHere_20 : decode cX3_nameHere 20 = .ok (.aload_n 0, 1) := by decide +kernel
theorem dX3_nameHere_21 : decode cX3_nameHere 21 = .ok (.aload_n 0, 1) := by decide +kernel
theorem dX3_nameHere_22 : decode cX3_nameHere 22 = .ok (.getfield 64, 3) := by decide +kernel
theorem dX3_nameHere_25 : decode cX3_nameHere 25 = .ok (.invokevirtual 67, 3) := by decide +kernel
theorem dX3_nameHere_28 : decode cX3_nameHere 28 = .ok (.i2c, 1) := by decide +kernel
theorem dX3_nameHere_29 : decode cX3_nameHere 29 = .ok (.invokevirtual 117, 3) := by decide +kernel
theorem dX3_nameHere_32 : decode cX3_nameHere 32 = .ok (.goto 4, 3) := by decide +kernel
theorem dX3_nameHere_35 : decode cX3_nameHere 35 = .ok (.iconst (-1), 1) := by decide +kernel
theorem dX3_nameHere_36 : decode cX3_nameHere 36 = .ok (.istore_n 1, 1) := by decide +kernel
theorem dX3_nameHere_37 : decode cX3_nameHere 37 = .ok (.iload_n 1, 1) := by decide +kernel
theorem dX3_nameHere_38 : decode cX3_nameHere 38 = .ok (.ifCond .ge 8, 3) := by decide +kernel
theorem dX3_nameHere_41 : decode cX3_nameHere 41 = .ok (.ldc 49, 2) := by decide +kernel
theorem dX3_nameHere_43 : decode cX3_nameHere 43 = .ok (.goto 8, 3) := by decide +kernel
theorem dX3_nameHere_46 : decode cX3_nameHere 46 = .ok (.sipush 10000, 3) := by decide +kernel
theorem dX3_nameHere_49 : decode cX3_nameHere 49 = .ok (.iload_n 1, 1) := by decide +kernel
theorem dX3_nameHere_50 : decode cX3_nameHere 50 = .ok (.iadd, 1) := by decide +kernel
theorem dX3_nameHere_51 : decode cX3_nameHere 51 = .ok (.ireturn, 1) := by decide +kernel
theorem dX3_readLeaf_0 : decode cX3_readLeaf 0 = .ok (.iload_n 1, 1) := by decide +kernel
theorem dX3_readLeaf_1 : decode cX3_readLeaf 1 = .ok (.ldc 49, 2) := by decide +kernel
theorem dX3_readLeaf_3 : decode cX3_readLeaf 3 = .ok (.if_icmp .ne 5, 3) := by decide +kernel
theorem dX3_readLeaf_6 : decode cX3_readLeaf 6 = .ok (.iconst 0, 1) := by decide +kernel
theorem dX3_readLeaf_7 : decode cX3_readLeaf 7 = .ok (.ireturn, 1) := by decide +kernel
theorem dX3_readLeaf_8 : decode cX3_readLeaf 8 = .ok (.aload_n 0, 1) := by decide +kernel
theorem dX3_readLeaf_9 : decode cX3_readLeaf 9 = .ok (.dup, 1) := by decide +kernel
theorem dX3_readLeaf_10 : decode cX3_readLeaf 10 = .ok (.getfield 36, 3) := by decide +kernel
theorem dX3_readLeaf_13 : decode cX3_readLeaf 13 = .ok (.iconst 1, 1) := by decide +kernel
theorem dX3_readLeaf_14 : decode cX3_readLeaf 14 = .ok (.iadd, 1) := by decide +kernel
theorem dX3_readLeaf_15 : decode cX3_readLeaf 15 = .ok (.putfield 36, 3) := by decide +kernel
theorem dX3_readLeaf_18 : decode cX3_readLeaf 18 = .ok (.aload_n 0, 1) := by decide +kernel
theorem dX3_readLeaf_19 : decode cX3_readLeaf 19 = .ok (.iload_n 1, 1) := by decide +kernel
theorem dX3_readLeaf_20 : decode cX3_readLeaf 20 = .ok (.invokevirtual 110, 3) := by decide +kernel
theorem dX3_readLeaf_23 : decode cX3_readLeaf 23 = .ok (.aload_n 0, 1) := by decide +kernel
theorem dX3_readLeaf_24 : decode cX3_readLeaf 24 = .ok (.invokevirtual 39, 3) := by decide +kernel
theorem dX3_readLeaf_27 : decode cX3_readLeaf 27 = .ok (.iconst 1, 1) := by decide +kernel
theorem dX3_readLeaf_28 : decode cX3_readLeaf 28 = .ok (.ireturn, 1) := by decide +kernel
theorem dX3_put_0 : decode cX3_put 0 = .ok (.aload_n 0, 1) := by decide +kernel
theorem dX3_put_1 : decode cX3_put 1 = .ok (.getfield 33, 3) := by decide +kernel
theorem dX3_put_4 : decode cX3_put 4 = .ok (.aload_n 0, 1) := by decide +kernel
theorem dX3_put_5 : decode cX3_put 5 = .ok (.getfield 15, 3) := by decide +kernel
theorem dX3_put_8 : decode cX3_put 8 = .ok (.arraylength, 1) := by decide +kernel
theorem dX3_put_9 : decode cX3_put 9 = .ok (.if_icmp .ge 23, 3) := by decide +kernel
theorem dX3_put_12 : decode cX3_put 12 = .ok (.aload_n 0, 1) := by decide +kernel
theorem dX3_put_13 : decode cX3_put 13 = .ok (.getfield 15, 3) := by decide +kernel
theorem dX3_put_16 : decode cX3_put 16 = .ok (.aload_n 0, 1) := by decide +kernel
theorem dX3_put_17 : decode cX3_put 17 = .ok (.getfield 33, 3) := by decide +kernel
theorem dX3_put_20 : decode cX3_put 20 = .ok (.iload_n 1, 1) := by decide +kernel
theorem dX3_put_21 : decode cX3_put 21 = .ok (.iastore, 1) := by decide +kernel
theorem dX3_put_22 : decode cX3_put 22 = .ok (.aload_n 0, 1) := by decide +kernel
theorem dX3_put_23 : decode cX3_put 23 = .ok (.dup, 1) := by decide +kernel
theorem dX3_put_24 : decode cX3_put 24 = .ok (.getfield 33, 3) := by decide +kernel
theorem dX3_put_27 : decode cX3_put 27 = .ok (.iconst 1, 1) := by decide +kernel
theorem dX3_put_28 : decode cX3_put 28 = .ok (.iadd, 1) := by decide +kernel
theorem dX3_put_29 : decode cX3_put 29 = .ok (.putfield 33, 3) := by decide +kernel
theorem dX3_put_32 : decode cX3_put 32 = .ok (.return_, 1) := by decide +kernel
theorem dX4_init_0 : decode cX4_init 0 = .ok (.aload_n 0, 1) := by decide +kernel
theorem dX4_init_1 : decode cX4_init 1 = .ok (.invokespecial 1, 3) := by decide +kernel
theorem dX4_init_4 : decode cX4_init 4 = .ok (.aload_n 0, 1) := by decide +kernel
theorem dX4_init_5 : decode cX4_init 5 = .ok (.iload_n 1, 1) := by decide +kernel
theorem dX4_init_6 : decode cX4_init 6 = .ok (.putfield 7, 3) := by decide +kernel
theorem dX4_init_9 : decode cX4_init 9 = .ok (.aload_n 0, 1) := by decide +kernel
theorem dX4_init_10 : decode cX4_init 10 = .ok (.iload_n 2, 1) := by decide +kernel
theorem dX4_init_11 : decode cX4_init 11 = .ok (.putfield 13, 3) := by decide +kernel
theorem dX4_init_14 : decode cX4_init 14 = .ok (.aload_n 0, 1) := by decide +kernel
theorem dX4_init_15 : decode cX4_init 15 = .ok (.aload_n 3, 1) := by decide +kernel
theorem dX4_init_16 : decode cX4_init 16 = .ok (.putfield 16, 3) := by decide +kernel
theorem dX4_init_19 : decode cX4_init 19 = .ok (.return_, 1) := by decide +kernel
theorem dX4_worth_0 : decode cX4_worth 0 = .ok (.iconst 0, 1) := by decide +kernel
theorem dX4_worth_1 : decode cX4_worth 1 = .ok (.istore 5, 2) := by decide +kernel
theorem dX4_worth_3 : decode cX4_worth 3 = .ok (.iconst 0, 1) := by decide +kernel
theorem dX4_worth_4 : decode cX4_worth 4 = .ok (.istore 6, 2) := by decide +kernel
theorem dX4_worth_6 : decode cX4_worth 6 = .ok (.iload 6, 2) := by decide +kernel
theorem dX4_worth_8 : decode cX4_worth 8 = .ok (.aload_n 0, 1) := by decide +kernel
theorem dX4_worth_9 : decode cX4_worth 9 = .ok (.getfield 16, 3) := by decide +kernel
theorem dX4_worth_12 : decode cX4_worth 12 = .ok (.arraylength, 1) := by decide +kernel
theorem dX4_worth_13 : decode cX4_worth 13 = .ok (.if_icmp .ge 139, 3) := by decide +kernel
theorem dX4_worth_16 : decode cX4_worth 16 = .ok (.aload_n 0, 1) := by decide +kernel
theorem dX4_worth_17 : decode cX4_worth 17 = .ok (.getfield 16, 3) := by decide +kernel
theorem dX4_worth_20 : decode cX4_worth 20 = .ok (.iload 6, 2) := by decide +kernel
theorem dX4_worth_22 : decode cX4_worth 22 = .ok (.iaload, 1) := by decide +kernel
theorem dX4_worth_23 : decode cX4_worth 23 = .ok (.istore 7, 2) := by decide +kernel
theorem dX4_worth_25 : decode cX4_worth 25 = .ok (.iload 7, 2) := by decide +kernel
theorem dX4_worth_27 : decode cX4_worth 27 = .ok (.sipush 20000, 3) := by decide +kernel
theorem dX4_worth_30 : decode cX4_worth 30 = .ok (.if_icmp .ge 46, 3) := by decide +kernel
theorem dX4_worth_33 : decode cX4_worth 33 = .ok (.iload 5, 2) := by decide +kernel
theorem dX4_worth_35 : decode cX4_worth 35 = .ok (.aload_n 1, 1) := by decide +kernel
theorem dX4_worth_36 : decode cX4_worth 36 = .ok (.arraylength, 1) := by decide +kernel
theorem dX4_worth_37 : decode cX4_worth 37 = .ok (.if_icmp .ge 109, 3) := by decide +kernel
theorem dX4_worth_40 : decode cX4_worth 40 = .ok (.aload_n 1, 1) := by decide +kernel
theorem dX4_worth_41 : decode cX4_worth 41 = .ok (.iload 5, 2) := by decide +kernel
theorem dX4_worth_43 : decode cX4_worth 43 = .ok (.iload 7, 2) := by decide +kernel
theorem dX4_worth_45 : decode cX4_worth 45 = .ok (.sipush 10000, 3) := by decide +kernel
theorem dX4_worth_48 : decode cX4_worth 48 = .ok (.if_icmp .ge 8, 3) := by decide +kernel
theorem dX4_worth_51 : decode cX4_worth 51 = .ok (.iload 7, 2) := by decide +kernel
theorem dX4_worth_53 : decode cX4_worth 53 = .ok (.goto 16, 3) := by decide +kernel
theorem dX4_worth_56 : decode cX4_worth 56 = .ok (.iload 7, 2) := by decide +kernel
theorem dX4_worth_58 : decode cX4_worth 58 = .ok (.sipush 10000, 3) := by decide +kernel
theorem dX4_worth_61 : decode cX4_worth 61 = .ok (.isub, 1) := by decide +kernel
theorem dX4_worth_62 : decode cX4_worth 62 = .ok (.iload_n 2, 1) := by decide +kernel
theorem dX4_worth_63 : decode cX4_worth 63 = .ok (.iload_n 3, 1) := by decide +kernel
theorem dX4_worth_64 : decode cX4_worth 64 = .ok (.iload 4, 2) := by decide +kernel
theorem dX4_worth_66 : decode cX4_worth 66 = .ok (.invokestatic 20, 3) := by decide +kernel
theorem dX4_worth_69 : decode cX4_worth 69 = .ok (.iastore, 1) := by decide +kernel
theorem dX4_worth_70 : decode cX4_worth 70 = .ok (.iinc 5 1, 3) := by decide +kernel
theorem dX4_worth_73 : decode cX4_worth 73 = .ok (.goto 73, 3) := by decide +kernel
theorem dX4_worth_76 : decode cX4_worth 76 = .ok (.iload 7, 2) := by decide +kernel
theorem dX4_worth_78 : decode cX4_worth 78 = .ok (.sipush 20033, 3) := by decide +kernel
theorem dX4_worth_81 : decode cX4_worth 81 = .ok (.if_icmp .ne 31, 3) := by decide +kernel
theorem dX4_worth_84 : decode cX4_worth 84 = .ok (.iload 5, 2) := by decide +kernel
theorem dX4_worth_86 : decode cX4_worth 86 = .ok (.ifCond .le 60, 3) := by decide +kernel
theorem dX4_worth_89 : decode cX4_worth 89 = .ok (.aload_n 1, 1) := by decide +kernel
theorem dX4_worth_90 : decode cX4_worth 90 = .ok (.iload 5, 2) := by decide +kernel
theorem dX4_worth_92 : decode cX4_worth 92 = .ok (.iconst 1, 1) := by decide +kernel
theorem dX4_worth_93 : decode cX4_worth 93 = .ok (.isub, 1) := by decide +kernel
theorem dX4_worth_94 : decode cX4_worth 94 = .ok (.aload_n 1, 1) := by decide +kernel
theorem dX4_worth_95 : decode cX4_worth 95 = .ok (.iload 5, 2) := by decide +kernel
theorem dX4_worth_97 : decode cX4_worth 97 = .ok (.iconst 1, 1) := by decide +kernel
theorem dX4_worth_98 : decode cX4_worth 98 = .ok (.isub, 1) := by decide +kernel
theorem dX4_worth_99 : decode cX4_worth 99 = .ok (.iaload, 1) := by decide +kernel
theorem dX4_worth_100 : decode cX4_worth 100 = .ok (.ifCond .ne 7, 3) := by decide +kernel
theorem dX4_worth_103 : decode cX4_worth 103 = .ok (.iconst 1, 1) := by decide +kernel
theorem dX4_worth_104 : decode cX4_worth 104 = .ok (.goto 4, 3) := by decide +kernel
theorem dX4_worth_107 : decode cX4_worth 107 = .ok (.iconst 0, 1) := by decide +kernel
theorem dX4_worth_108 : decode cX4_worth 108 = .ok (.iastore, 1) := by decide +kernel
theorem dX4_worth_109 : decode cX4_worth 109 = .ok (.goto 37, 3) := by decide +kernel
theorem dX4_worth_112 : decode cX4_worth 112 = .ok (.iload 5, 2) := by decide +kernel
theorem dX4_worth_114 : decode cX4_worth 114 = .ok (.iconst 1, 1) := by decide +kernel
theorem dX4_worth_115 : decode cX4_worth 115 = .ok (.if_icmp .le 31, 3) := by decide +kernel
theorem dX4_worth_118 : decode cX4_worth 118 = .ok (.iinc 5 (-1), 3) := by decide +kernel
theorem dX4_worth_121 : decode cX4_worth 121 = .ok (.aload_n 1, 1) := by decide +kernel
theorem dX4_worth_122 : decode cX4_worth 122 = .ok (.iload 5, 2) := by decide +kernel
theorem dX4_worth_124 : decode cX4_worth 124 = .ok (.iconst 1, 1) := by decide +kernel
theorem dX4_worth_125 : decode cX4_worth 125 = .ok (.isub, 1) := by decide +kernel
theorem dX4_worth_126 : decode cX4_worth 126 = .ok (.iload 7, 2) := by decide +kernel
theorem dX4_worth_128 : decode cX4_worth 128 = .ok (.sipush 20000, 3) := by decide +kernel
theorem dX4_worth_131 : decode cX4_worth 131 = .ok (.isub, 1) := by decide +kernel
theorem dX4_worth_132 : decode cX4_worth 132 = .ok (.aload_n 1, 1) := by decide +kernel
theorem dX4_worth_133 : decode cX4_worth 133 = .ok (.iload 5, 2) := by decide +kernel
theorem dX4_worth_135 : decode cX4_worth 135 = .ok (.iconst 1, 1) := by decide +kernel
theorem dX4_worth_136 : decode cX4_worth 136 = .ok (.isub, 1) := by decide +kernel
theorem dX4_worth_137 : decode cX4_worth 137 = .ok (.iaload, 1) := by decide +kernel
theorem dX4_worth_138 : decode cX4_worth 138 = .ok (.aload_n 1, 1) := by decide +kernel
theorem dX4_worth_139 : decode cX4_worth 139 = .ok (.iload 5, 2) := by decide +kernel
theorem dX4_worth_141 : decode cX4_worth 141 = .ok (.iaload, 1) := by decide +kernel
theorem dX4_worth_142 : decode cX4_worth 142 = .ok (.invokestatic 24, 3) := by decide +kernel
theorem dX4_worth_145 : decode cX4_worth 145 = .ok (.iastore, 1) := by decide +kernel
theorem dX4_worth_146 : decode cX4_worth 146 = .ok (.iinc 6 1, 3) := by decide +kernel
theorem dX4_worth_149 : decode cX4_worth 149 = .ok (.goto (-143), 3) := by decide +kernel
theorem dX4_worth_152 : decode cX4_worth 152 = .ok (.iload 5, 2) := by decide +kernel
theorem dX4_worth_154 : decode cX4_worth 154 = .ok (.ifCond .le 9, 3) := by decide +kernel
theorem dX4_worth_157 : decode cX4_worth 157 = .ok (.aload_n 1, 1) := by decide +kernel
theorem dX4_worth_158 : decode cX4_worth 158 = .ok (.iconst 0, 1) := by decide +kernel
theorem dX4_worth_159 : decode cX4_worth 159 = .ok (.iaload, 1) := by decide +kernel
theorem dX4_worth_160 : decode cX4_worth 160 = .ok (.goto 4, 3) := by decide +kernel
theorem dX4_worth_163 : decode cX4_worth 163 = .ok (.iconst 0, 1) := by decide +kernel
theorem dX4_worth_164 : decode cX4_worth 164 = .ok (.ireturn, 1) := by decide +kernel
theorem dX4_named_0 : decode cX4_named 0 = .ok (.iload_n 0, 1) := by decide +kernel
theorem dX4_named_1 : decode cX4_named 1 = .ok (.lookupswitch 31 #[(0, 27), (1, 29)], 27) := by decide +kernel
theorem dX4_named_28 : decode cX4_named 28 = .ok (.iload_n 1, 1) := by decide +kernel
theorem dX4_named_29 : decode cX4_named 29 = .ok (.ireturn, 1) := by decide +kernel
theorem dX4_named_30 : decode cX4_named 30 = .ok (.iload_n 2, 1) := by decide +kernel
theorem dX4_named_31 : decode cX4_named 31 = .ok (.ireturn, 1) := by decide +kernel
theorem dX4_named_32 : decode cX4_named 32 = .ok (.iload_n 3, 1) := by decide +kernel
theorem dX4_named_33 : decode cX4_named 33 = .ok (.ireturn, 1) := by decide +kernel
theorem dX4_joined_0 : decode cX4_joined 0 = .ok (.iload_n 0, 1) := by decide +kernel
theorem dX4_joined_1 : decode cX4_joined 1 = .ok (.tableswitch 186 38 62 #[172, 186, 186, 186, 123, 115, 186, 119, 186, 127, 186, 186, 186, 186, 186, 186, 186, 186, 186, 186, 186, 186, 139, 150, 161], 115) := by decide +kernel
theorem dX4_joined_116 : decode cX4_joined 116 = .ok (.iload_n 1, 1) := by decide +kernel
theorem dX4_joined_117 : decode cX4_joined 117 = .ok (.iload_n 2, 1) := by decide +kernel
theorem dX4_joined_118 : decode cX4_joined 118 = .ok (.iadd, 1) := by decide +kernel
theorem dX4_joined_119 : decode cX4_joined 119 = .ok (.ireturn, 1) := by decide +kernel
theorem dX4_joined_120 : decode cX4_joined 120 = .ok (.iload_n 1, 1) := by decide +kernel
theorem dX4_joined_121 : decode cX4_joined 121 = .ok (.iload_n 2, 1) := by decide +kernel
theorem dX4_joined_122 : decode cX4_joined 122 = .ok (.isub, 1) := by decide +kernel
theorem dX4_joined_123 : decode cX4_joined 123 = .ok (.ireturn, 1) := by decide +kernel
theorem dX4_joined_124 : decode cX4_joined 124 = .ok (.iload_n 1, 1) := by decide +kernel
theorem dX4_joined_125 : decode cX4_joined 125 = .ok (.iload_n 2, 1) := by decide +kernel
theorem dX4_joined_126 : decode cX4_joined 126 = .ok (.imul, 1) := by decide +kernel
theorem dX4_joined_127 : decode cX4_joined 127 = .ok (.ireturn, 1) := by decide +kernel
theorem dX4_joined_128 : decode cX4_joined 128 = .ok (.iload_n 2, 1) := by decide +kernel
theorem dX4_joined_129 : decode cX4_joined 129 = .ok (.ifCond .ne 7, 3) := by decide +kernel
theorem dX4_joined_132 : decode cX4_joined 132 = .ok (.iconst 0, 1) := by decide +kernel
theorem dX4_joined_133 : decode cX4_joined 133 = .ok (.goto 6, 3) := by decide +kernel
theorem dX4_joined_136 : decode cX4_joined 136 = .ok (.iload_n 1, 1) := by decide +kernel
theorem dX4_joined_137 : decode cX4_joined 137 = .ok (.iload_n 2, 1) := by decide +kernel
theorem dX4_joined_138 : decode cX4_joined 138 = .ok (.idiv, 1) := by decide +kernel
theorem dX4_joined_139 : decode cX4_joined 139 = .ok (.ireturn, 1) := by decide +kernel
theorem dX4_joined_140 : decode cX4_joined 140 = .ok (.iload_n 1, 1) := by decide +kernel
theorem dX4_joined_141 : decode cX4_joined 141 = .ok (.iload_n 2, 1) := by decide +kernel
theorem dX4_joined_142 : decode cX4_joined 142 = .ok (.if_icmp .ge 7, 3) := by decide +kernel
theorem dX4_joined_145 : decode cX4_joined 145 = .ok (.iconst 1, 1) := by decide +kernel
theorem dX4_joined_146 : decode cX4_joined 146 = .ok (.goto 4, 3) := by decide +kernel
theorem dX4_joined_149 : decode cX4_joined 149 = .ok (.iconst 0, 1) := by decide +kernel
theorem dX4_joined_150 : decode cX4_joined 150 = .ok (.ireturn, 1) := by decide +kernel
theorem dX4_joined_151 : decode cX4_joined 151 = .ok (.iload_n 1, 1) := by decide +kernel
theorem dX4_joined_152 : decode cX4_joined 152 = .ok (.iload_n 2, 1) := by decide +kernel
theorem dX4_joined_153 : decode cX4_joined 153 = .ok (.if_icmp .ne 7, 3) := by decide +kernel
theorem dX4_joined_156 : decode cX4_joined 156 = .ok (.iconst 1, 1) := by decide +kernel
theorem dX4_joined_157 : decode cX4_joined 157 = .ok (.goto 4, 3) := by decide +kernel
theorem dX4_joined_160 : decode cX4_joined 160 = .ok (.iconst 0, 1) := by decide +kernel
theorem dX4_joined_161 : decode cX4_joined 161 = .ok (.ireturn, 1) := by decide +kernel
theorem dX4_joined_162 : decode cX4_joined 162 = .ok (.iload_n 1, 1) := by decide +kernel
theorem dX4_joined_163 : decode cX4_joined 163 = .ok (.iload_n 2, 1) := by decide +kernel
theorem dX4_joined_164 : decode cX4_joined 164 = .ok (.if_icmp .le 7, 3) := by decide +kernel
theorem dX4_joined_167 : decode cX4_joined 167 = .ok (.iconst 1, 1) := by decide +kernel
theorem dX4_joined_168 : decode cX4_joined 168 = .ok (.goto 4, 3) := by decide +kernel
theorem dX4_joined_171 : decode cX4_joined 171 = .ok (.iconst 0, 1) := by decide +kernel
theorem dX4_joined_172 : decode cX4_joined 172 = .ok (.ireturn, 1) := by decide +kernel
theorem dX4_joined_173 : decode cX4_joined 173 = .ok (.iload_n 1, 1) := by decide +kernel
theorem dX4_joined_174 : decode cX4_joined 174 = .ok (.ifCond .eq 11, 3) := by decide +kernel
theorem dX4_joined_177 : decode cX4_joined 177 = .ok (.iload_n 2, 1) := by decide +kernel
theorem dX4_joined_178 : decode cX4_joined 178 = .ok (.ifCond .eq 7, 3) := by decide +kernel
theorem dX4_joined_181 : decode cX4_joined 181 = .ok (.iconst 1, 1) := by decide +kernel
theorem dX4_joined_182 : decode cX4_joined 182 = .ok (.goto 4, 3) := by decide +kernel
theorem dX4_joined_185 : decode cX4_joined 185 = .ok (.iconst 0, 1) := by decide +kernel
theorem dX4_joined_186 : decode cX4_joined 186 = .ok (.ireturn, 1) := by decide +kernel
theorem dX4_joined_187 : decode cX4_joined 187 = .ok (.iload_n 1, 1) := by decide +kernel
theorem dX4_joined_188 : decode cX4_joined 188 = .ok (.ifCond .ne 7, 3) := by decide +kernel
theorem dX4_joined_191 : decode cX4_joined 191 = .ok (.iload_n 2, 1) := by decide +kernel
theorem dX4_joined_192 : decode cX4_joined 192 = .ok (.ifCond .eq 7, 3) := by decide +kernel
theorem dX4_joined_195 : decode cX4_joined 195 = .ok (.iconst 1, 1) := by decide +kernel
theorem dX4_joined_196 : decode cX4_joined 196 = .ok (.goto 4, 3) := by decide +kernel
theorem dX4_joined_199 : decode cX4_joined 199 = .ok (.iconst 0, 1) := by decide +kernel
theorem dX4_joined_200 : decode cX4_joined 200 = .ok (.ireturn, 1) := by decide +kernel
theorem dX5_init_0 : decode cX5_init 0 = .ok (.aload_n 0, 1) := by decide +kernel
theorem dX5_init_1 : decode cX5_init 1 = .ok (.invokespecial 3, 3) := by decide +kernel
theorem dX5_init_4 : decode cX5_init 4 = .ok (.aload_n 0, 1) := by decide +kernel
theorem dX5_init_5 : decode cX5_init 5 = .ok (.iconst (-1), 1) := by decide +kernel
theorem dX5_init_6 : decode cX5_init 6 = .ok (.putfield 9, 3) := by decide +kernel
theorem dX5_init_9 : decode cX5_init 9 = .ok (.aload_n 0, 1) := by decide +kernel
theorem dX5_init_10 : decode cX5_init 10 = .ok (.bipush 6, 2) := by decide +kernel
theorem dX5_init_12 : decode cX5_init 12 = .ok (.newarray .int, 2) := by decide +kernel
theorem dX5_init_14 : decode cX5_init 14 = .ok (.putfield 15, 3) := by decide +kernel
theorem dX5_init_17 : decode cX5_init 17 = .ok (.aload_n 0, 1) := by decide +kernel
theorem dX5_init_18 : decode cX5_init 18 = .ok (.bipush 12, 2) := by decide +kernel
theorem dX5_init_20 : decode cX5_init 20 = .ok (.newarray .int, 2) := by decide +kernel
theorem dX5_init_22 : decode cX5_init 22 = .ok (.putfield 19, 3) := by decide +kernel
theorem dX5_init_25 : decode cX5_init 25 = .ok (.aload_n 0, 1) := by decide +kernel
theorem dX5_init_26 : decode cX5_init 26 = .ok (.bipush 12, 2) := by decide +kernel
theorem dX5_init_28 : decode cX5_init 28 = .ok (.newarray .int, 2) := by decide +kernel
theorem dX5_init_30 : decode cX5_init 30 = .ok (.putfield 22, 3) := by decide +kernel
theorem dX5_init_33 : decode cX5_init 33 = .ok (.aload_n 0, 1) := by decide +kernel
theorem dX5_init_34 : decode cX5_init 34 = .ok (.bipush 12, 2) := by decide +kernel
theorem dX5_init_36 : decode cX5_init 36 = .ok (.newarray .int, 2) := by decide +kernel
theorem dX5_init_38 : decode cX5_init 38 = .ok (.putfield 25, 3) := by decide +kernel
theorem dX5_init_41 : decode cX5_init 41 = .ok (.aload_n 0, 1) := by decide +kernel
theorem dX5_init_42 : decode cX5_init 42 = .ok (.bipush 12, 2) := by decide +kernel
theorem dX5_init_44 : decode cX5_init 44 = .ok (.newarray .int, 2) := by decide +kernel
theorem dX5_init_46 : decode cX5_init 46 = .ok (.putfield 28, 3) := by decide +kernel
theorem dX5_init_49 : decode cX5_init 49 = .ok (.aload_n 0, 1) := by decide +kernel
theorem dX5_init_50 : decode cX5_init 50 = .ok (.bipush 12, 2) := by decide +kernel
theorem dX5_init_52 : decode cX5_init 52 = .ok (.newarray .int, 2) := by decide +kernel
theorem dX5_init_54 : decode cX5_init 54 = .ok (.putfield 31, 3) := by decide +kernel
theorem dX5_init_57 : decode cX5_init 57 = .ok (.aload_n 0, 1) := by decide +kernel
theorem dX5_init_58 : decode cX5_init 58 = .ok (.bipush 12, 2) := by decide +kernel
theorem dX5_init_60 : decode cX5_init 60 = .ok (.newarray .int, 2) := by decide +kernel
theorem dX5_init_62 : decode cX5_init 62 = .ok (.putfield 34, 3) := by decide +kernel
theorem dX5_init_65 : decode cX5_init 65 = .ok (.aload_n 0, 1) := by decide +kernel
theorem dX5_init_66 : decode cX5_init 66 = .ok (.bipush 48, 2) := by decide +kernel
theorem dX5_init_68 : decode cX5_init 68 = .ok (.newarray .int, 2) := by decide +kernel
theorem dX5_init_70 : decode cX5_init 70 = .ok (.putfield 37, 3) := by decide +kernel
theorem dX5_init_73 : decode cX5_init 73 = .ok (.aload_n 0, 1) := by decide +kernel
theorem dX5_init_74 : decode cX5_init 74 = .ok (.bipush 48, 2) := by decide +kernel
theorem dX5_init_76 : decode cX5_init 76 = .ok (.newarray .int, 2) := by decide +kernel
theorem dX5_init_78 : decode cX5_init 78 = .ok (.putfield 40, 3) := by decide +kernel
theorem dX5_init_81 : decode cX5_init 81 = .ok (.aload_n 0, 1) := by decide +kernel
theorem dX5_init_82 : decode cX5_init 82 = .ok (.sipush 373, 3) := by decide +kernel
theorem dX5_init_85 : decode cX5_init 85 = .ok (.newarray .int, 2) := by decide +kernel
theorem dX5_init_87 : decode cX5_init 87 = .ok (.putfield 43, 3) := by decide +kernel
theorem dX5_init_90 : decode cX5_init 90 = .ok (.aload_n 0, 1) := by decide +kernel
theorem dX5_init_91 : decode cX5_init 91 = .ok (.sipush 1590, 3) := by decide +kernel
theorem dX5_init_94 : decode cX5_init 94 = .ok (.newarray .int, 2) := by decide +kernel
theorem dX5_init_96 : decode cX5_init 96 = .ok (.putfield 46, 3) := by decide +kernel
theorem dX5_init_99 : decode cX5_init 99 = .ok (.aload_n 0, 1) := by decide +kernel
theorem dX5_init_100 : decode cX5_init 100 = .ok (.bipush 96, 2) := by decide +kernel
theorem dX5_init_102 : decode cX5_init 102 = .ok (.newarray .int, 2) := by decide +kernel
theorem dX5_init_104 : decode cX5_init 104 = .ok (.putfield 49, 3) := by decide +kernel
theorem dX5_init_107 : decode cX5_init 107 = .ok (.aload_n 0, 1) := by decide +kernel
theorem dX5_init_108 : decode cX5_init 108 = .ok (.iconst 4, 1) := by decide +kernel
theorem dX5_init_109 : decode cX5_init 109 = .ok (.newarray .long, 2) := by decide +kernel
theorem dX5_init_111 : decode cX5_init 111 = .ok (.putfield 52, 3) := by decide +kernel
theorem dX5_init_114 : decode cX5_init 114 = .ok (.aload_n 0, 1) := by decide +kernel
theorem dX5_init_115 : decode cX5_init 115 = .ok (.iconst 4, 1) := by decide +kernel
theorem dX5_init_116 : decode cX5_init 116 = .ok (.newarray .long, 2) := by decide +kernel
theorem dX5_init_118 : decode cX5_init 118 = .ok (.putfield 56, 3) := by decide +kernel
theorem dX5_init_121 : decode cX5_init 121 = .ok (.return_, 1) := by decide +kernel
theorem dX5_refresh_0 : decode cX5_refresh 0 = .ok (.aload_n 0, 1) := by decide +kernel
theorem dX5_refresh_1 : decode cX5_refresh 1 = .ok (.getfield 9, 3) := by decide +kernel
theorem dX5_refresh_4 : decode cX5_refresh 4 = .ok (.aload_n 1, 1) := by decide +kernel
theorem dX5_refresh_5 : decode cX5_refresh 5 = .ok (.getfield 59, 3) := by decide +kernel
theorem dX5_refresh_8 : decode cX5_refresh 8 = .ok (.if_icmp .ne 4, 3) := by decide +kernel
theorem dX5_refresh_11 : decode cX5_refresh 11 = .ok (.return_, 1) := by decide +kernel
theorem dX5_refresh_12 : decode cX5_refresh 12 = .ok (.aload_n 0, 1) := by decide +kernel
theorem dX5_refresh_13 : decode cX5_refresh 13 = .ok (.aload_n 1, 1) := by decide +kernel
theorem dX5_refresh_14 : decode cX5_refresh 14 = .ok (.getfield 59, 3) := by decide +kernel
theorem dX5_refresh_17 : decode cX5_refresh 17 = .ok (.putfield 9, 3) := by decide +kernel
theorem dX5_refresh_20 : decode cX5_refresh 20 = .ok (.aload_n 0, 1) := by decide +kernel
theorem dX5_refresh_21 : decode cX5_refresh 21 = .ok (.aload_n 1, 1) := by decide +kernel
theorem dX5_refresh_22 : decode cX5_refresh 22 = .ok (.getfield 62, 3) := by decide +kernel
theorem dX5_refresh_25 : decode cX5_refresh 25 = .ok (.putfield 65, 3) := by decide +kernel
theorem dX5_refresh_28 : decode cX5_refresh 28 = .ok (.aload_n 0, 1) := by decide +kernel
theorem dX5_refresh_29 : decode cX5_refresh 29 = .ok (.aload_n 1, 1) := by decide +kernel
theorem dX5_refresh_30 : decode cX5_refresh 30 = .ok (.getfield 66, 3) := by decide +kernel
theorem dX5_refresh_33 : decode cX5_refresh 33 = .ok (.putfield 69, 3) := by decide +kernel
theorem dX5_refresh_36 : decode cX5_refresh 36 = .ok (.aload_n 0, 1) := by decide +kernel
theorem dX5_refresh_37 : decode cX5_refresh 37 = .ok (.aload_n 1, 1) := by decide +kernel
theorem dX5_refresh_38 : decode cX5_refresh 38 = .ok (.getfield 70, 3) := by decide +kernel
theorem dX5_refresh_41 : decode cX5_refresh 41 = .ok (.putfield 73, 3) := by decide +kernel
theorem dX5_refresh_44 : decode cX5_refresh 44 = .ok (.aload_n 0, 1) := by decide +kernel
theorem dX5_refresh_45 : decode cX5_refresh 45 = .ok (.aload_n 1, 1) := by decide +kernel
theorem dX5_refresh_46 : decode cX5_refresh 46 = .ok (.invokevirtual 74, 3) := by decide +kernel
theorem dX5_refresh_49 : decode cX5_refresh 49 = .ok (.aload_n 0, 1) := by decide +kernel
theorem dX5_refresh_50 : decode cX5_refresh 50 = .ok (.aload_n 1, 1) := by decide +kernel
theorem dX5_refresh_51 : decode cX5_refresh 51 = .ok (.invokevirtual 78, 3) := by decide +kernel
theorem dX5_refresh_54 : decode cX5_refresh 54 = .ok (.aload_n 0, 1) := by decide +kernel
theorem dX5_refresh_55 : decode cX5_refresh 55 = .ok (.invokevirtual 81, 3) := by decide +kernel
theorem dX5_refresh_58 : decode cX5_refresh 58 = .ok (.return_, 1) := by decide +kernel
theorem dX5_readWalks_0 : decode cX5_readWalks 0 = .ok (.aload_n 1, 1) := by decide +kernel
theorem dX5_readWalks_1 : decode cX5_readWalks 1 = .ok (.iconst 2, 1) := by decide +kernel
theorem dX5_readWalks_2 : decode cX5_readWalks 2 = .ok (.invokevirtual 84, 3) := by decide +kernel
theorem dX5_readWalks_5 : decode cX5_readWalks 5 = .ok (.astore_n 2, 1) := by decide +kernel
theorem dX5_readWalks_6 : decode cX5_readWalks 6 = .ok (.iconst 0, 1) := by decide +kernel
theorem dX5_readWalks_7 : decode cX5_readWalks 7 = .ok (.istore_n 3, 1) := by decide +kernel
theorem dX5_readWalks_8 : decode cX5_readWalks 8 = .ok (.iload_n 3, 1) := by decide +kernel
theorem dX5_readWalks_9 : decode cX5_readWalks 9 = .ok (.aload_n 1, 1) := by decide +kernel
theorem dX5_readWalks_10 : decode cX5_readWalks 10 = .ok (.getfield 88, 3) := by decide +kernel
theorem dX5_readWalks_13 : decode cX5_readWalks 13 = .ok (.if_icmp .ge 57, 3) := by decide +kernel
theorem dX5_readWalks_16 : decode cX5_readWalks 16 = .ok (.aload_n 2, 1) := by decide +kernel
theorem dX5_readWalks_17 : decode cX5_readWalks 17 = .ok (.ifnonnull 12, 3) := by decide +kernel
theorem dX5_readWalks_20 : decode cX5_readWalks 20 = .ok (.aload_n 1, 1) := by decide +kernel
theorem dX5_readWalks_21 : decode cX5_readWalks 21 = .ok (.getfield 91, 3) := by decide +kernel
theorem dX5_readWalks_24 : decode cX5_readWalks 24 = .ok (.iload_n 3, 1) := by decide +kernel
theorem dX5_readWalks_25 : decode cX5_readWalks 25 = .ok (.iaload, 1) := by decide +kernel
theorem dX5_readWalks_26 : decode cX5_readWalks 26 = .ok (.goto 22, 3) := by decide +kernel
theorem dX5_readWalks_29 : decode cX5_readWalks 29 = .ok (.aload_n 2, 1) := by decide +kernel
theorem dX5_readWalks_30 : decode cX5_readWalks 30 = .ok (.aload_n 0, 1) := by decide +kernel
theorem dX5_readWalks_31 : decode cX5_readWalks 31 = .ok (.getfield 49, 3) := by decide +kernel
theorem dX5_readWalks_34 : decode cX5_readWalks 34 = .ok (.iload_n 3, 1) := by decide +kernel
theorem dX5_readWalks_35 : decode cX5_readWalks 35 = .ok (.aload_n 1, 1) := by decide +kernel
theorem dX5_readWalks_36 : decode cX5_readWalks 36 = .ok (.getfield 91, 3) := by decide +kernel
theorem dX5_readWalks_39 : decode cX5_readWalks 39 = .ok (.iload_n 3, 1) := by decide +kernel
theorem dX5_readWalks_40 : decode cX5_readWalks 40 = .ok (.iaload, 1) := by decide +kernel
theorem dX5_readWalks_41 : decode cX5_readWalks 41 = .ok (.aload_n 1, 1) := by decide +kernel
theorem dX5_readWalks_42 : decode cX5_readWalks 42 = .ok (.getfield 92, 3) := by decide +kernel
theorem dX5_readWalks_45 : decode cX5_readWalks 45 = .ok (.invokevirtual 95, 3) := by decide +kernel
theorem dX5_readWalks_48 : decode cX5_readWalks 48 = .ok (.istore 4, 2) := by decide +kernel
theorem dX5_readWalks_50 : decode cX5_readWalks 50 = .ok (.aload_n 0, 1) := by decide +kernel
theorem dX5_readWalks_51 : decode cX5_readWalks 51 = .ok (.getfield 15, 3) := by decide +kernel
theorem dX5_readWalks_54 : decode cX5_readWalks 54 = .ok (.iload_n 3, 1) := by decide +kernel
theorem dX5_readWalks_55 : decode cX5_readWalks 55 = .ok (.iload 4, 2) := by decide +kernel
theorem dX5_readWalks_57 : decode cX5_readWalks 57 = .ok (.iconst 0, 1) := by decide +kernel
theorem dX5_readWalks_58 : decode cX5_readWalks 58 = .ok (.bipush 99, 2) := by decide +kernel
theorem dX5_readWalks_60 : decode cX5_readWalks 60 = .ok (.invokestatic 101, 3) := by decide +kernel
theorem dX5_readWalks_63 : decode cX5_readWalks 63 = .ok (.iastore, 1) := by decide +kernel
theorem dX5_readWalks_64 : decode cX5_readWalks 64 = .ok (.iinc 3 1, 3) := by decide +kernel
theorem dX5_readWalks_67 : decode cX5_readWalks 67 = .ok (.goto (-59), 3) := by decide +kernel
theorem dX5_readWalks_70 : decode cX5_readWalks 70 = .ok (.return_, 1) := by decide +kernel
theorem dX5_readTrains_0 : decode cX5_readTrains 0 = .ok (.aload_n 1, 1) := by decide +kernel
theorem dX5_readTrains_1 : decode cX5_readTrains 1 = .ok (.iconst 0, 1) := by decide +kernel
theorem dX5_readTrains_2 : decode cX5_readTrains 2 = .ok (.invokevirtual 84, 3) := by decide +kernel
theorem dX5_readTrains_5 : decode cX5_readTrains 5 = .ok (.astore_n 2, 1) := by decide +kernel
theorem dX5_readTrains_6 : decode cX5_readTrains 6 = .ok (.aload_n 1, 1) := by decide +kernel
theorem dX5_readTrains_7 : decode cX5_readTrains 7 = .ok (.iconst 1, 1) := by decide +kernel
theorem dX5_readTrains_8 : decode cX5_readTrains 8 = .ok (.invokevirtual 84, 3) := by decide +kernel
theorem dX5_readTrains_11 : decode cX5_readTrains 11 = .ok (.astore_n 3, 1) := by decide +kernel
theorem dX5_readTrains_12 : decode cX5_readTrains 12 = .ok (.iconst 0, 1) := by decide +kernel
theorem dX5_readTrains_13 : decode cX5_readTrains 13 = .ok (.istore 4, 2) := by decide +kernel
theorem dX5_readTrains_15 : decode cX5_readTrains 15 = .ok (.iload 4, 2) := by decide +kernel
theorem dX5_readTrains_17 : decode cX5_readTrains 17 = .ok (.aload_n 0, 1) := by decide +kernel
theorem dX5_readTrains_18 : decode cX5_readTrains 18 = .ok (.getfield 73, 3) := by decide +kernel
theorem dX5_readTrains_21 : decode cX5_readTrains 21 = .ok (.if_icmp .ge 177, 3) := by decide +kernel
theorem dX5_readTrains_24 : decode cX5_readTrains 24 = .ok (.aload_n 1, 1) := by decide +kernel
theorem dX5_readTrains_25 : decode cX5_readTrains 25 = .ok (.getfield 105, 3) := by decide +kernel
theorem dX5_readTrains_28 : decode cX5_readTrains 28 = .ok (.iload 4, 2) := by decide +kernel
theorem dX5_readTrains_30 : decode cX5_readTrains 30 = .ok (.aaload, 1) := by decide +kernel
theorem dX5_readTrains_31 : decode cX5_readTrains 31 = .ok (.astore 5, 2) := by decide +kernel
theorem dX5_readTrains_33 : decode cX5_readTrains 33 = .ok (.aload_n 0, 1) := by decide +kernel
theorem dX5_readTrains_34 : decode cX5_readTrains 34 = .ok (.getfield 19, 3) := by decide +kernel
theorem dX5_readTrains_37 : decode cX5_readTrains 37 = .ok (.iload 4, 2) := by decide +kernel
theorem dX5_readTrains_39 : decode cX5_readTrains 39 = .ok (.aload 5, 2) := by decide +kernel
theorem dX5_readTrains_41 : decode cX5_readTrains 41 = .ok (.getfield 109, 3) := by decide +kernel
theorem dX5_readTrains_44 : decode cX5_readTrains 44 = .ok (.iastore, 1) := by decide +kernel
theorem dX5_readTrains_45 : decode cX5_readTrains 45 = .ok (.aload_n 0, 1) := by decide +kernel
theorem dX5_readTrains_46 : decode cX5_readTrains 46 = .ok (.getfield 22, 3) := by decide +kernel
theorem dX5_readTrains_49 : decode cX5_readTrains 49 = .ok (.iload 4, 2) := by decide +kernel
theorem dX5_readTrains_51 : decode cX5_readTrains 51 = .ok (.aload 5, 2) := by decide +kernel
theorem dX5_readTrains_53 : decode cX5_readTrains 53 = .ok (.getfield 113, 3) := by decide +kernel
theorem dX5_readTrains_56 : decode cX5_readTrains 56 = .ok (.iastore, 1) := by decide +kernel
theorem dX5_readTrains_57 : decode cX5_readTrains 57 = .ok (.aload_n 0, 1) := by decide +kernel
theorem dX5_readTrains_58 : decode cX5_readTrains 58 = .ok (.getfield 25, 3) := by decide +kernel
theorem dX5_readTrains_61 : decode cX5_readTrains 61 = .ok (.iload 4, 2) := by decide +kernel
theorem dX5_readTrains_63 : decode cX5_readTrains 63 = .ok (.aload 5, 2) := by decide +kernel
theorem dX5_readTrains_65 : decode cX5_readTrains 65 = .ok (.getfield 115, 3) := by decide +kernel
theorem dX5_readTrains_68 : decode cX5_readTrains 68 = .ok (.iastore, 1) := by decide +kernel
theorem dX5_readTrains_69 : decode cX5_readTrains 69 = .ok (.aload_n 0, 1) := by decide +kernel
theorem dX5_readTrains_70 : decode cX5_readTrains 70 = .ok (.getfield 28, 3) := by decide +kernel
theorem dX5_readTrains_73 : decode cX5_readTrains 73 = .ok (.iload 4, 2) := by decide +kernel
theorem dX5_readTrains_75 : decode cX5_readTrains 75 = .ok (.aload 5, 2) := by decide +kernel
theorem dX5_readTrains_77 : decode cX5_readTrains 77 = .ok (.invokevirtual 117, 3) := by decide +kernel
theorem dX5_readTrains_80 : decode cX5_readTrains 80 = .ok (.iastore, 1) := by decide +kernel
theorem dX5_readTrains_81 : decode cX5_readTrains 81 = .ok (.aload_n 2, 1) := by decide +kernel
theorem dX5_readTrains_82 : decode cX5_readTrains 82 = .ok (.ifnonnull 11, 3) := by decide +kernel
theorem dX5_readTrains_85 : decode cX5_readTrains 85 = .ok (.aload 5, 2) := by decide +kernel
theorem dX5_readTrains_87 : decode cX5_readTrains 87 = .ok (.invokevirtual 121, 3) := by decide +kernel
theorem dX5_readTrains_90 : decode cX5_readTrains 90 = .ok (.goto 22, 3) := by decide +kernel
theorem dX5_readTrains_93 : decode cX5_readTrains 93 = .ok (.aload_n 2, 1) := by decide +kernel
theorem dX5_readTrains_94 : decode cX5_readTrains 94 = .ok (.aload_n 0, 1) := by decide +kernel
theorem dX5_readTrains_95 : decode cX5_readTrains 95 = .ok (.getfield 49, 3) := by decide +kernel
theorem dX5_readTrains_98 : decode cX5_readTrains 98 = .ok (.aload 5, 2) := by decide +kernel
theorem dX5_readTrains_100 : decode cX5_readTrains 100 = .ok (.getfield 124, 3) := by decide +kernel
theorem dX5_readTrains_103 : decode cX5_readTrains 103 = .ok (.iload 4, 2) := by decide +kernel
theorem dX5_readTrains_105 : decode cX5_readTrains 105 = .ok (.aload_n 1, 1) := by decide +kernel
theorem dX5_readTrains_106 : decode cX5_readTrains 106 = .ok (.getfield 92, 3) := by decide +kernel
theorem dX5_readTrains_109 : decode cX5_readTrains 109 = .ok (.invokevirtual 95, 3) := by decide +kernel
theorem dX5_readTrains_112 : decode cX5_readTrains 112 = .ok (.istore 6, 2) := by decide +kernel
theorem dX5_readTrains_114 : decode cX5_readTrains 114 = .ok (.aload_n 0, 1) := by decide +kernel
theorem dX5_readTrains_115 : decode cX5_readTrains 115 = .ok (.getfield 34, 3) := by decide +kernel
theorem dX5_readTrains_118 : decode cX5_readTrains 118 = .ok (.iload 4, 2) := by decide +kernel
theorem dX5_readTrains_120 : decode cX5_readTrains 120 = .ok (.iload 6, 2) := by decide +kernel
theorem dX5_readTrains_122 : decode cX5_readTrains 122 = .ok (.iconst 0, 1) := by decide +kernel
theorem dX5_readTrains_123 : decode cX5_readTrains 123 = .ok (.bipush 30, 2) := by decide +kernel
theorem dX5_readTrains_125 : decode cX5_readTrains 125 = .ok (.invokestatic 101, 3) := by decide +kernel
theorem dX5_readTrains_128 : decode cX5_readTrains 128 = .ok (.iastore, 1) := by decide +kernel
theorem dX5_readTrains_129 : decode cX5_readTrains 129 = .ok (.aload_n 3, 1) := by decide +kernel
theorem dX5_readTrains_130 : decode cX5_readTrains 130 = .ok (.ifnull 12, 3) := by decide +kernel
theorem dX5_readTrains_133 : decode cX5_readTrains 133 = .ok (.aload 5, 2) := by decide +kernel
theorem dX5_readTrains_135 : decode cX5_readTrains 135 = .ok (.getfield 124, 3) := by decide +kernel
theorem dX5_readTrains_138 : decode cX5_readTrains 138 = .ok (.iconst 4, 1) := by decide +kernel
theorem dX5_readTrains_139 : decode cX5_readTrains 139 = .ok (.if_icmp .eq 7, 3) := by decide +kernel
theorem dX5_readTrains_142 : decode cX5_readTrains 142 = .ok (.iconst 0, 1) := by decide +kernel
theorem dX5_readTrains_143 : decode cX5_readTrains 143 = .ok (.goto 18, 3) := by decide +kernel
theorem dX5_readTrains_146 : decode cX5_readTrains 146 = .ok (.aload_n 3, 1) := by decide +kernel
theorem dX5_readTrains_147 : decode cX5_readTrains 147 = .ok (.aload_n 0, 1) := by decide +kernel
theorem dX5_readTrains_148 : decode cX5_readTrains 148 = .ok (.getfield 49, 3) := by decide +kernel
theorem dX5_readTrains_151 : decode cX5_readTrains 151 = .ok (.iload 4, 2) := by decide +kernel
theorem dX5_readTrains_153 : decode cX5_readTrains 153 = .ok (.aload_n 1, 1) := by decide +kernel
theorem dX5_readTrains_154 : decode cX5_readTrains 154 = .ok (.getfield 92, 3) := by decide +kernel
theorem dX5_readTrains_157 : decode cX5_readTrains 157 = .ok (.iconst 0, 1) := by decide +kernel
theorem dX5_readTrains_158 : decode cX5_readTrains 158 = .ok (.invokevirtual 95, 3) := by decide +kernel
theorem dX5_readTrains_161 : decode cX5_readTrains 161 = .ok (.istore 7, 2) := by decide +kernel
theorem dX5_readTrains_163 : decode cX5_readTrains 163 = .ok (.aload_n 0, 1) := by decide +kernel
theorem dX5_readTrains_164 : decode cX5_readTrains 164 = .ok (.getfield 31, 3) := by decide +kernel
theorem dX5_readTrains_167 : decode cX5_readTrains 167 = .ok (.iload 4, 2) := by decide +kernel
theorem dX5_readTrains_169 : decode cX5_readTrains 169 = .ok (.aload 5, 2) := by decide +kernel
theorem dX5_readTrains_171 : decode cX5_readTrains 171 = .ok (.getfield 127, 3) := by decide +kernel
theorem dX5_readTrains_174 : decode cX5_readTrains 174 = .ok (.iload 7, 2) := by decide +kernel
theorem dX5_readTrains_176 : decode cX5_readTrains 176 = .ok (.iconst 0, 1) := by decide +kernel
theorem dX5_readTrains_177 : decode cX5_readTrains 177 = .ok (.bipush 120, 2) := by decide +kernel
theorem dX5_readTrains_179 : decode cX5_readTrains 179 = .ok (.invokestatic 101, 3) := by decide +kernel
theorem dX5_readTrains_182 : decode cX5_readTrains 182 = .ok (.iadd, 1) := by decide +kernel
theorem dX5_readTrains_183 : decode cX5_readTrains 183 = .ok (.iastore, 1) := by decide +kernel
theorem dX5_readTrains_184 : decode cX5_readTrains 184 = .ok (.aload_n 0, 1) := by decide +kernel
theorem dX5_readTrains_185 : decode cX5_readTrains 185 = .ok (.iload 4, 2) := by decide +kernel
theorem dX5_readTrains_187 : decode cX5_readTrains 187 = .ok (.aload 5, 2) := by decide +kernel
theorem dX5_readTrains_189 : decode cX5_readTrains 189 = .ok (.invokevirtual 130, 3) := by decide +kernel
theorem dX5_readTrains_192 : decode cX5_readTrains 192 = .ok (.iinc 4 1, 3) := by decide +kernel
theorem dX5_readTrains_195 : decode cX5_readTrains 195 = .ok (.goto (-180), 3) := by decide +kernel
theorem dX5_readTrains_198 : decode cX5_readTrains 198 = .ok (.return_, 1) := by decide +kernel
theorem dX5_readSteps_0 : decode cX5_readSteps 0 = .ok (.iconst 0, 1) := by decide +kernel
theorem dX5_readSteps_1 : decode cX5_readSteps 1 = .ok (.istore_n 3, 1) := by decide +kernel
theorem dX5_readSteps_2 : decode cX5_readSteps 2 = .ok (.iload_n 3, 1) := by decide +kernel
theorem dX5_readSteps_3 : decode cX5_readSteps 3 = .ok (.iconst 4, 1) := by decide +kernel
theorem dX5_readSteps_4 : decode cX5_readSteps 4 = .ok (.if_icmp .ge 91, 3) := by decide +kernel
theorem dX5_readSteps_7 : decode cX5_readSteps 7 = .ok (.iconst 0, 1) := by decide +kernel
theorem dX5_readSteps_8 : decode cX5_readSteps 8 = .ok (.istore 4, 2) := by decide +kernel
theorem dX5_readSteps_10 : decode cX5_readSteps 10 = .ok (.aload_n 2, 1) := by decide +kernel
theorem dX5_readSteps_11 : decode cX5_readSteps 11 = .ok (.getfield 134, 3) := by decide +kernel
theorem dX5_readSteps_14 : decode cX5_readSteps 14 = .ok (.iconst 0, 1) := by decide +kernel
theorem dX5_readSteps_15 : decode cX5_readSteps 15 = .ok (.iload_n 1, 1) := by decide +kernel
theorem dX5_readSteps_16 : decode cX5_readSteps 16 = .ok (.iconst 1, 1) := by decide +kernel
theorem dX5_readSteps_17 : decode cX5_readSteps 17 = .ok (.isub, 1) := by decide +kernel
theorem dX5_readSteps_18 : decode cX5_readSteps 18 = .ok (.invokestatic 137, 3) := by decide +kernel
theorem dX5_readSteps_21 : decode cX5_readSteps 21 = .ok (.ifCond .eq 28, 3) := by decide +kernel
theorem dX5_readSteps_24 : decode cX5_readSteps 24 = .ok (.aload_n 0, 1) := by decide +kernel
theorem dX5_readSteps_25 : decode cX5_readSteps 25 = .ok (.getfield 40, 3) := by decide +kernel
theorem dX5_readSteps_28 : decode cX5_readSteps 28 = .ok (.aload_n 2, 1) := by decide +kernel
theorem dX5_readSteps_29 : decode cX5_readSteps 29 = .ok (.getfield 134, 3) := by decide +kernel
theorem dX5_readSteps_32 : decode cX5_readSteps 32 = .ok (.iconst 4, 1) := by decide +kernel
theorem dX5_readSteps_33 : decode cX5_readSteps 33 = .ok (.imul, 1) := by decide +kernel
theorem dX5_readSteps_34 : decode cX5_readSteps 34 = .ok (.iload_n 3, 1) := by decide +kernel
theorem dX5_readSteps_35 : decode cX5_readSteps 35 = .ok (.iadd, 1) := by decide +kernel
theorem dX5_readSteps_36 : decode cX5_readSteps 36 = .ok (.iaload, 1) := by decide +kernel
theorem dX5_readSteps_37 : decode cX5_readSteps 37 = .ok (.aload_n 0, 1) := by decide +kernel
theorem dX5_readSteps_38 : decode cX5_readSteps 38 = .ok (.getfield 31, 3) := by decide +kernel
theorem dX5_readSteps_41 : decode cX5_readSteps 41 = .ok (.aload_n 2, 1) := by decide +kernel
theorem dX5_readSteps_42 : decode cX5_readSteps 42 = .ok (.getfield 134, 3) := by decide +kernel
theorem dX5_readSteps_45 : decode cX5_readSteps 45 = .ok (.iaload, 1) := by decide +kernel
theorem dX5_readSteps_46 : decode cX5_readSteps 46 = .ok (.isub, 1) := by decide +kernel
theorem dX5_readSteps_47 : decode cX5_readSteps 47 = .ok (.istore 4, 2) := by decide +kernel
theorem dX5_readSteps_49 : decode cX5_readSteps 49 = .ok (.aload_n 0, 1) := by decide +kernel
theorem dX5_readSteps_50 : decode cX5_readSteps 50 = .ok (.getfield 37, 3) := by decide +kernel
theorem dX5_readSteps_53 : decode cX5_readSteps 53 = .ok (.iload_n 1, 1) := by decide +kernel
theorem dX5_readSteps_54 : decode cX5_readSteps 54 = .ok (.iconst 4, 1) := by decide +kernel
theorem dX5_readSteps_55 : decode cX5_readSteps 55 = .ok (.imul, 1) := by decide +kernel
theorem dX5_readSteps_56 : decode cX5_readSteps 56 = .ok (.iload_n 3, 1) := by decide +kernel
theorem dX5_readSteps_57 : decode cX5_readSteps 57 = .ok (.iadd, 1) := by decide +kernel
theorem dX5_readSteps_58 : decode cX5_readSteps 58 = .ok (.aload_n 2, 1) := by decide +kernel
theorem dX5_readSteps_59 : decode cX5_readSteps 59 = .ok (.getfield 141, 3) := by decide +kernel
theorem dX5_readSteps_62 : decode cX5_readSteps 62 = .ok (.iload_n 3, 1) := by decide +kernel
theorem dX5_readSteps_63 : decode cX5_readSteps 63 = .ok (.iaload, 1) := by decide +kernel
theorem dX5_readSteps_64 : decode cX5_readSteps 64 = .ok (.iastore, 1) := by decide +kernel
theorem dX5_readSteps_65 : decode cX5_readSteps 65 = .ok (.aload_n 0, 1) := by decide +kernel
theorem dX5_readSteps_66 : decode cX5_readSteps 66 = .ok (.getfield 40, 3) := by decide +kernel
theorem dX5_readSteps_69 : decode cX5_readSteps 69 = .ok (.iload_n 1, 1) := by decide +kernel
theorem dX5_readSteps_70 : decode cX5_readSteps 70 = .ok (.iconst 4, 1) := by decide +kernel
theorem dX5_readSteps_71 : decode cX5_readSteps 71 = .ok (.imul, 1) := by decide +kernel
theorem dX5_readSteps_72 : decode cX5_readSteps 72 = .ok (.iload_n 3, 1) := by decide +kernel
theorem dX5_readSteps_73 : decode cX5_readSteps 73 = .ok (.iadd, 1) := by decide +kernel
theorem dX5_readSteps_74 : decode cX5_readSteps 74 = .ok (.aload_n 0, 1) := by decide +kernel
theorem dX5_readSteps_75 : decode cX5_readSteps 75 = .ok (.getfield 31, 3) := by decide +kernel
theorem dX5_readSteps_78 : decode cX5_readSteps 78 = .ok (.iload_n 1, 1) := by decide +kernel
theorem dX5_readSteps_79 : decode cX5_readSteps 79 = .ok (.iaload, 1) := by decide +kernel
theorem dX5_readSteps_80 : decode cX5_readSteps 80 = .ok (.aload_n 2, 1) := by decide +kernel
theorem dX5_readSteps_81 : decode cX5_readSteps 81 = .ok (.iload_n 3, 1) := by decide +kernel
theorem dX5_readSteps_82 : decode cX5_readSteps 82 = .ok (.iload 4, 2) := by decide +kernel
theorem dX5_readSteps_84 : decode cX5_readSteps 84 = .ok (.invokevirtual 142, 3) := by decide +kernel
theorem dX5_readSteps_87 : decode cX5_readSteps 87 = .ok (.iadd, 1) := by decide +kernel
theorem dX5_readSteps_88 : decode cX5_readSteps 88 = .ok (.iastore, 1) := by decide +kernel
theorem dX5_readSteps_89 : decode cX5_readSteps 89 = .ok (.iinc 3 1, 3) := by decide +kernel
theorem dX5_readSteps_92 : decode cX5_readSteps 92 = .ok (.goto (-90), 3) := by decide +kernel
theorem dX5_readSteps_95 : decode cX5_readSteps 95 = .ok (.return_, 1) := by decide +kernel
theorem dX5_findMinutes_0 : decode cX5_findMinutes 0 = .ok (.aload_n 0, 1) := by decide +kernel
theorem dX5_findMinutes_1 : decode cX5_findMinutes 1 = .ok (.getfield 46, 3) := by decide +kernel
theorem dX5_findMinutes_4 : decode cX5_findMinutes 4 = .ok (.iconst 0, 1) := by decide +kernel
theorem dX5_findMinutes_5 : decode cX5_findMinutes 5 = .ok (.invokestatic 146, 3) := by decide +kernel
theorem dX5_findMinutes_8 : decode cX5_findMinutes 8 = .ok (.iconst 0, 1) := by decide +kernel
theorem dX5_findMinutes_9 : decode cX5_findMinutes 9 = .ok (.istore_n 1, 1) := by decide +kernel
theorem dX5_findMinutes_10 : decode cX5_findMinutes 10 = .ok (.iload_n 1, 1) := by decide +kernel
theorem dX5_findMinutes_11 : decode cX5_findMinutes 11 = .ok (.aload_n 0, 1) := by decide +kernel
theorem dX5_findMinutes_12 : decode cX5_findMinutes 12 = .ok (.getfield 73, 3) := by decide +kernel
theorem dX5_findMinutes_15 : decode cX5_findMinutes 15 = .ok (.if_icmp .ge 49, 3) := by decide +kernel
theorem dX5_findMinutes_18 : decode cX5_findMinutes 18 = .ok (.aload_n 0, 1) := by decide +kernel
theorem dX5_findMinutes_19 : decode cX5_findMinutes 19 = .ok (.getfield 31, 3) := by decide +kernel
theorem dX5_findMinutes_22 : decode cX5_findMinutes 22 = .ok (.iload_n 1, 1) := by decide +kernel
theorem dX5_findMinutes_23 : decode cX5_findMinutes 23 = .ok (.iaload, 1) := by decide +kernel
theorem dX5_findMinutes_24 : decode cX5_findMinutes 24 = .ok (.istore_n 2, 1) := by decide +kernel
theorem dX5_findMinutes_25 : decode cX5_findMinutes 25 = .ok (.iload_n 2, 1) := by decide +kernel
theorem dX5_findMinutes_26 : decode cX5_findMinutes 26 = .ok (.aload_n 0, 1) := by decide +kernel
theorem dX5_findMinutes_27 : decode cX5_findMinutes 27 = .ok (.iload_n 1, 1) := by decide +kernel
theorem dX5_findMinutes_28 : decode cX5_findMinutes 28 = .ok (.invokevirtual 152, 3) := by decide +kernel
theorem dX5_findMinutes_31 : decode cX5_findMinutes 31 = .ok (.if_icmp .gt 27, 3) := by decide +kernel
theorem dX5_findMinutes_34 : decode cX5_findMinutes 34 = .ok (.iload_n 2, 1) := by decide +kernel
theorem dX5_findMinutes_35 : decode cX5_findMinutes 35 = .ok (.iconst 0, 1) := by decide +kernel
theorem dX5_findMinutes_36 : decode cX5_findMinutes 36 = .ok (.sipush 1589, 3) := by decide +kernel
theorem dX5_findMinutes_39 : decode cX5_findMinutes 39 = .ok (.invokestatic 137, 3) := by decide +kernel
theorem dX5_findMinutes_42 : decode cX5_findMinutes 42 = .ok (.ifCond .eq 16, 3) := by decide +kernel
theorem dX5_findMinutes_45 : decode cX5_findMinutes 45 = .ok (.aload_n 0, 1) := by decide +kernel
theorem dX5_findMinutes_46 : decode cX5_findMinutes 46 = .ok (.getfield 46, 3) := by decide +kernel
theorem dX5_findMinutes_49 : decode cX5_findMinutes 49 = .ok (.iload_n 2, 1) := by decide +kernel
theorem dX5_findMinutes_50 : decode cX5_findMinutes 50 = .ok (.iconst 1, 1) := by decide +kernel
theorem dX5_findMinutes_51 : decode cX5_findMinutes 51 = .ok (.iastore, 1) := by decide +kernel
theorem dX5_findMinutes_52 : decode cX5_findMinutes 52 = .ok (.iinc 2 1, 3) := by decide +kernel
theorem dX5_findMinutes_55 : decode cX5_findMinutes 55 = .ok (.goto (-30), 3) := by decide +kernel
theorem dX5_findMinutes_58 : decode cX5_findMinutes 58 = .ok (.iinc 1 1, 3) := by decide +kernel
theorem dX5_findMinutes_61 : decode cX5_findMinutes 61 = .ok (.goto (-51), 3) := by decide +kernel
theorem dX5_findMinutes_64 : decode cX5_findMinutes 64 = .ok (.aload_n 0, 1) := by decide +kernel
theorem dX5_findMinutes_65 : decode cX5_findMinutes 65 = .ok (.iconst 0, 1) := by decide +kernel
theorem dX5_findMinutes_66 : decode cX5_findMinutes 66 = .ok (.putfield 156, 3) := by decide +kernel
theorem dX5_findMinutes_69 : decode cX5_findMinutes 69 = .ok (.sipush 1589, 3) := by decide +kernel
theorem dX5_findMinutes_72 : decode cX5_findMinutes 72 = .ok (.istore_n 1, 1) := by decide +kernel
theorem dX5_findMinutes_73 : decode cX5_findMinutes 73 = .ok (.iload_n 1, 1) := by decide +kernel
theorem dX5_findMinutes_74 : decode cX5_findMinutes 74 = .ok (.ifCond .lt 59, 3) := by decide +kernel
theorem dX5_findMinutes_77 : decode cX5_findMinutes 77 = .ok (.aload_n 0, 1) := by decide +kernel
theorem dX5_findMinutes_78 : decode cX5_findMinutes 78 = .ok (.getfield 46, 3) := by decide +kernel
theorem dX5_findMinutes_81 : decode cX5_findMinutes 81 = .ok (.iload_n 1, 1) := by decide +kernel
theorem dX5_findMinutes_82 : decode cX5_findMinutes 82 = .ok (.iaload, 1) := by decide +kernel
theorem dX5_findMinutes_83 : decode cX5_findMinutes 83 = .ok (.iconst 1, 1) := by decide +kernel
theorem dX5_findMinutes_84 : decode cX5_findMinutes 84 = .ok (.if_icmp .ne 33, 3) := by decide +kernel
theorem dX5_findMinutes_87 : decode cX5_findMinutes 87 = .ok (.aload_n 0, 1) := by decide +kernel
theorem dX5_findMinutes_88 : decode cX5_findMinutes 88 = .ok (.getfield 156, 3) := by decide +kernel
theorem dX5_findMinutes_91 : decode cX5_findMinutes 91 = .ok (.sipush 372, 3) := by decide +kernel
theorem dX5_findMinutes_94 : decode cX5_findMinutes 94 = .ok (.if_icmp .ge 23, 3) := by decide +kernel
theorem dX5_findMinutes_97 : decode cX5_findMinutes 97 = .ok (.aload_n 0, 1) := by decide +kernel
theorem dX5_findMinutes_98 : decode cX5_findMinutes 98 = .ok (.dup, 1) := by decide +kernel
theorem dX5_findMinutes_99 : decode cX5_findMinutes 99 = .ok (.getfield 156, 3) := by decide +kernel
theorem dX5_findMinutes_102 : decode cX5_findMinutes 102 = .ok (.iconst 1, 1) := by decide +kernel
theorem dX5_findMinutes_103 : decode cX5_findMinutes 103 = .ok (.iadd, 1) := by decide +kernel
theorem dX5_findMinutes_104 : decode cX5_findMinutes 104 = .ok (.putfield 156, 3) := by decide +kernel
theorem dX5_findMinutes_107 : decode cX5_findMinutes 107 = .ok (.aload_n 0, 1) := by decide +kernel
theorem dX5_findMinutes_108 : decode cX5_findMinutes 108 = .ok (.getfield 43, 3) := by decide +kernel
theorem dX5_findMinutes_111 : decode cX5_findMinutes 111 = .ok (.aload_n 0, 1) := by decide +kernel
theorem dX5_findMinutes_112 : decode cX5_findMinutes 112 = .ok (.getfield 156, 3) := by decide +kernel
theorem dX5_findMinutes_115 : decode cX5_findMinutes 115 = .ok (.iload_n 1, 1) := by decide +kernel
theorem dX5_findMinutes_116 : decode cX5_findMinutes 116 = .ok (.iastore, 1) := by decide +kernel
theorem dX5_findMinutes_117 : decode cX5_findMinutes 117 = .ok (.aload_n 0, 1) := by decide +kernel
theorem dX5_findMinutes_118 : decode cX5_findMinutes 118 = .ok (.getfield 46, 3) := by decide +kernel
theorem dX5_findMinutes_121 : decode cX5_findMinutes 121 = .ok (.iload_n 1, 1) := by decide +kernel
theorem dX5_findMinutes_122 : decode cX5_findMinutes 122 = .ok (.aload_n 0, 1) := by decide +kernel
theorem dX5_findMinutes_123 : decode cX5_findMinutes 123 = .ok (.getfield 156, 3) := by decide +kernel
theorem dX5_findMinutes_126 : decode cX5_findMinutes 126 = .ok (.iastore, 1) := by decide +kernel
theorem dX5_findMinutes_127 : decode cX5_findMinutes 127 = .ok (.iinc 1 (-1), 3) := by decide +kernel
theorem dX5_findMinutes_130 : decode cX5_findMinutes 130 = .ok (.goto (-57), 3) := by decide +kernel
theorem dX5_findMinutes_133 : decode cX5_findMinutes 133 = .ok (.return_, 1) := by decide +kernel
theorem dX5_lastMinute_0 : decode cX5_lastMinute 0 = .ok (.aload_n 0, 1) := by decide +kernel
theorem dX5_lastMinute_1 : decode cX5_lastMinute 1 = .ok (.getfield 31, 3) := by decide +kernel
theorem dX5_lastMinute_4 : decode cX5_lastMinute 4 = .ok (.iload_n 1, 1) := by decide +kernel
theorem dX5_lastMinute_5 : decode cX5_lastMinute 5 = .ok (.iaload, 1) := by decide +kernel
theorem dX5_lastMinute_6 : decode cX5_lastMinute 6 = .ok (.aload_n 0, 1) := by decide +kernel
theorem dX5_lastMinute_7 : decode cX5_lastMinute 7 = .ok (.getfield 34, 3) := by decide +kernel
theorem dX5_lastMinute_10 : decode cX5_lastMinute 10 = .ok (.iload_n 1, 1) := by decide +kernel
theorem dX5_lastMinute_11 : decode cX5_lastMinute 11 = .ok (.iaload, 1) := by decide +kernel
theorem dX5_lastMinute_12 : decode cX5_lastMinute 12 = .ok (.iadd, 1) := by decide +kernel
theorem dX5_lastMinute_13 : decode cX5_lastMinute 13 = .ok (.ireturn, 1) := by decide +kernel
theorem dX5_there_0 : decode cX5_there 0 = .ok (.aload_n 0, 1) := by decide +kernel
theorem dX5_there_1 : decode cX5_there 1 = .ok (.getfield 40, 3) := by decide +kernel
theorem dX5_there_4 : decode cX5_there 4 = .ok (.iload_n 1, 1) := by decide +kernel
theorem dX5_there_5 : decode cX5_there 5 = .ok (.iconst 4, 1) := by decide +kernel
theorem dX5_there_6 : decode cX5_there 6 = .ok (.imul, 1) := by decide +kernel
theorem dX5_there_7 : decode cX5_there 7 = .ok (.iload_n 2, 1) := by decide +kernel
theorem dX5_there_8 : decode cX5_there 8 = .ok (.iadd, 1) := by decide +kernel
theorem dX5_there_9 : decode cX5_there 9 = .ok (.iaload, 1) := by decide +kernel
theorem dX5_there_10 : decode cX5_there 10 = .ok (.aload_n 0, 1) := by decide +kernel
theorem dX5_there_11 : decode cX5_there 11 = .ok (.getfield 25, 3) := by decide +kernel
theorem dX5_there_14 : decode cX5_there 14 = .ok (.iload_n 1, 1) := by decide +kernel
theorem dX5_there_15 : decode cX5_there 15 = .ok (.iaload, 1) := by decide +kernel
theorem dX5_there_16 : decode cX5_there 16 = .ok (.iadd, 1) := by decide +kernel
theorem dX5_there_17 : decode cX5_there 17 = .ok (.ireturn, 1) := by decide +kernel
theorem dX5_arrival_0 : decode cX5_arrival 0 = .ok (.aload_n 0, 1) := by decide +kernel
theorem dX5_arrival_1 : decode cX5_arrival 1 = .ok (.getfield 40, 3) := by decide +kernel
theorem dX5_arrival_4 : decode cX5_arrival 4 = .ok (.iload_n 1, 1) := by decide +kernel
theorem dX5_arrival_5 : decode cX5_arrival 5 = .ok (.iconst 4, 1) := by decide +kernel
theorem dX5_arrival_6 : decode cX5_arrival 6 = .ok (.imul, 1) := by decide +kernel
theorem dX5_arrival_7 : decode cX5_arrival 7 = .ok (.iload_n 2, 1) := by decide +kernel
theorem dX5_arrival_8 : decode cX5_arrival 8 = .ok (.iadd, 1) := by decide +kernel
theorem dX5_arrival_9 : decode cX5_arrival 9 = .ok (.iaload, 1) := by decide +kernel
theorem dX5_arrival_10 : decode cX5_arrival 10 = .ok (.iload_n 3, 1) := by decide +kernel
theorem dX5_arrival_11 : decode cX5_arrival 11 = .ok (.invokestatic 159, 3) := by decide +kernel
theorem dX5_arrival_14 : decode cX5_arrival 14 = .ok (.istore 4, 2) := by decide +kernel
theorem dX5_arrival_16 : decode cX5_arrival 16 = .ok (.aload_n 0, 1) := by decide +kernel
theorem dX5_arrival_17 : decode cX5_arrival 17 = .ok (.getfield 22, 3) := by decide +kernel
theorem dX5_arrival_20 : decode cX5_arrival 20 = .ok (.iload_n 1, 1) := by decide +kernel
theorem dX5_arrival_21 : decode cX5_arrival 21 = .ok (.iaload, 1) := by decide +kernel
theorem dX5_arrival_22 : decode cX5_arrival 22 = .ok (.aload_n 0, 1) := by decide +kernel
theorem dX5_arrival_23 : decode cX5_arrival 23 = .ok (.getfield 65, 3) := by decide +kernel
theorem dX5_arrival_26 : decode cX5_arrival 26 = .ok (.if_icmp .ne 7, 3) := by decide +kernel
theorem dX5_arrival_29 : decode cX5_arrival 29 = .ok (.iconst 0, 1) := by decide +kernel
theorem dX5_arrival_30 : decode cX5_arrival 30 = .ok (.goto 14, 3) := by decide +kernel
theorem dX5_arrival_33 : decode cX5_arrival 33 = .ok (.aload_n 0, 1) := by decide +kernel
theorem dX5_arrival_34 : decode cX5_arrival 34 = .ok (.getfield 15, 3) := by decide +kernel
theorem dX5_arrival_37 : decode cX5_arrival 37 = .ok (.aload_n 0, 1) := by decide +kernel
theorem dX5_arrival_38 : decode cX5_arrival 38 = .ok (.getfield 22, 3) := by decide +kernel
theorem dX5_arrival_41 : decode cX5_arrival 41 = .ok (.iload_n 1, 1) := by decide +kernel
theorem dX5_arrival_42 : decode cX5_arrival 42 = .ok (.iaload, 1) := by decide +kernel
theorem dX5_arrival_43 : decode cX5_arrival 43 = .ok (.iaload, 1) := by decide +kernel
theorem dX5_arrival_44 : decode cX5_arrival 44 = .ok (.istore 5, 2) := by decide +kernel
theorem dX5_arrival_46 : decode cX5_arrival 46 = .ok (.iload 4, 2) := by decide +kernel
theorem dX5_arrival_48 : decode cX5_arrival 48 = .ok (.aload_n 0, 1) := by decide +kernel
theorem dX5_arrival_49 : decode cX5_arrival 49 = .ok (.getfield 25, 3) := by decide +kernel
theorem dX5_arrival_52 : decode cX5_arrival 52 = .ok (.iload_n 1, 1) := by decide +kernel
theorem dX5_arrival_53 : decode cX5_arrival 53 = .ok (.iaload, 1) := by decide +kernel
theorem dX5_arrival_54 : decode cX5_arrival 54 = .ok (.iadd, 1) := by decide +kernel
theorem dX5_arrival_55 : decode cX5_arrival 55 = .ok (.iload 5, 2) := by decide +kernel
theorem dX5_arrival_57 : decode cX5_arrival 57 = .ok (.iadd, 1) := by decide +kernel
theorem dX5_arrival_58 : decode cX5_arrival 58 = .ok (.ireturn, 1) := by decide +kernel
theorem dX5_stepBy_0 : decode cX5_stepBy 0 = .ok (.iconst 0, 1) := by decide +kernel
theorem dX5_stepBy_1 : decode cX5_stepBy 1 = .ok (.istore_n 3, 1) := by decide +kernel
theorem dX5_stepBy_2 : decode cX5_stepBy 2 = .ok (.iconst 0, 1) := by decide +kernel
theorem dX5_stepBy_3 : decode cX5_stepBy 3 = .ok (.istore 4, 2) := by decide +kernel
theorem dX5_stepBy_5 : decode cX5_stepBy 5 = .ok (.iload 4, 2) := by decide +kernel
theorem dX5_stepBy_7 : decode cX5_stepBy 7 = .ok (.iconst 3, 1) := by decide +kernel
theorem dX5_stepBy_8 : decode cX5_stepBy 8 = .ok (.if_icmp .ge 31, 3) := by decide +kernel
theorem dX5_stepBy_11 : decode cX5_stepBy 11 = .ok (.iload_n 3, 1) := by decide +kernel
theorem dX5_stepBy_12 : decode cX5_stepBy 12 = .ok (.aload_n 0, 1) := by decide +kernel
theorem dX5_stepBy_13 : decode cX5_stepBy 13 = .ok (.getfield 37, 3) := by decide +kernel
theorem dX5_stepBy_16 : decode cX5_stepBy 16 = .ok (.iload_n 1, 1) := by decide +kernel
theorem dX5_stepBy_17 : decode cX5_stepBy 17 = .ok (.iconst 4, 1) := by decide +kernel
theorem dX5_stepBy_18 : decode cX5_stepBy 18 = .ok (.imul, 1) := by decide +kernel
theorem dX5_stepBy_19 : decode cX5_stepBy 19 = .ok (.iload 4, 2) := by decide +kernel
theorem dX5_stepBy_21 : decode cX5_stepBy 21 = .ok (.iadd, 1) := by decide +kernel
theorem dX5_stepBy_22 : decode cX5_stepBy 22 = .ok (.iaload, 1) := by decide +kernel
theorem dX5_stepBy_23 : decode cX5_stepBy 23 = .ok (.iadd, 1) := by decide +kernel
theorem dX5_stepBy_24 : decode cX5_stepBy 24 = .ok (.istore_n 3, 1) := by decide +kernel
theorem dX5_stepBy_25 : decode cX5_stepBy 25 = .ok (.iload_n 3, 1) := by decide +kernel
theorem dX5_stepBy_26 : decode cX5_stepBy 26 = .ok (.iload_n 2, 1) := by decide +kernel
theorem dX5_stepBy_27 : decode cX5_stepBy 27 = .ok (.if_icmp .le 6, 3) := by decide +kernel
theorem dX5_stepBy_30 : decode cX5_stepBy 30 = .ok (.iload 4, 2) := by decide +kernel
theorem dX5_stepBy_32 : decode cX5_stepBy 32 = .ok (.ireturn, 1) := by decide +kernel
theorem dX5_stepBy_33 : decode cX5_stepBy 33 = .ok (.iinc 4 1, 3) := by decide +kernel
theorem dX5_stepBy_36 : decode cX5_stepBy 36 = .ok (.goto (-31), 3) := by decide +kernel
theorem dX5_stepBy_39 : decode cX5_stepBy 39 = .ok (.iconst 3, 1) := by decide +kernel
theorem dX5_stepBy_40 : decode cX5_stepBy 40 = .ok (.ireturn, 1) := by decide +kernel
theorem dX5_joins_0 : decode cX5_joins 0 = .ok (.aload_n 0, 1) := by decide +kernel
theorem dX5_joins_1 : decode cX5_joins 1 = .ok (.getfield 19, 3) := by decide +kernel
theorem dX5_joins_4 : decode cX5_joins 4 = .ok (.iload_n 2, 1) := by decide +kernel
theorem dX5_joins_5 : decode cX5_joins 5 = .ok (.iaload, 1) := by decide +kernel
theorem dX5_joins_6 : decode cX5_joins 6 = .ok (.aload_n 0, 1) := by decide +kernel
theorem dX5_joins_7 : decode cX5_joins 7 = .ok (.getfield 22, 3) := by decide +kernel
theorem dX5_joins_10 : decode cX5_joins 10 = .ok (.iload_n 1, 1) := by decide +kernel
theorem dX5_joins_11 : decode cX5_joins 11 = .ok (.iaload, 1) := by decide +kernel
theorem dX5_joins_12 : decode cX5_joins 12 = .ok (.if_icmp .ne 7, 3) := by decide +kernel
theorem dX5_joins_15 : decode cX5_joins 15 = .ok (.iconst 1, 1) := by decide +kernel
theorem dX5_joins_16 : decode cX5_joins 16 = .ok (.goto 4, 3) := by decide +kernel
theorem dX5_joins_19 : decode cX5_joins 19 = .ok (.iconst 0, 1) := by decide +kernel
theorem dX5_joins_20 : decode cX5_joins 20 = .ok (.ireturn, 1) := by decide +kernel
theorem dX5_missedBy_0 : decode cX5_missedBy 0 = .ok (.aload_n 0, 1) := by decide +kernel
theorem dX5_missedBy_1 : decode cX5_missedBy 1 = .ok (.iload_n 1, 1) := by decide +kernel
theorem dX5_missedBy_2 : decode cX5_missedBy 2 = .ok (.iload_n 2, 1) := by decide +kernel
theorem dX5_missedBy_3 : decode cX5_missedBy 3 = .ok (.invokevirtual 164, 3) := by decide +kernel
theorem dX5_missedBy_6 : decode cX5_missedBy 6 = .ok (.aload_n 0, 1) := by decide +kernel
theorem dX5_missedBy_7 : decode cX5_missedBy 7 = .ok (.getfield 15, 3) := by decide +kernel
theorem dX5_missedBy_10 : decode cX5_missedBy 10 = .ok (.aload_n 0, 1) := by decide +kernel
theorem dX5_missedBy_11 : decode cX5_missedBy 11 = .ok (.getfield 22, 3) := by decide +kernel
theorem dX5_missedBy_14 : decode cX5_missedBy 14 = .ok (.iload_n 1, 1) := by decide +kernel
theorem dX5_missedBy_15 : decode cX5_missedBy 15 = .ok (.iaload, 1) := by decide +kernel
theorem dX5_missedBy_16 : decode cX5_missedBy 16 = .ok (.iaload, 1) := by decide +kernel
theorem dX5_missedBy_17 : decode cX5_missedBy 17 = .ok (.iadd, 1) := by decide +kernel
theorem dX5_missedBy_18 : decode cX5_missedBy 18 = .ok (.aload_n 0, 1) := by decide +kernel
theorem dX5_missedBy_19 : decode cX5_missedBy 19 = .ok (.getfield 40, 3) := by decide +kernel
theorem dX5_missedBy_22 : decode cX5_missedBy 22 = .ok (.iload_n 3, 1) := by decide +kernel
theorem dX5_missedBy_23 : decode cX5_missedBy 23 = .ok (.iconst 4, 1) := by decide +kernel
theorem dX5_missedBy_24 : decode cX5_missedBy 24 = .ok (.imul, 1) := by decide +kernel
theorem dX5_missedBy_25 : decode cX5_missedBy 25 = .ok (.iload 4, 2) := by decide +kernel
theorem dX5_missedBy_27 : decode cX5_missedBy 27 = .ok (.iadd, 1) := by decide +kernel
theorem dX5_missedBy_28 : decode cX5_missedBy 28 = .ok (.iaload, 1) := by decide +kernel
theorem dX5_missedBy_29 : decode cX5_missedBy 29 = .ok (.isub, 1) := by decide +kernel
theorem dX5_missedBy_30 : decode cX5_missedBy 30 = .ok (.aload_n 0, 1) := by decide +kernel
theorem dX5_missedBy_31 : decode cX5_missedBy 31 = .ok (.getfield 34, 3) := by decide +kernel
theorem dX5_missedBy_34 : decode cX5_missedBy 34 = .ok (.iload_n 3, 1) := by decide +kernel
theorem dX5_missedBy_35 : decode cX5_missedBy 35 = .ok (.iaload, 1) := by decide +kernel
theorem dX5_missedBy_36 : decode cX5_missedBy 36 = .ok (.isub, 1) := by decide +kernel
theorem dX5_missedBy_37 : decode cX5_missedBy 37 = .ok (.ireturn, 1) := by decide +kernel
theorem dX5_madeOf_0 : decode cX5_madeOf 0 = .ok (.iconst 0, 1) := by decide +kernel
theorem dX5_madeOf_1 : decode cX5_madeOf 1 = .ok (.istore 4, 2) := by decide +kernel
theorem dX5_madeOf_3 : decode cX5_madeOf 3 = .ok (.iconst 0, 1) := by decide +kernel
theorem dX5_madeOf_4 : decode cX5_madeOf 4 = .ok (.istore 5, 2) := by decide +kernel
theorem dX5_madeOf_6 : decode cX5_madeOf 6 = .ok (.iload 5, 2) := by decide +kernel
theorem dX5_madeOf_8 : decode cX5_madeOf 8 = .ok (.iconst 4, 1) := by decide +kernel
theorem dX5_madeOf_9 : decode cX5_madeOf 9 = .ok (.if_icmp .ge 66, 3) := by decide +kernel
theorem dX5_madeOf_12 : decode cX5_madeOf 12 = .ok (.iconst 0, 1) := by decide +kernel
theorem dX5_madeOf_13 : decode cX5_madeOf 13 = .ok (.istore 6, 2) := by decide +kernel
theorem dX5_madeOf_15 : decode cX5_madeOf 15 = .ok (.iload 6, 2) := by decide +kernel
theorem dX5_madeOf_17 : decode cX5_madeOf 17 = .ok (.iconst 4, 1) := by decide +kernel
theorem dX5_madeOf_18 : decode cX5_madeOf 18 = .ok (.if_icmp .ge 51, 3) := by decide +kernel
theorem dX5_madeOf_21 : decode cX5_madeOf 21 = .ok (.aload_n 0, 1) := by decide +kernel
theorem dX5_madeOf_22 : decode cX5_madeOf 22 = .ok (.iload_n 1, 1) := by decide +kernel
theorem dX5_madeOf_23 : decode cX5_madeOf 23 = .ok (.iload 5, 2) := by decide +kernel
theorem dX5_madeOf_25 : decode cX5_madeOf 25 = .ok (.iload_n 2, 1) := by decide +kernel
theorem dX5_madeOf_26 : decode cX5_madeOf 26 = .ok (.iload 6, 2) := by decide +kernel
theorem dX5_madeOf_28 : decode cX5_madeOf 28 = .ok (.invokevirtual 167, 3) := by decide +kernel
theorem dX5_madeOf_31 : decode cX5_madeOf 31 = .ok (.iload_n 3, 1) := by decide +kernel
theorem dX5_madeOf_32 : decode cX5_madeOf 32 = .ok (.if_icmp .gt 31, 3) := by decide +kernel
theorem dX5_madeOf_35 : decode cX5_madeOf 35 = .ok (.iload 4, 2) := by decide +kernel
theorem dX5_madeOf_37 : decode cX5_madeOf 37 = .ok (.aload_n 0, 1) := by decide +kernel
theorem dX5_madeOf_38 : decode cX5_madeOf 38 = .ok (.getfield 37, 3) := by decide +kernel
theorem dX5_madeOf_41 : decode cX5_madeOf 41 = .ok (.iload_n 1, 1) := by decide +kernel
theorem dX5_madeOf_42 : decode cX5_madeOf 42 = .ok (.iconst 4, 1) := by decide +kernel
theorem dX5_madeOf_43 : decode cX5_madeOf 43 = .ok (.imul, 1) := by decide +kernel
theorem dX5_madeOf_44 : decode cX5_madeOf 44 = .ok (.iload 5, 2) := by decide +kernel
theorem dX5_madeOf_46 : decode cX5_madeOf 46 = .ok (.iadd, 1) := by decide +kernel
theorem dX5_madeOf_47 : decode cX5_madeOf 47 = .ok (.iaload, 1) := by decide +kernel
theorem dX5_madeOf_48 : decode cX5_madeOf 48 = .ok (.aload_n 0, 1) := by decide +kernel
theorem dX5_madeOf_49 : decode cX5_madeOf 49 = .ok (.getfield 37, 3) := by decide +kernel
theorem dX5_madeOf_52 : decode cX5_madeOf 52 = .ok (.iload_n 2, 1) := by decide +kernel
theorem dX5_madeOf_53 : decode cX5_madeOf 53 = .ok (.iconst 4, 1) := by decide +kernel
theorem dX5_madeOf_54 : decode cX5_madeOf 54 = .ok (.imul, 1) := by decide +kernel
theorem dX5_madeOf_55 : decode cX5_madeOf 55 = .ok (.iload 6, 2) := by decide +kernel
theorem dX5_madeOf_57 : decode cX5_madeOf 57 = .ok (.iadd, 1) := by decide +kernel
theorem dX5_madeOf_58 : decode cX5_madeOf 58 = .ok (.iaload, 1) := by decide +kernel
theorem dX5_madeOf_59 : decode cX5_madeOf 59 = .ok (.imul, 1) := by decide +kernel
theorem dX5_madeOf_60 : decode cX5_madeOf 60 = .ok (.iadd, 1) := by decide +kernel
theorem dX5_madeOf_61 : decode cX5_madeOf 61 = .ok (.istore 4, 2) := by decide +kernel
theorem dX5_madeOf_63 : decode cX5_madeOf 63 = .ok (.iinc 6 1, 3) := by decide +kernel
theorem dX5_madeOf_66 : decode cX5_madeOf 66 = .ok (.goto (-51), 3) := by decide +kernel
theorem dX5_madeOf_69 : decode cX5_madeOf 69 = .ok (.iinc 5 1, 3) := by decide +kernel
theorem dX5_madeOf_72 : decode cX5_madeOf 72 = .ok (.goto (-66), 3) := by decide +kernel
theorem dX5_madeOf_75 : decode cX5_madeOf 75 = .ok (.iload 4, 2) := by decide +kernel
theorem dX5_madeOf_77 : decode cX5_madeOf 77 = .ok (.ireturn, 1) := by decide +kernel
theorem dX5_mendedBy_0 : decode cX5_mendedBy 0 = .ok (.ldc 171, 2) := by decide +kernel
theorem dX5_mendedBy_2 : decode cX5_mendedBy 2 = .ok (.istore 4, 2) := by decide +kernel
theorem dX5_mendedBy_4 : decode cX5_mendedBy 4 = .ok (.iconst 0, 1) := by decide +kernel
theorem dX5_mendedBy_5 : decode cX5_mendedBy 5 = .ok (.istore 5, 2) := by decide +kernel
theorem dX5_mendedBy_7 : decode cX5_mendedBy 7 = .ok (.iload 5, 2) := by decide +kernel
theorem dX5_mendedBy_9 : decode cX5_mendedBy 9 = .ok (.bipush 16, 2) := by decide +kernel
theorem dX5_mendedBy_11 : decode cX5_mendedBy 11 = .ok (.if_icmp .ge 79, 3) := by decide +kernel
theorem dX5_mendedBy_14 : decode cX5_mendedBy 14 = .ok (.iconst 0, 1) := by decide +kernel
theorem dX5_mendedBy_15 : decode cX5_mendedBy 15 = .ok (.aload_n 0, 1) := by decide +kernel
theorem dX5_mendedBy_16 : decode cX5_mendedBy 16 = .ok (.iload_n 1, 1) := by decide +kernel
theorem dX5_mendedBy_17 : decode cX5_mendedBy 17 = .ok (.iload 5, 2) := by decide +kernel
theorem dX5_mendedBy_19 : decode cX5_mendedBy 19 = .ok (.iconst 4, 1) := by decide +kernel
theorem dX5_mendedBy_20 : decode cX5_mendedBy 20 = .ok (.idiv, 1) := by decide +kernel
theorem dX5_mendedBy_21 : decode cX5_mendedBy 21 = .ok (.iload_n 2, 1) := by decide +kernel
theorem dX5_mendedBy_22 : decode cX5_mendedBy 22 = .ok (.iload 5, 2) := by decide +kernel
theorem dX5_mendedBy_24 : decode cX5_mendedBy 24 = .ok (.iconst 4, 1) := by decide +kernel
theorem dX5_mendedBy_25 : decode cX5_mendedBy 25 = .ok (.irem, 1) := by decide +kernel
theorem dX5_mendedBy_26 : decode cX5_mendedBy 26 = .ok (.invokevirtual 167, 3) := by decide +kernel
theorem dX5_mendedBy_29 : decode cX5_mendedBy 29 = .ok (.invokestatic 159, 3) := by decide +kernel
theorem dX5_mendedBy_32 : decode cX5_mendedBy 32 = .ok (.istore 6, 2) := by decide +kernel
theorem dX5_mendedBy_34 : decode cX5_mendedBy 34 = .ok (.iload 4, 2) := by decide +kernel
theorem dX5_mendedBy_36 : decode cX5_mendedBy 36 = .ok (.ldc 171, 2) := by decide +kernel
theorem dX5_mendedBy_38 : decode cX5_mendedBy 38 = .ok (.if_icmp .eq 10, 3) := by decide +kernel
theorem dX5_mendedBy_41 : decode cX5_mendedBy 41 = .ok (.iload 6, 2) := by decide +kernel
theorem dX5_mendedBy_43 : decode cX5_mendedBy 43 = .ok (.iload 4, 2) := by decide +kernel
theorem dX5_mendedBy_45 : decode cX5_mendedBy 45 = .ok (.if_icmp .ge 7, 3) := by decide +kernel
theorem dX5_mendedBy_48 : decode cX5_mendedBy 48 = .ok (.iconst 1, 1) := by decide +kernel
theorem dX5_mendedBy_49 : decode cX5_mendedBy 49 = .ok (.goto 4, 3) := by decide +kernel
theorem dX5_mendedBy_52 : decode cX5_mendedBy 52 = .ok (.iconst 0, 1) := by decide +kernel
theorem dX5_mendedBy_53 : decode cX5_mendedBy 53 = .ok (.istore 7, 2) := by decide +kernel
theorem dX5_mendedBy_55 : decode cX5_mendedBy 55 = .ok (.iload 6, 2) := by decide +kernel
theorem dX5_mendedBy_57 : decode cX5_mendedBy 57 = .ok (.sipush 999, 3) := by decide +kernel
theorem dX5_mendedBy_60 : decode cX5_mendedBy 60 = .ok (.if_icmp .gt 24, 3) := by decide +kernel
theorem dX5_mendedBy_63 : decode cX5_mendedBy 63 = .ok (.iload 7, 2) := by decide +kernel
theorem dX5_mendedBy_65 : decode cX5_mendedBy 65 = .ok (.ifCond .eq 19, 3) := by decide +kernel
theorem dX5_mendedBy_68 : decode cX5_mendedBy 68 = .ok (.aload_n 0, 1) := by decide +kernel
theorem dX5_mendedBy_69 : decode cX5_mendedBy 69 = .ok (.iload_n 1, 1) := by decide +kernel
theorem dX5_mendedBy_70 : decode cX5_mendedBy 70 = .ok (.iload_n 2, 1) := by decide +kernel
theorem dX5_mendedBy_71 : decode cX5_mendedBy 71 = .ok (.iload 6, 2) := by decide +kernel
theorem dX5_mendedBy_73 : decode cX5_mendedBy 73 = .ok (.invokevirtual 172, 3) := by decide +kernel
theorem dX5_mendedBy_76 : decode cX5_mendedBy 76 = .ok (.iload_n 3, 1) := by decide +kernel
theorem dX5_mendedBy_77 : decode cX5_mendedBy 77 = .ok (.if_icmp .lt 7, 3) := by decide +kernel
theorem dX5_mendedBy_80 : decode cX5_mendedBy 80 = .ok (.iload 6, 2) := by decide +kernel
theorem dX5_mendedBy_82 : decode cX5_mendedBy 82 = .ok (.istore 4, 2) := by decide +kernel
theorem dX5_mendedBy_84 : decode cX5_mendedBy 84 = .ok (.iinc 5 1, 3) := by decide +kernel
theorem dX5_mendedBy_87 : decode cX5_mendedBy 87 = .ok (.goto (-80), 3) := by decide +kernel
theorem dX5_mendedBy_90 : decode cX5_mendedBy 90 = .ok (.iload 4, 2) := by decide +kernel
theorem dX5_mendedBy_92 : decode cX5_mendedBy 92 = .ok (.ireturn, 1) := by decide +kernel
theorem dX5_planOf_0 : decode cX5_planOf 0 = .ok (.aload_n 1, 1) := by decide +kernel
theorem dX5_planOf_1 : decode cX5_planOf 1 = .ok (.getfield 175, 3) := by decide +kernel
theorem dX5_planOf_4 : decode cX5_planOf 4 = .ok (.iconst 0, 1) := by decide +kernel
theorem dX5_planOf_5 : decode cX5_planOf 5 = .ok (.iaload, 1) := by decide +kernel
theorem dX5_planOf_6 : decode cX5_planOf 6 = .ok (.istore_n 3, 1) := by decide +kernel
theorem dX5_planOf_7 : decode cX5_planOf 7 = .ok (.iconst 0, 1) := by decide +kernel
theorem dX5_planOf_8 : decode cX5_planOf 8 = .ok (.istore 4, 2) := by decide +kernel
theorem dX5_planOf_10 : decode cX5_planOf 10 = .ok (.iload 4, 2) := by decide +kernel
theorem dX5_planOf_12 : decode cX5_planOf 12 = .ok (.iconst 4, 1) := by decide +kernel
theorem dX5_planOf_13 : decode cX5_planOf 13 = .ok (.if_icmp .ge 28, 3) := by decide +kernel
theorem dX5_planOf_16 : decode cX5_planOf 16 = .ok (.aload_n 0, 1) := by decide +kernel
theorem dX5_planOf_17 : decode cX5_planOf 17 = .ok (.getfield 52, 3) := by decide +kernel
theorem dX5_planOf_20 : decode cX5_planOf 20 = .ok (.iload 4, 2) := by decide +kernel
theorem dX5_planOf_22 : decode cX5_planOf 22 = .ok (.aload_n 0, 1) := by decide +kernel
theorem dX5_planOf_23 : decode cX5_planOf 23 = .ok (.getfield 37, 3) := by decide +kernel
theorem dX5_planOf_26 : decode cX5_planOf 26 = .ok (.iload_n 3, 1) := by decide +kernel
theorem dX5_planOf_27 : decode cX5_planOf 27 = .ok (.iconst 4, 1) := by decide +kernel
theorem dX5_planOf_28 : decode cX5_planOf 28 = .ok (.imul, 1) := by decide +kernel
theorem dX5_planOf_29 : decode cX5_planOf 29 = .ok (.iload 4, 2) := by decide +kernel
theorem dX5_planOf_31 : decode cX5_planOf 31 = .ok (.iadd, 1) := by decide +kernel
theorem dX5_planOf_32 : decode cX5_planOf 32 = .ok (.iaload, 1) := by decide +kernel
theorem dX5_planOf_33 : decode cX5_planOf 33 = .ok (.i2l, 1) := by decide +kernel
theorem dX5_planOf_34 : decode cX5_planOf 34 = .ok (.lastore, 1) := by decide +kernel
theorem dX5_planOf_35 : decode cX5_planOf 35 = .ok (.iinc 4 1, 3) := by decide +kernel
theorem dX5_planOf_38 : decode cX5_planOf 38 = .ok (.goto (-28), 3) := by decide +kernel
theorem dX5_planOf_41 : decode cX5_planOf 41 = .ok (.iconst 1, 1) := by decide +kernel
theorem dX5_planOf_42 : decode cX5_planOf 42 = .ok (.istore 4, 2) := by decide +kernel
theorem dX5_planOf_44 : decode cX5_planOf 44 = .ok (.iload 4, 2) := by decide +kernel
theorem dX5_planOf_46 : decode cX5_planOf 46 = .ok (.aload_n 1, 1) := by decide +kernel
theorem dX5_planOf_47 : decode cX5_planOf 47 = .ok (.getfield 178, 3) := by decide +kernel
theorem dX5_planOf_50 : decode cX5_planOf 50 = .ok (.if_icmp .ge 29, 3) := by decide +kernel
theorem dX5_planOf_53 : decode cX5_planOf 53 = .ok (.aload_n 0, 1) := by decide +kernel
theorem dX5_planOf_54 : decode cX5_planOf 54 = .ok (.iload_n 3, 1) := by decide +kernel
theorem dX5_planOf_55 : decode cX5_planOf 55 = .ok (.aload_n 1, 1) := by decide +kernel
theorem dX5_planOf_56 : decode cX5_planOf 56 = .ok (.getfield 175, 3) := by decide +kernel
theorem dX5_planOf_59 : decode cX5_planOf 59 = .ok (.iload 4, 2) := by decide +kernel
theorem dX5_planOf_61 : decode cX5_planOf 61 = .ok (.iaload, 1) := by decide +kernel
theorem dX5_planOf_62 : decode cX5_planOf 62 = .ok (.invokevirtual 181, 3) := by decide +kernel
theorem dX5_planOf_65 : decode cX5_planOf 65 = .ok (.aload_n 1, 1) := by decide +kernel
theorem dX5_planOf_66 : decode cX5_planOf 66 = .ok (.getfield 175, 3) := by decide +kernel
theorem dX5_planOf_69 : decode cX5_planOf 69 = .ok (.iload 4, 2) := by decide +kernel
theorem dX5_planOf_71 : decode cX5_planOf 71 = .ok (.iaload, 1) := by decide +kernel
theorem dX5_planOf_72 : decode cX5_planOf 72 = .ok (.istore_n 3, 1) := by decide +kernel
theorem dX5_planOf_73 : decode cX5_planOf 73 = .ok (.iinc 4 1, 3) := by decide +kernel
theorem dX5_planOf_76 : decode cX5_planOf 76 = .ok (.goto (-32), 3) := by decide +kernel
theorem dX5_planOf_79 : decode cX5_planOf 79 = .ok (.lconst 0, 1) := by decide +kernel
theorem dX5_planOf_80 : decode cX5_planOf 80 = .ok (.lstore 4, 2) := by decide +kernel
theorem dX5_planOf_82 : decode cX5_planOf 82 = .ok (.iconst 0, 1) := by decide +kernel
theorem dX5_planOf_83 : decode cX5_planOf 83 = .ok (.istore 6, 2) := by decide +kernel
theorem dX5_planOf_85 : decode cX5_planOf 85 = .ok (.iload 6, 2) := by decide +kernel
theorem dX5_planOf_87 : decode cX5_planOf 87 = .ok (.iconst 4, 1) := by decide +kernel
theorem dX5_planOf_88 : decode cX5_planOf 88 = .ok (.if_icmp .ge 44, 3) := by decide +kernel
theorem dX5_planOf_91 : decode cX5_planOf 91 = .ok (.lload 4, 2) := by decide +kernel
theorem dX5_planOf_93 : decode cX5_planOf 93 = .ok (.iload_n 2, 1) := by decide +kernel
theorem dX5_planOf_94 : decode cX5_planOf 94 = .ok (.ifCond .eq 22, 3) := by decide +kernel
theorem dX5_planOf_97 : decode cX5_planOf 97 = .ok (.aload_n 0, 1) := by decide +kernel
theorem dX5_planOf_98 : decode cX5_planOf 98 = .ok (.getfield 52, 3) := by decide +kernel
theorem dX5_planOf_101 : decode cX5_planOf 101 = .ok (.iload 6, 2) := by decide +kernel
theorem dX5_planOf_103 : decode cX5_planOf 103 = .ok (.laload, 1) := by decide +kernel
theorem dX5_planOf_104 : decode cX5_planOf 104 = .ok (.aload_n 0, 1) := by decide +kernel
theorem dX5_planOf_105 : decode cX5_planOf 105 = .ok (.iload_n 3, 1) := by decide +kernel
theorem dX5_planOf_106 : decode cX5_planOf 106 = .ok (.iload 6, 2) := by decide +kernel
theorem dX5_planOf_108 : decode cX5_planOf 108 = .ok (.invokevirtual 164, 3) := by decide +kernel
theorem dX5_planOf_111 : decode cX5_planOf 111 = .ok (.i2l, 1) := by decide +kernel
theorem dX5_planOf_112 : decode cX5_planOf 112 = .ok (.lmul, 1) := by decide +kernel
theorem dX5_planOf_113 : decode cX5_planOf 113 = .ok (.goto 10, 3) := by decide +kernel
theorem dX5_planOf_116 : decode cX5_planOf 116 = .ok (.aload_n 0, 1) := by decide +kernel
theorem dX5_planOf_117 : decode cX5_planOf 117 = .ok (.getfield 52, 3) := by decide +kernel
theorem dX5_planOf_120 : decode cX5_planOf 120 = .ok (.iload 6, 2) := by decide +kernel
theorem dX5_planOf_122 : decode cX5_planOf 122 = .ok (.laload, 1) := by decide +kernel
theorem dX5_planOf_123 : decode cX5_planOf 123 = .ok (.ladd, 1) := by decide +kernel
theorem dX5_planOf_124 : decode cX5_planOf 124 = .ok (.lstore 4, 2) := by decide +kernel
theorem dX5_planOf_126 : decode cX5_planOf 126 = .ok (.iinc 6 1, 3) := by decide +kernel
theorem dX5_planOf_129 : decode cX5_planOf 129 = .ok (.goto (-44), 3) := by decide +kernel
theorem dX5_planOf_132 : decode cX5_planOf 132 = .ok (.lload 4, 2) := by decide +kernel
theorem dX5_planOf_134 : decode cX5_planOf 134 = .ok (.lreturn, 1) := by decide +kernel
theorem dX5_goOn_0 : decode cX5_goOn 0 = .ok (.iconst 0, 1) := by decide +kernel
theorem dX5_goOn_1 : decode cX5_goOn 1 = .ok (.istore_n 3, 1) := by decide +kernel
theorem dX5_goOn_2 : decode cX5_goOn 2 = .ok (.iload_n 3, 1) := by decide +kernel
theorem dX5_goOn_3 : decode cX5_goOn 3 = .ok (.iconst 4, 1) := by decide +kernel
theorem dX5_goOn_4 : decode cX5_goOn 4 = .ok (.if_icmp .ge 75, 3) := by decide +kernel
theorem dX5_goOn_7 : decode cX5_goOn 7 = .ok (.lconst 0, 1) := by decide +kernel
theorem dX5_goOn_8 : decode cX5_goOn 8 = .ok (.lstore 4, 2) := by decide +kernel
theorem dX5_goOn_10 : decode cX5_goOn 10 = .ok (.iconst 0, 1) := by decide +kernel
theorem dX5_goOn_11 : decode cX5_goOn 11 = .ok (.istore 6, 2) := by decide +kernel
theorem dX5_goOn_13 : decode cX5_goOn 13 = .ok (.iload 6, 2) := by decide +kernel
theorem dX5_goOn_15 : decode cX5_goOn 15 = .ok (.iconst 4, 1) := by decide +kernel
theorem dX5_goOn_16 : decode cX5_goOn 16 = .ok (.if_icmp .ge 37, 3) := by decide +kernel
theorem dX5_goOn_19 : decode cX5_goOn 19 = .ok (.lload 4, 2) := by decide +kernel
theorem dX5_goOn_21 : decode cX5_goOn 21 = .ok (.aload_n 0, 1) := by decide +kernel
theorem dX5_goOn_22 : decode cX5_goOn 22 = .ok (.iload_n 1, 1) := by decide +kernel
theorem dX5_goOn_23 : decode cX5_goOn 23 = .ok (.iload 6, 2) := by decide +kernel
theorem dX5_goOn_25 : decode cX5_goOn 25 = .ok (.iload_n 2, 1) := by decide +kernel
theorem dX5_goOn_26 : decode cX5_goOn 26 = .ok (.iload_n 3, 1) := by decide +kernel
theorem dX5_goOn_27 : decode cX5_goOn 27 = .ok (.invokevirtual 167, 3) := by decide +kernel
theorem dX5_goOn_30 : decode cX5_goOn 30 = .ok (.ifCond .gt 13, 3) := by decide +kernel
theorem dX5_goOn_33 : decode cX5_goOn 33 = .ok (.aload_n 0, 1) := by decide +kernel
theorem dX5_goOn_34 : decode cX5_goOn 34 = .ok (.getfield 52, 3) := by decide +kernel
theorem dX5_goOn_37 : decode cX5_goOn 37 = .ok (.iload 6, 2) := by decide +kernel
theorem dX5_goOn_39 : decode cX5_goOn 39 = .ok (.laload, 1) := by decide +kernel
theorem dX5_goOn_40 : decode cX5_goOn 40 = .ok (.goto 4, 3) := by decide +kernel
theorem dX5_goOn_43 : decode cX5_goOn 43 = .ok (.lconst 0, 1) := by decide +kernel
theorem dX5_goOn_44 : decode cX5_goOn 44 = .ok (.ladd, 1) := by decide +kernel
theorem dX5_goOn_45 : decode cX5_goOn 45 = .ok (.lstore 4, 2) := by decide +kernel
theorem dX5_goOn_47 : decode cX5_goOn 47 = .ok (.iinc 6 1, 3) := by decide +kernel
theorem dX5_goOn_50 : decode cX5_goOn 50 = .ok (.goto (-37), 3) := by decide +kernel
theorem dX5_goOn_53 : decode cX5_goOn 53 = .ok (.aload_n 0, 1) := by decide +kernel
theorem dX5_goOn_54 : decode cX5_goOn 54 = .ok (.getfield 56, 3) := by decide +kernel
theorem dX5_goOn_57 : decode cX5_goOn 57 = .ok (.iload_n 3, 1) := by decide +kernel
theorem dX5_goOn_58 : decode cX5_goOn 58 = .ok (.lload 4, 2) := by decide +kernel
theorem dX5_goOn_60 : decode cX5_goOn 60 = .ok (.aload_n 0, 1) := by decide +kernel
theorem dX5_goOn_61 : decode cX5_goOn 61 = .ok (.getfield 37, 3) := by decide +kernel
theorem dX5_goOn_64 : decode cX5_goOn 64 = .ok (.iload_n 2, 1) := by decide +kernel
theorem dX5_goOn_65 : decode cX5_goOn 65 = .ok (.iconst 4, 1) := by decide +kernel
theorem dX5_goOn_66 : decode cX5_goOn 66 = .ok (.imul, 1) := by decide +kernel
theorem dX5_goOn_67 : decode cX5_goOn 67 = .ok (.iload_n 3, 1) := by decide +kernel
theorem dX5_goOn_68 : decode cX5_goOn 68 = .ok (.iadd, 1) := by decide +kernel
theorem dX5_goOn_69 : decode cX5_goOn 69 = .ok (.iaload, 1) := by decide +kernel
theorem dX5_goOn_70 : decode cX5_goOn 70 = .ok (.i2l, 1) := by decide +kernel
theorem dX5_goOn_71 : decode cX5_goOn 71 = .ok (.lmul, 1) := by decide +kernel
theorem dX5_goOn_72 : decode cX5_goOn 72 = .ok (.lastore, 1) := by decide +kernel
theorem dX5_goOn_73 : decode cX5_goOn 73 = .ok (.iinc 3 1, 3) := by decide +kernel
theorem dX5_goOn_76 : decode cX5_goOn 76 = .ok (.goto (-74), 3) := by decide +kernel
theorem dX5_goOn_79 : decode cX5_goOn 79 = .ok (.aload_n 0, 1) := by decide +kernel
theorem dX5_goOn_80 : decode cX5_goOn 80 = .ok (.getfield 52, 3) := by decide +kernel
theorem dX5_goOn_83 : decode cX5_goOn 83 = .ok (.astore_n 3, 1) := by decide +kernel
theorem dX5_goOn_84 : decode cX5_goOn 84 = .ok (.aload_n 0, 1) := by decide +kernel
theorem dX5_goOn_85 : decode cX5_goOn 85 = .ok (.aload_n 0, 1) := by decide +kernel
theorem dX5_goOn_86 : decode cX5_goOn 86 = .ok (.getfield 56, 3) := by decide +kernel
theorem dX5_goOn_89 : decode cX5_goOn 89 = .ok (.putfield 52, 3) := by decide +kernel
theorem dX5_goOn_92 : decode cX5_goOn 92 = .ok (.aload_n 0, 1) := by decide +kernel
theorem dX5_goOn_93 : decode cX5_goOn 93 = .ok (.aload_n 3, 1) := by decide +kernel
theorem dX5_goOn_94 : decode cX5_goOn 94 = .ok (.putfield 56, 3) := by decide +kernel
theorem dX5_goOn_97 : decode cX5_goOn 97 = .ok (.return_, 1) := by decide +kernel
theorem dX6_init_0 : decode cX6_init 0 = .ok (.aload_n 0, 1) := by decide +kernel
theorem dX6_init_1 : decode cX6_init 1 = .ok (.invokespecial 3, 3) := by decide +kernel
theorem dX6_init_4 : decode cX6_init 4 = .ok (.aload_n 0, 1) := by decide +kernel
theorem dX6_init_5 : decode cX6_init 5 = .ok (.ldc 9, 2) := by decide +kernel
theorem dX6_init_7 : decode cX6_init 7 = .ok (.putfield 10, 3) := by decide +kernel
theorem dX6_init_10 : decode cX6_init 10 = .ok (.aload_n 0, 1) := by decide +kernel
theorem dX6_init_11 : decode cX6_init 11 = .ok (.iconst 4, 1) := by decide +kernel
theorem dX6_init_12 : decode cX6_init 12 = .ok (.newarray .int, 2) := by decide +kernel
theorem dX6_init_14 : decode cX6_init 14 = .ok (.putfield 16, 3) := by decide +kernel
theorem dX6_init_17 : decode cX6_init 17 = .ok (.return_, 1) := by decide +kernel
theorem dX6_begin_0 : decode cX6_begin 0 = .ok (.aload_n 0, 1) := by decide +kernel
theorem dX6_begin_1 : decode cX6_begin 1 = .ok (.iload_n 1, 1) := by decide +kernel
theorem dX6_begin_2 : decode cX6_begin 2 = .ok (.putfield 20, 3) := by decide +kernel
theorem dX6_begin_5 : decode cX6_begin 5 = .ok (.aload_n 0, 1) := by decide +kernel
theorem dX6_begin_6 : decode cX6_begin 6 = .ok (.iload_n 2, 1) := by decide +kernel
theorem dX6_begin_7 : decode cX6_begin 7 = .ok (.putfield 23, 3) := by decide +kernel
theorem dX6_begin_10 : decode cX6_begin 10 = .ok (.aload_n 0, 1) := by decide +kernel
theorem dX6_begin_11 : decode cX6_begin 11 = .ok (.iload_n 3, 1) := by decide +kernel
theorem dX6_begin_12 : decode cX6_begin 12 = .ok (.putfield 26, 3) := by decide +kernel
theorem dX6_begin_15 : decode cX6_begin 15 = .ok (.aload_n 0, 1) := by decide +kernel
theorem dX6_begin_16 : decode cX6_begin 16 = .ok (.iconst 0, 1) := by decide +kernel
theorem dX6_begin_17 : decode cX6_begin 17 = .ok (.putfield 29, 3) := by decide +kernel
theorem dX6_begin_20 : decode cX6_begin 20 = .ok (.aload_n 0, 1) := by decide +kernel
theorem dX6_begin_21 : decode cX6_begin 21 = .ok (.ldc 9, 2) := by decide +kernel
theorem dX6_begin_23 : decode cX6_begin 23 = .ok (.putfield 10, 3) := by decide +kernel
theorem dX6_begin_26 : decode cX6_begin 26 = .ok (.aload_n 0, 1) := by decide +kernel
theorem dX6_begin_27 : decode cX6_begin 27 = .ok (.getfield 16, 3) := by decide +kernel
theorem dX6_begin_30 : decode cX6_begin 30 = .ok (.iconst 0, 1) := by decide +kernel
theorem dX6_begin_31 : decode cX6_begin 31 = .ok (.invokestatic 32, 3) := by decide +kernel
theorem dX6_begin_34 : decode cX6_begin 34 = .ok (.aload_n 0, 1) := by decide +kernel
theorem dX6_begin_35 : decode cX6_begin 35 = .ok (.getfield 16, 3) := by decide +kernel
theorem dX6_begin_38 : decode cX6_begin 38 = .ok (.iconst 0, 1) := by decide +kernel
theorem dX6_begin_39 : decode cX6_begin 39 = .ok (.bipush 100, 2) := by decide +kernel
theorem dX6_begin_41 : decode cX6_begin 41 = .ok (.iastore, 1) := by decide +kernel
theorem dX6_begin_42 : decode cX6_begin 42 = .ok (.return_, 1) := by decide +kernel
theorem dX6_takeFrom_0 : decode cX6_takeFrom 0 = .ok (.aload_n 0, 1) := by decide +kernel
theorem dX6_takeFrom_1 : decode cX6_takeFrom 1 = .ok (.aload_n 1, 1) := by decide +kernel
theorem dX6_takeFrom_2 : decode cX6_takeFrom 2 = .ok (.getfield 20, 3) := by decide +kernel
theorem dX6_takeFrom_5 : decode cX6_takeFrom 5 = .ok (.putfield 20, 3) := by decide +kernel
theorem dX6_takeFrom_8 : decode cX6_takeFrom 8 = .ok (.aload_n 0, 1) := by decide +kernel
theorem dX6_takeFrom_9 : decode cX6_takeFrom 9 = .ok (.aload_n 1, 1) := by decide +kernel
theorem dX6_takeFrom_10 : decode cX6_takeFrom 10 = .ok (.getfield 23, 3) := by decide +kernel
theorem dX6_takeFrom_13 : decode cX6_takeFrom 13 = .ok (.putfield 23, 3) := by decide +kernel
theorem dX6_takeFrom_16 : decode cX6_takeFrom 16 = .ok (.aload_n 0, 1) := by decide +kernel
theorem dX6_takeFrom_17 : decode cX6_takeFrom 17 = .ok (.aload_n 1, 1) := by decide +kernel
theorem dX6_takeFrom_18 : decode cX6_takeFrom 18 = .ok (.getfield 26, 3) := by decide +kernel
theorem dX6_takeFrom_21 : decode cX6_takeFrom 21 = .ok (.putfield 26, 3) := by decide +kernel
theorem dX6_takeFrom_24 : decode cX6_takeFrom 24 = .ok (.aload_n 0, 1) := by decide +kernel
theorem dX6_takeFrom_25 : decode cX6_takeFrom 25 = .ok (.aload_n 1, 1) := by decide +kernel
theorem dX6_takeFrom_26 : decode cX6_takeFrom 26 = .ok (.getfield 38, 3) := by decide +kernel
theorem dX6_takeFrom_29 : decode cX6_takeFrom 29 = .ok (.putfield 38, 3) := by decide +kernel
theorem dX6_takeFrom_32 : decode cX6_takeFrom 32 = .ok (.aload_n 0, 1) := by decide +kernel
theorem dX6_takeFrom_33 : decode cX6_takeFrom 33 = .ok (.aload_n 1, 1) := by decide +kernel
theorem dX6_takeFrom_34 : decode cX6_takeFrom 34 = .ok (.getfield 41, 3) := by decide +kernel
theorem dX6_takeFrom_37 : decode cX6_takeFrom 37 = .ok (.putfield 41, 3) := by decide +kernel
theorem dX6_takeFrom_40 : decode cX6_takeFrom 40 = .ok (.aload_n 0, 1) := by decide +kernel
theorem dX6_takeFrom_41 : decode cX6_takeFrom 41 = .ok (.aload_n 1, 1) := by decide +kernel
theorem dX6_takeFrom_42 : decode cX6_takeFrom 42 = .ok (.getfield 29, 3) := by decide +kernel
theorem dX6_takeFrom_45 : decode cX6_takeFrom 45 = .ok (.putfield 29, 3) := by decide +kernel
theorem dX6_takeFrom_48 : decode cX6_takeFrom 48 = .ok (.aload_n 0, 1) := by decide +kernel
theorem dX6_takeFrom_49 : decode cX6_takeFrom 49 = .ok (.aload_n 1, 1) := by decide +kernel
theorem dX6_takeFrom_50 : decode cX6_takeFrom 50 = .ok (.getfield 10, 3) := by decide +kernel
theorem dX6_takeFrom_53 : decode cX6_takeFrom 53 = .ok (.putfield 10, 3) := by decide +kernel
theorem dX6_takeFrom_56 : decode cX6_takeFrom 56 = .ok (.aload_n 1, 1) := by decide +kernel
theorem dX6_takeFrom_57 : decode cX6_takeFrom 57 = .ok (.getfield 16, 3) := by decide +kernel
theorem dX6_takeFrom_60 : decode cX6_takeFrom 60 = .ok (.iconst 0, 1) := by decide +kernel
theorem dX6_takeFrom_61 : decode cX6_takeFrom 61 = .ok (.aload_n 0, 1) := by decide +kernel
theorem dX6_takeFrom_62 : decode cX6_takeFrom 62 = .ok (.getfield 16, 3) := by decide +kernel
theorem dX6_takeFrom_65 : decode cX6_takeFrom 65 = .ok (.iconst 0, 1) := by decide +kernel
theorem dX6_takeFrom_66 : decode cX6_takeFrom 66 = .ok (.iconst 4, 1) := by decide +kernel
theorem dX6_takeFrom_67 : decode cX6_takeFrom 67 = .ok (.invokestatic 44, 3) := by decide +kernel
theorem dX6_takeFrom_70 : decode cX6_takeFrom 70 = .ok (.return_, 1) := by decide +kernel
theorem dX6_figure_0 : decode cX6_figure 0 = .ok (.iload_n 1, 1) := by decide +kernel
theorem dX6_figure_1 : decode cX6_figure 1 = .ok (.tableswitch 78 0 6 #[43, 48, 53, 58, 63, 68, 73], 43) := by decide +kernel
theorem dX6_figure_44 : decode cX6_figure 44 = .ok (.aload_n 0, 1) := by decide +kernel
theorem dX6_figure_45 : decode cX6_figure 45 = .ok (.getfield 20, 3) := by decide +kernel
theorem dX6_figure_48 : decode cX6_figure 48 = .ok (.ireturn, 1) := by decide +kernel
theorem dX6_figure_49 : decode cX6_figure 49 = .ok (.aload_n 0, 1) := by decide +kernel
theorem dX6_figure_50 : decode cX6_figure 50 = .ok (.getfield 23, 3) := by decide +kernel
theorem dX6_figure_53 : decode cX6_figure 53 = .ok (.ireturn, 1) := by decide +kernel
theorem dX6_figure_54 : decode cX6_figure 54 = .ok (.aload_n 0, 1) := by decide +kernel
theorem dX6_figure_55 : decode cX6_figure 55 = .ok (.getfield 26, 3) := by decide +kernel
theorem dX6_figure_58 : decode cX6_figure 58 = .ok (.ireturn, 1) := by decide +kernel
theorem dX6_figure_59 : decode cX6_figure 59 = .ok (.aload_n 0, 1) := by decide +kernel
theorem dX6_figure_60 : decode cX6_figure 60 = .ok (.getfield 38, 3) := by decide +kernel
theorem dX6_figure_63 : decode cX6_figure 63 = .ok (.ireturn, 1) := by decide +kernel
theorem dX6_figure_64 : decode cX6_figure 64 = .ok (.aload_n 0, 1) := by decide +kernel
theorem dX6_figure_65 : decode cX6_figure 65 = .ok (.getfield 41, 3) := by decide +kernel
theorem dX6_figure_68 : decode cX6_figure 68 = .ok (.ireturn, 1) := by decide +kernel
theorem dX6_figure_69 : decode cX6_figure 69 = .ok (.aload_n 0, 1) := by decide +kernel
theorem dX6_figure_70 : decode cX6_figure 70 = .ok (.getfield 29, 3) := by decide +kernel
theorem dX6_figure_73 : decode cX6_figure 73 = .ok (.ireturn, 1) := by decide +kernel
theorem dX6_figure_74 : decode cX6_figure 74 = .ok (.aload_n 0, 1) := by decide +kernel
theorem dX6_figure_75 : decode cX6_figure 75 = .ok (.getfield 10, 3) := by decide +kernel
theorem dX6_figure_78 : decode cX6_figure 78 = .ok (.ireturn, 1) := by decide +kernel
theorem dX6_figure_79 : decode cX6_figure 79 = .ok (.aload_n 0, 1) := by decide +kernel
theorem dX6_figure_80 : decode cX6_figure 80 = .ok (.invokevirtual 50, 3) := by decide +kernel
theorem dX6_figure_83 : decode cX6_figure 83 = .ok (.ireturn, 1) := by decide +kernel
theorem dX6_fare_0 : decode cX6_fare 0 = .ok (.aload_n 0, 1) := by decide +kernel
theorem dX6_fare_1 : decode cX6_fare 1 = .ok (.getfield 20, 3) := by decide +kernel
theorem dX6_fare_4 : decode cX6_fare 4 = .ok (.tableswitch 57 1 4 #[32, 39, 32, 47], 32) := by decide +kernel
theorem dX6_fare_36 : decode cX6_fare 36 = .ok (.aload_n 0, 1) := by decide +kernel
theorem dX6_fare_37 : decode cX6_fare 37 = .ok (.getfield 29, 3) := by decide +kernel
theorem dX6_fare_40 : decode cX6_fare 40 = .ok (.iconst 2, 1) := by decide +kernel
theorem dX6_fare_41 : decode cX6_fare 41 = .ok (.idiv, 1) := by decide +kernel
theorem dX6_fare_42 : decode cX6_fare 42 = .ok (.ireturn, 1) := by decide +kernel
theorem dX6_fare_43 : decode cX6_fare 43 = .ok (.aload_n 0, 1) := by decide +kernel
theorem dX6_fare_44 : decode cX6_fare 44 = .ok (.getfield 29, 3) := by decide +kernel
theorem dX6_fare_47 : decode cX6_fare 47 = .ok (.bipush 10, 2) := by decide +kernel
theorem dX6_fare_49 : decode cX6_fare 49 = .ok (.iadd, 1) := by decide +kernel
theorem dX6_fare_50 : decode cX6_fare 50 = .ok (.ireturn, 1) := by decide +kernel
theorem dX6_fare_51 : decode cX6_fare 51 = .ok (.iconst 2, 1) := by decide +kernel
theorem dX6_fare_52 : decode cX6_fare 52 = .ok (.aload_n 0, 1) := by decide +kernel
theorem dX6_fare_53 : decode cX6_fare 53 = .ok (.getfield 29, 3) := by decide +kernel
theorem dX6_fare_56 : decode cX6_fare 56 = .ok (.bipush 10, 2) := by decide +kernel
theorem dX6_fare_58 : decode cX6_fare 58 = .ok (.iadd, 1) := by decide +kernel
theorem dX6_fare_59 : decode cX6_fare 59 = .ok (.imul, 1) := by decide +kernel
theorem dX6_fare_60 : decode cX6_fare 60 = .ok (.ireturn, 1) := by decide +kernel
theorem dX6_fare_61 : decode cX6_fare 61 = .ok (.aload_n 0, 1) := by decide +kernel
theorem dX6_fare_62 : decode cX6_fare 62 = .ok (.getfield 29, 3) := by decide +kernel
theorem dX6_fare_65 : decode cX6_fare 65 = .ok (.ireturn, 1) := by decide +kernel
theorem dX6_usualWait_0 : decode cX6_usualWait 0 = .ok (.aload_n 0, 1) := by decide +kernel
theorem dX6_usualWait_1 : decode cX6_usualWait 1 = .ok (.getfield 20, 3) := by decide +kernel
theorem dX6_usualWait_4 : decode cX6_usualWait 4 = .ok (.tableswitch 40 2 5 #[32, 40, 34, 37], 32) := by decide +kernel
theorem dX6_usualWait_36 : decode cX6_usualWait 36 = .ok (.iconst 5, 1) := by decide +kernel
theorem dX6_usualWait_37 : decode cX6_usualWait 37 = .ok (.ireturn, 1) := by decide +kernel
theorem dX6_usualWait_38 : decode cX6_usualWait 38 = .ok (.bipush 10, 2) := by decide +kernel
theorem dX6_usualWait_40 : decode cX6_usualWait 40 = .ok (.ireturn, 1) := by decide +kernel
theorem dX6_usualWait_41 : decode cX6_usualWait 41 = .ok (.bipush 10, 2) := by decide +kernel
theorem dX6_usualWait_43 : decode cX6_usualWait 43 = .ok (.ireturn, 1) := by decide +kernel
theorem dX6_usualWait_44 : decode cX6_usualWait 44 = .ok (.iconst 0, 1) := by decide +kernel
theorem dX6_usualWait_45 : decode cX6_usualWait 45 = .ok (.ireturn, 1) := by decide +kernel
theorem dX6_delayBy_0 : decode cX6_delayBy 0 = .ok (.aload_n 0, 1) := by decide +kernel
theorem dX6_delayBy_1 : decode cX6_delayBy 1 = .ok (.getfield 20, 3) := by decide +kernel
theorem dX6_delayBy_4 : decode cX6_delayBy 4 = .ok (.tableswitch 48 1 4 #[32, 46, 37, 46], 32) := by decide +kernel
theorem dX6_delayBy_36 : decode cX6_delayBy 36 = .ok (.bipush 7, 2) := by decide +kernel
theorem dX6_delayBy_38 : decode cX6_delayBy 38 = .ok (.iload_n 1, 1) := by decide +kernel
theorem dX6_delayBy_39 : decode cX6_delayBy 39 = .ok (.imul, 1) := by decide +kernel
theorem dX6_delayBy_40 : decode cX6_delayBy 40 = .ok (.ireturn, 1) := by decide +kernel
theorem dX6_delayBy_41 : decode cX6_delayBy 41 = .ok (.bipush 7, 2) := by decide +kernel
theorem dX6_delayBy_43 : decode cX6_delayBy 43 = .ok (.iload_n 1, 1) := by decide +kernel
theorem dX6_delayBy_44 : decode cX6_delayBy 44 = .ok (.imul, 1) := by decide +kernel
theorem dX6_delayBy_45 : decode cX6_delayBy 45 = .ok (.iload_n 2, 1) := by decide +kernel
theorem dX6_delayBy_46 : decode cX6_delayBy 46 = .ok (.iconst 2, 1) := by decide +kernel
theorem dX6_delayBy_47 : decode cX6_delayBy 47 = .ok (.idiv, 1) := by decide +kernel
theorem dX6_delayBy_48 : decode cX6_delayBy 48 = .ok (.iadd, 1) := by decide +kernel
theorem dX6_delayBy_49 : decode cX6_delayBy 49 = .ok (.ireturn, 1) := by decide +kernel
theorem dX6_delayBy_50 : decode cX6_delayBy 50 = .ok (.iconst 0, 1) := by decide +kernel
theorem dX6_delayBy_51 : decode cX6_delayBy 51 = .ok (.ireturn, 1) := by decide +kernel
theorem dX6_delayBy_52 : decode cX6_delayBy 52 = .ok (.iconst 5, 1) := by decide +kernel
theorem dX6_delayBy_53 : decode cX6_delayBy 53 = .ok (.iload_n 1, 1) := by decide +kernel
theorem dX6_delayBy_54 : decode cX6_delayBy 54 = .ok (.imul, 1) := by decide +kernel
theorem dX6_delayBy_55 : decode cX6_delayBy 55 = .ok (.ireturn, 1) := by decide +kernel
theorem dX7_init_0 : decode cX7_init 0 = .ok (.aload_n 0, 1) := by decide +kernel
theorem dX7_init_1 : decode cX7_init 1 = .ok (.invokespecial 3, 3) := by decide +kernel
theorem dX7_init_4 : decode cX7_init 4 = .ok (.aload_n 0, 1) := by decide +kernel
theorem dX7_init_5 : decode cX7_init 5 = .ok (.bipush 6, 2) := by decide +kernel
theorem dX7_init_7 : decode cX7_init 7 = .ok (.newarray .int, 2) := by decide +kernel
theorem dX7_init_9 : decode cX7_init 9 = .ok (.putfield 9, 3) := by decide +kernel
theorem dX7_init_12 : decode cX7_init 12 = .ok (.aload_n 0, 1) := by decide +kernel
theorem dX7_init_13 : decode cX7_init 13 = .ok (.bipush 12, 2) := by decide +kernel
theorem dX7_init_15 : decode cX7_init 15 = .ok (.anewarray 15, 3) := by decide +kernel
theorem dX7_init_18 : decode cX7_init 18 = .ok (.putfield 17, 3) := by decide +kernel
theorem dX7_init_21 : decode cX7_init 21 = .ok (.aload_n 0, 1) := by decide +kernel
theorem dX7_init_22 : decode cX7_init 22 = .ok (.bipush 14, 2) := by decide +kernel
theorem dX7_init_24 : decode cX7_init 24 = .ok (.anewarray 21, 3) := by decide +kernel
theorem dX7_init_27 : decode cX7_init 27 = .ok (.putfield 23, 3) := by decide +kernel
theorem dX7_init_30 : decode cX7_init 30 = .ok (.aload_n 0, 1) := by decide +kernel
theorem dX7_init_31 : decode cX7_init 31 = .ok (.bipush 6, 2) := by decide +kernel
theorem dX7_init_33 : decode cX7_init 33 = .ok (.newarray .int, 2) := by decide +kernel
theorem dX7_init_35 : decode cX7_init 35 = .ok (.putfield 27, 3) := by decide +kernel
theorem dX7_init_38 : decode cX7_init 38 = .ok (.aload_n 0, 1) := by decide +kernel
theorem dX7_init_39 : decode cX7_init 39 = .ok (.sipush 720, 3) := by decide +kernel
theorem dX7_init_42 : decode cX7_init 42 = .ok (.putfield 30, 3) := by decide +kernel
theorem dX7_init_45 : decode cX7_init 45 = .ok (.aload_n 0, 1) := by decide +kernel
theorem dX7_init_46 : decode cX7_init 46 = .ok (.bipush 10, 2) := by decide +kernel
theorem dX7_init_48 : decode cX7_init 48 = .ok (.newarray .int, 2) := by decide +kernel
theorem dX7_init_50 : decode cX7_init 50 = .ok (.putfield 34, 3) := by decide +kernel
theorem dX7_init_53 : decode cX7_init 53 = .ok (.aload_n 0, 1) := by decide +kernel
theorem dX7_init_54 : decode cX7_init 54 = .ok (.bipush 10, 2) := by decide +kernel
theorem dX7_init_56 : decode cX7_init 56 = .ok (.newarray .int, 2) := by decide +kernel
theorem dX7_init_58 : decode cX7_init 58 = .ok (.putfield 37, 3) := by decide +kernel
theorem dX7_init_61 : decode cX7_init 61 = .ok (.aload_n 0, 1) := by decide +kernel
theorem dX7_init_62 : decode cX7_init 62 = .ok (.iconst 1, 1) := by decide +kernel
theorem dX7_init_63 : decode cX7_init 63 = .ok (.putfield 40, 3) := by decide +kernel
theorem dX7_init_66 : decode cX7_init 66 = .ok (.iconst 0, 1) := by decide +kernel
theorem dX7_init_67 : decode cX7_init 67 = .ok (.istore_n 1, 1) := by decide +kernel
theorem dX7_init_68 : decode cX7_init 68 = .ok (.iload_n 1, 1) := by decide +kernel
theorem dX7_init_69 : decode cX7_init 69 = .ok (.bipush 12, 2) := by decide +kernel
theorem dX7_init_71 : decode cX7_init 71 = .ok (.if_icmp .ge 22, 3) := by decide +kernel
theorem dX7_init_74 : decode cX7_init 74 = .ok (.aload_n 0, 1) := by decide +kernel
theorem dX7_init_75 : decode cX7_init 75 = .ok (.getfield 17, 3) := by decide +kernel
theorem dX7_init_78 : decode cX7_init 78 = .ok (.iload_n 1, 1) := by decide +kernel
theorem dX7_init_79 : decode cX7_init 79 = .ok (.new 15, 3) := by decide +kernel
theorem dX7_init_82 : decode cX7_init 82 = .ok (.dup, 1) := by decide +kernel
theorem dX7_init_83 : decode cX7_init 83 = .ok (.invokespecial 43, 3) := by decide +kernel
theorem dX7_init_86 : decode cX7_init 86 = .ok (.aastore, 1) := by decide +kernel
theorem dX7_init_87 : decode cX7_init 87 = .ok (.iinc 1 1, 3) := by decide +kernel
theorem dX7_init_90 : decode cX7_init 90 = .ok (.goto (-22), 3) := by decide +kernel
theorem dX7_init_93 : decode cX7_init 93 = .ok (.return_, 1) := by decide +kernel
theorem dX7_isStop_0 : decode cX7_isStop 0 = .ok (.iload_n 1, 1) := by decide +kernel
theorem dX7_isStop_1 : decode cX7_isStop 1 = .ok (.iconst 0, 1) := by decide +kernel
theorem dX7_isStop_2 : decode cX7_isStop 2 = .ok (.aload_n 0, 1) := by decide +kernel
theorem dX7_isStop_3 : decode cX7_isStop 3 = .ok (.getfield 44, 3) := by decide +kernel
theorem dX7_isStop_6 : decode cX7_isStop 6 = .ok (.iconst 1, 1) := by decide +kernel
theorem dX7_isStop_7 : decode cX7_isStop 7 = .ok (.isub, 1) := by decide +kernel
theorem dX7_isStop_8 : decode cX7_isStop 8 = .ok (.invokestatic 47, 3) := by decide +kernel
theorem dX7_isStop_11 : decode cX7_isStop 11 = .ok (.ireturn, 1) := by decide +kernel
theorem dX7_isTrain_0 : decode cX7_isTrain 0 = .ok (.iload_n 1, 1) := by decide +kernel
theorem dX7_isTrain_1 : decode cX7_isTrain 1 = .ok (.iconst 0, 1) := by decide +kernel
theorem dX7_isTrain_2 : decode cX7_isTrain 2 = .ok (.aload_n 0, 1) := by decide +kernel
theorem dX7_isTrain_3 : decode cX7_isTrain 3 = .ok (.getfield 51, 3) := by decide +kernel
theorem dX7_isTrain_6 : decode cX7_isTrain 6 = .ok (.iconst 1, 1) := by decide +kernel
theorem dX7_isTrain_7 : decode cX7_isTrain 7 = .ok (.isub, 1) := by decide +kernel
theorem dX7_isTrain_8 : decode cX7_isTrain 8 = .ok (.invokestatic 47, 3) := by decide +kernel
theorem dX7_isTrain_11 : decode cX7_isTrain 11 = .ok (.ireturn, 1) := by decide +kernel
theorem dX7_takeFrom_0 : decode cX7_takeFrom 0 = .ok (.aload_n 0, 1) := by decide +kernel
theorem dX7_takeFrom_1 : decode cX7_takeFrom 1 = .ok (.aload_n 1, 1) := by decide +kernel
theorem dX7_takeFrom_2 : decode cX7_takeFrom 2 = .ok (.getfield 54, 3) := by decide +kernel
theorem dX7_takeFrom_5 : decode cX7_takeFrom 5 = .ok (.putfield 54, 3) := by decide +kernel
theorem dX7_takeFrom_8 : decode cX7_takeFrom 8 = .ok (.aload_n 0, 1) := by decide +kernel
theorem dX7_takeFrom_9 : decode cX7_takeFrom 9 = .ok (.aload_n 1, 1) := by decide +kernel
theorem dX7_takeFrom_10 : decode cX7_takeFrom 10 = .ok (.getfield 44, 3) := by decide +kernel
theorem dX7_takeFrom_13 : decode cX7_takeFrom 13 = .ok (.putfield 44, 3) := by decide +kernel
theorem dX7_takeFrom_16 : decode cX7_takeFrom 16 = .ok (.aload_n 1, 1) := by decide +kernel
theorem dX7_takeFrom_17 : decode cX7_takeFrom 17 = .ok (.getfield 9, 3) := by decide +kernel
theorem dX7_takeFrom_20 : decode cX7_takeFrom 20 = .ok (.iconst 0, 1) := by decide +kernel
theorem dX7_takeFrom_21 : decode cX7_takeFrom 21 = .ok (.aload_n 0, 1) := by decide +kernel
theorem dX7_takeFrom_22 : decode cX7_takeFrom 22 = .ok (.getfield 9, 3) := by decide +kernel
theorem dX7_takeFrom_25 : decode cX7_takeFrom 25 = .ok (.iconst 0, 1) := by decide +kernel
theorem dX7_takeFrom_26 : decode cX7_takeFrom 26 = .ok (.bipush 6, 2) := by decide +kernel
theorem dX7_takeFrom_28 : decode cX7_takeFrom 28 = .ok (.invokestatic 57, 3) := by decide +kernel
theorem dX7_takeFrom_31 : decode cX7_takeFrom 31 = .ok (.aload_n 0, 1) := by decide +kernel
theorem dX7_takeFrom_32 : decode cX7_takeFrom 32 = .ok (.aload_n 1, 1) := by decide +kernel
theorem dX7_takeFrom_33 : decode cX7_takeFrom 33 = .ok (.getfield 51, 3) := by decide +kernel
theorem dX7_takeFrom_36 : decode cX7_takeFrom 36 = .ok (.putfield 51, 3) := by decide +kernel
theorem dX7_takeFrom_39 : decode cX7_takeFrom 39 = .ok (.iconst 0, 1) := by decide +kernel
theorem dX7_takeFrom_40 : decode cX7_takeFrom 40 = .ok (.istore_n 2, 1) := by decide +kernel
theorem dX7_takeFrom_41 : decode cX7_takeFrom 41 = .ok (.iload_n 2, 1) := by decide +kernel
theorem dX7_takeFrom_42 : decode cX7_takeFrom 42 = .ok (.aload_n 0, 1) := by decide +kernel
theorem dX7_takeFrom_43 : decode cX7_takeFrom 43 = .ok (.getfield 51, 3) := by decide +kernel
theorem dX7_takeFrom_46 : decode cX7_takeFrom 46 = .ok (.if_icmp .ge 24, 3) := by decide +kernel
theorem dX7_takeFrom_49 : decode cX7_takeFrom 49 = .ok (.aload_n 0, 1) := by decide +kernel
theorem dX7_takeFrom_50 : decode cX7_takeFrom 50 = .ok (.getfield 17, 3) := by decide +kernel
theorem dX7_takeFrom_53 : decode cX7_takeFrom 53 = .ok (.iload_n 2, 1) := by decide +kernel
theorem dX7_takeFrom_54 : decode cX7_takeFrom 54 = .ok (.aaload, 1) := by decide +kernel
theorem dX7_takeFrom_55 : decode cX7_takeFrom 55 = .ok (.aload_n 1, 1) := by decide +kernel
theorem dX7_takeFrom_56 : decode cX7_takeFrom 56 = .ok (.getfield 17, 3) := by decide +kernel
theorem dX7_takeFrom_59 : decode cX7_takeFrom 59 = .ok (.iload_n 2, 1) := by decide +kernel
theorem dX7_takeFrom_60 : decode cX7_takeFrom 60 = .ok (.aaload, 1) := by decide +kernel
theorem dX7_takeFrom_61 : decode cX7_takeFrom 61 = .ok (.invokevirtual 63, 3) := by decide +kernel
theorem dX7_takeFrom_64 : decode cX7_takeFrom 64 = .ok (.iinc 2 1, 3) := by decide +kernel
theorem dX7_takeFrom_67 : decode cX7_takeFrom 67 = .ok (.goto (-26), 3) := by decide +kernel
theorem dX7_takeFrom_70 : decode cX7_takeFrom 70 = .ok (.aload_n 0, 1) := by decide +kernel
theorem dX7_takeFrom_71 : decode cX7_takeFrom 71 = .ok (.aload_n 1, 1) := by decide +kernel
theorem dX7_takeFrom_72 : decode cX7_takeFrom 72 = .ok (.getfield 67, 3) := by decide +kernel
theorem dX7_takeFrom_75 : decode cX7_takeFrom 75 = .ok (.putfield 67, 3) := by decide +kernel
theorem dX7_takeFrom_78 : decode cX7_takeFrom 78 = .ok (.iconst 0, 1) := by decide +kernel
theorem dX7_takeFrom_79 : decode cX7_takeFrom 79 = .ok (.istore_n 2, 1) := by decide +kernel
theorem dX7_takeFrom_80 : decode cX7_takeFrom 80 = .ok (.iload_n 2, 1) := by decide +kernel
theorem dX7_takeFrom_81 : decode cX7_takeFrom 81 = .ok (.aload_n 0, 1) := by decide +kernel
theorem dX7_takeFrom_82 : decode cX7_takeFrom 82 = .ok (.getfield 67, 3) := by decide +kernel
theorem dX7_takeFrom_85 : decode cX7_takeFrom 85 = .ok (.if_icmp .ge 21, 3) := by decide +kernel
theorem dX7_takeFrom_88 : decode cX7_takeFrom 88 = .ok (.aload_n 0, 1) := by decide +kernel
theorem dX7_takeFrom_89 : decode cX7_takeFrom 89 = .ok (.getfield 23, 3) := by decide +kernel
theorem dX7_takeFrom_92 : decode cX7_takeFrom 92 = .ok (.iload_n 2, 1) := by decide +kernel
theorem dX7_takeFrom_93 : decode cX7_takeFrom 93 = .ok (.aload_n 1, 1) := by decide +kernel
theorem dX7_takeFrom_94 : decode cX7_takeFrom 94 = .ok (.getfield 23, 3) := by decide +kernel
theorem dX7_takeFrom_97 : decode cX7_takeFrom 97 = .ok (.iload_n 2, 1) := by decide +kernel
theorem dX7_takeFrom_98 : decode cX7_takeFrom 98 = .ok (.aaload, 1) := by decide +kernel
theorem dX7_takeFrom_99 : decode cX7_takeFrom 99 = .ok (.aastore, 1) := by decide +kernel
theorem dX7_takeFrom_100 : decode cX7_takeFrom 100 = .ok (.iinc 2 1, 3) := by decide +kernel
theorem dX7_takeFrom_103 : decode cX7_takeFrom 103 = .ok (.goto (-23), 3) := by decide +kernel
theorem dX7_takeFrom_106 : decode cX7_takeFrom 106 = .ok (.aload_n 0, 1) := by decide +kernel
theorem dX7_takeFrom_107 : decode cX7_takeFrom 107 = .ok (.aload_n 1, 1) := by decide +kernel
theorem dX7_takeFrom_108 : decode cX7_takeFrom 108 = .ok (.getfield 70, 3) := by decide +kernel
theorem dX7_takeFrom_111 : decode cX7_takeFrom 111 = .ok (.putfield 70, 3) := by decide +kernel
theorem dX7_takeFrom_114 : decode cX7_takeFrom 114 = .ok (.aload_n 1, 1) := by decide +kernel
theorem dX7_takeFrom_115 : decode cX7_takeFrom 115 = .ok (.getfield 27, 3) := by decide +kernel
theorem dX7_takeFrom_118 : decode cX7_takeFrom 118 = .ok (.iconst 0, 1) := by decide +kernel
theorem dX7_takeFrom_119 : decode cX7_takeFrom 119 = .ok (.aload_n 0, 1) := by decide +kernel
theorem dX7_takeFrom_120 : decode cX7_takeFrom 120 = .ok (.getfield 27, 3) := by decide +kernel
theorem dX7_takeFrom_123 : decode cX7_takeFrom 123 = .ok (.iconst 0, 1) := by decide +kernel
theorem dX7_takeFrom_124 : decode cX7_takeFrom 124 = .ok (.bipush 6, 2) := by decide +kernel
theorem dX7_takeFrom_126 : decode cX7_takeFrom 126 = .ok (.invokestatic 57, 3) := by decide +kernel
theorem dX7_takeFrom_129 : decode cX7_takeFrom 129 = .ok (.aload_n 0, 1) := by decide +kernel
theorem dX7_takeFrom_130 : decode cX7_takeFrom 130 = .ok (.aload_n 1, 1) := by decide +kernel
theorem dX7_takeFrom_131 : decode cX7_takeFrom 131 = .ok (.getfield 73, 3) := by decide +kernel
theorem dX7_takeFrom_134 : decode cX7_takeFrom 134 = .ok (.putfield 73, 3) := by decide +kernel
theorem dX7_takeFrom_137 : decode cX7_takeFrom 137 = .ok (.aload_n 0, 1) := by decide +kernel
theorem dX7_takeFrom_138 : decode cX7_takeFrom 138 = .ok (.aload_n 1, 1) := by decide +kernel
theorem dX7_takeFrom_139 : decode cX7_takeFrom 139 = .ok (.getfield 30, 3) := by decide +kernel
theorem dX7_takeFrom_142 : decode cX7_takeFrom 142 = .ok (.putfield 30, 3) := by decide +kernel
theorem dX7_takeFrom_145 : decode cX7_takeFrom 145 = .ok (.aload_n 0, 1) := by decide +kernel
theorem dX7_takeFrom_146 : decode cX7_takeFrom 146 = .ok (.aload_n 1, 1) := by decide +kernel
theorem dX7_takeFrom_147 : decode cX7_takeFrom 147 = .ok (.getfield 76, 3) := by decide +kernel
theorem dX7_takeFrom_150 : decode cX7_takeFrom 150 = .ok (.putfield 76, 3) := by decide +kernel
theorem dX7_takeFrom_153 : decode cX7_takeFrom 153 = .ok (.aload_n 0, 1) := by decide +kernel
theorem dX7_takeFrom_154 : decode cX7_takeFrom 154 = .ok (.aload_n 1, 1) := by decide +kernel
theorem dX7_takeFrom_155 : decode cX7_takeFrom 155 = .ok (.getfield 79, 3) := by decide +kernel
theorem dX7_takeFrom_158 : decode cX7_takeFrom 158 = .ok (.putfield 79, 3) := by decide +kernel
theorem dX7_takeFrom_161 : decode cX7_takeFrom 161 = .ok (.aload_n 1, 1) := by decide +kernel
theorem dX7_takeFrom_162 : decode cX7_takeFrom 162 = .ok (.getfield 34, 3) := by decide +kernel
theorem dX7_takeFrom_165 : decode cX7_takeFrom 165 = .ok (.iconst 0, 1) := by decide +kernel
theorem dX7_takeFrom_166 : decode cX7_takeFrom 166 = .ok (.aload_n 0, 1) := by decide +kernel
theorem dX7_takeFrom_167 : decode cX7_takeFrom 167 = .ok (.getfield 34, 3) := by decide +kernel
theorem dX7_takeFrom_170 : decode cX7_takeFrom 170 = .ok (.iconst 0, 1) := by decide +kernel
theorem dX7_takeFrom_171 : decode cX7_takeFrom 171 = .ok (.bipush 10, 2) := by decide +kernel
theorem dX7_takeFrom_173 : decode cX7_takeFrom 173 = .ok (.invokestatic 57, 3) := by decide +kernel
theorem dX7_takeFrom_176 : decode cX7_takeFrom 176 = .ok (.aload_n 1, 1) := by decide +kernel
theorem dX7_takeFrom_177 : decode cX7_takeFrom 177 = .ok (.getfield 37, 3) := by decide +kernel
theorem dX7_takeFrom_180 : decode cX7_takeFrom 180 = .ok (.iconst 0, 1) := by decide +kernel
theorem dX7_takeFrom_181 : decode cX7_takeFrom 181 = .ok (.aload_n 0, 1) := by decide +kernel
theorem dX7_takeFrom_182 : decode cX7_takeFrom 182 = .ok (.getfield 37, 3) := by decide +kernel
theorem dX7_takeFrom_185 : decode cX7_takeFrom 185 = .ok (.iconst 0, 1) := by decide +kernel
theorem dX7_takeFrom_186 : decode cX7_takeFrom 186 = .ok (.bipush 10, 2) := by decide +kernel
theorem dX7_takeFrom_188 : decode cX7_takeFrom 188 = .ok (.invokestatic 57, 3) := by decide +kernel
theorem dX7_takeFrom_191 : decode cX7_takeFrom 191 = .ok (.aload_n 0, 1) := by decide +kernel
theorem dX7_takeFrom_192 : decode cX7_takeFrom 192 = .ok (.aload_n 1, 1) := by decide +kernel
theorem dX7_takeFrom_193 : decode cX7_takeFrom 193 = .ok (.getfield 40, 3) := by decide +kernel
theorem dX7_takeFrom_196 : decode cX7_takeFrom 196 = .ok (.putfield 40, 3) := by decide +kernel
theorem dX7_takeFrom_199 : decode cX7_takeFrom 199 = .ok (.return_, 1) := by decide +kernel
theorem dX7_countingText_0 : decode cX7_countingText 0 = .ok (.aload_n 0, 1) := by decide +kernel
theorem dX7_countingText_1 : decode cX7_countingText 1 = .ok (.getfield 67, 3) := by decide +kernel
theorem dX7_countingText_4 : decode cX7_countingText 4 = .ok (.iconst 1, 1) := by decide +kernel
theorem dX7_countingText_5 : decode cX7_countingText 5 = .ok (.isub, 1) := by decide +kernel
theorem dX7_countingText_6 : decode cX7_countingText 6 = .ok (.istore_n 2, 1) := by decide +kernel
theorem dX7_countingText_7 : decode cX7_countingText 7 = .ok (.iload_n 2, 1) := by decide +kernel
theorem dX7_countingText_8 : decode cX7_countingText 8 = .ok (.ifCond .lt 33, 3) := by decide +kernel
theorem dX7_countingText_11 : decode cX7_countingText 11 = .ok (.aload_n 0, 1) := by decide +kernel
theorem dX7_countingText_12 : decode cX7_countingText 12 = .ok (.getfield 23, 3) := by decide +kernel
theorem dX7_countingText_15 : decode cX7_countingText 15 = .ok (.iload_n 2, 1) := by decide +kernel
theorem dX7_countingText_16 : decode cX7_countingText 16 = .ok (.aaload, 1) := by decide +kernel
theorem dX7_countingText_17 : decode cX7_countingText 17 = .ok (.ifnull 18, 3) := by decide +kernel
theorem dX7_countingText_20 : decode cX7_countingText 20 = .ok (.aload_n 0, 1) := by decide +kernel
theorem dX7_countingText_21 : decode cX7_countingText 21 = .ok (.getfield 23, 3) := by decide +kernel
theorem dX7_countingText_24 : decode cX7_countingText 24 = .ok (.iload_n 2, 1) := by decide +kernel
theorem dX7_countingText_25 : decode cX7_countingText 25 = .ok (.aaload, 1) := by decide +kernel
theorem dX7_countingText_26 : decode cX7_countingText 26 = .ok (.getfield 82, 3) := by decide +kernel
theorem dX7_countingText_29 : decode cX7_countingText 29 = .ok (.iload_n 1, 1) := by decide +kernel
theorem dX7_countingText_30 : decode cX7_countingText 30 = .ok (.if_icmp .ne 5, 3) := by decide +kernel
theorem dX7_countingText_33 : decode cX7_countingText 33 = .ok (.iload_n 2, 1) := by decide +kernel
theorem dX7_countingText_34 : decode cX7_countingText 34 = .ok (.ireturn, 1) := by decide +kernel
theorem dX7_countingText_35 : decode cX7_countingText 35 = .ok (.iinc 2 (-1), 3) := by decide +kernel
theorem dX7_countingText_38 : decode cX7_countingText 38 = .ok (.goto (-31), 3) := by decide +kernel
theorem dX7_countingText_41 : decode cX7_countingText 41 = .ok (.ldc 85, 2) := by decide +kernel
theorem dX7_countingText_43 : decode cX7_countingText 43 = .ok (.ireturn, 1) := by decide +kernel
theorem dX7_law_0 : decode cX7_law 0 = .ok (.aload_n 0, 1) := by decide +kernel
theorem dX7_law_1 : decode cX7_law 1 = .ok (.iload_n 1, 1) := by decide +kernel
theorem dX7_law_2 : decode cX7_law 2 = .ok (.invokevirtual 86, 3) := by decide +kernel
theorem dX7_law_5 : decode cX7_law 5 = .ok (.istore_n 2, 1) := by decide +kernel
theorem dX7_law_6 : decode cX7_law 6 = .ok (.iload_n 2, 1) := by decide +kernel
theorem dX7_law_7 : decode cX7_law 7 = .ok (.ldc 85, 2) := by decide +kernel
theorem dX7_law_9 : decode cX7_law 9 = .ok (.if_icmp .ne 7, 3) := by decide +kernel
theorem dX7_law_12 : decode cX7_law 12 = .ok (.aconst_null, 1) := by decide +kernel
theorem dX7_law_13 : decode cX7_law 13 = .ok (.goto 9, 3) := by decide +kernel
theorem dX7_law_16 : decode cX7_law 16 = .ok (.aload_n 0, 1) := by decide +kernel
theorem dX7_law_17 : decode cX7_law 17 = .ok (.getfield 23, 3) := by decide +kernel
theorem dX7_law_20 : decode cX7_law 20 = .ok (.iload_n 2, 1) := by decide +kernel
theorem dX7_law_21 : decode cX7_law 21 = .ok (.aaload, 1) := by decide +kernel
theorem dX7_law_22 : decode cX7_law 22 = .ok (.areturn, 1) := by decide +kernel
theorem dX7_brokenPlace_0 : decode cX7_brokenPlace 0 = .ok (.iconst 1, 1) := by decide +kernel
theorem dX7_brokenPlace_1 : decode cX7_brokenPlace 1 = .ok (.istore_n 1, 1) := by decide +kernel
theorem dX7_brokenPlace_2 : decode cX7_brokenPlace 2 = .ok (.iload_n 1, 1) := by decide +kernel
theorem dX7_brokenPlace_3 : decode cX7_brokenPlace 3 = .ok (.aload_n 0, 1) := by decide +kernel
theorem dX7_brokenPlace_4 : decode cX7_brokenPlace 4 = .ok (.getfield 70, 3) := by decide +kernel
theorem dX7_brokenPlace_7 : decode cX7_brokenPlace 7 = .ok (.if_icmp .ge 44, 3) := by decide +kernel
theorem dX7_brokenPlace_10 : decode cX7_brokenPlace 10 = .ok (.aload_n 0, 1) := by decide +kernel
theorem dX7_brokenPlace_11 : decode cX7_brokenPlace 11 = .ok (.getfield 17, 3) := by decide +kernel
theorem dX7_brokenPlace_14 : decode cX7_brokenPlace 14 = .ok (.aload_n 0, 1) := by decide +kernel
theorem dX7_brokenPlace_15 : decode cX7_brokenPlace 15 = .ok (.getfield 27, 3) := by decide +kernel
theorem dX7_brokenPlace_18 : decode cX7_brokenPlace 18 = .ok (.iload_n 1, 1) := by decide +kernel
theorem dX7_brokenPlace_19 : decode cX7_brokenPlace 19 = .ok (.iaload, 1) := by decide +kernel
theorem dX7_brokenPlace_20 : decode cX7_brokenPlace 20 = .ok (.aaload, 1) := by decide +kernel
theorem dX7_brokenPlace_21 : decode cX7_brokenPlace 21 = .ok (.getfield 90, 3) := by decide +kernel
theorem dX7_brokenPlace_24 : decode cX7_brokenPlace 24 = .ok (.aload_n 0, 1) := by decide +kernel
theorem dX7_brokenPlace_25 : decode cX7_brokenPlace 25 = .ok (.getfield 17, 3) := by decide +kernel
theorem dX7_brokenPlace_28 : decode cX7_brokenPlace 28 = .ok (.aload_n 0, 1) := by decide +kernel
theorem dX7_brokenPlace_29 : decode cX7_brokenPlace 29 = .ok (.getfield 27, 3) := by decide +kernel
theorem dX7_brokenPlace_32 : decode cX7_brokenPlace 32 = .ok (.iload_n 1, 1) := by decide +kernel
theorem dX7_brokenPlace_33 : decode cX7_brokenPlace 33 = .ok (.iconst 1, 1) := by decide +kernel
theorem dX7_brokenPlace_34 : decode cX7_brokenPlace 34 = .ok (.isub, 1) := by decide +kernel
theorem dX7_brokenPlace_35 : decode cX7_brokenPlace 35 = .ok (.iaload, 1) := by decide +kernel
theorem dX7_brokenPlace_36 : decode cX7_brokenPlace 36 = .ok (.aaload, 1) := by decide +kernel
theorem dX7_brokenPlace_37 : decode cX7_brokenPlace 37 = .ok (.getfield 93, 3) := by decide +kernel
theorem dX7_brokenPlace_40 : decode cX7_brokenPlace 40 = .ok (.if_icmp .eq 5, 3) := by decide +kernel
theorem dX7_brokenPlace_43 : decode cX7_brokenPlace 43 = .ok (.iload_n 1, 1) := by decide +kernel
theorem dX7_brokenPlace_44 : decode cX7_brokenPlace 44 = .ok (.ireturn, 1) := by decide +kernel
theorem dX7_brokenPlace_45 : decode cX7_brokenPlace 45 = .ok (.iinc 1 1, 3) := by decide +kernel
theorem dX7_brokenPlace_48 : decode cX7_brokenPlace 48 = .ok (.goto (-46), 3) := by decide +kernel
theorem dX7_brokenPlace_51 : decode cX7_brokenPlace 51 = .ok (.ldc 85, 2) := by decide +kernel
theorem dX7_brokenPlace_53 : decode cX7_brokenPlace 53 = .ok (.ireturn, 1) := by decide +kernel
theorem dX7_draw_0 : decode cX7_draw 0 = .ok (.aload_n 0, 1) := by decide +kernel
theorem dX7_draw_1 : decode cX7_draw 1 = .ok (.aload_n 0, 1) := by decide +kernel
theorem dX7_draw_2 : decode cX7_draw 2 = .ok (.getfield 40, 3) := by decide +kernel
theorem dX7_draw_5 : decode cX7_draw 5 = .ok (.ldc 96, 2) := by decide +kernel
theorem dX7_draw_7 : decode cX7_draw 7 = .ok (.imul, 1) := by decide +kernel
theorem dX7_draw_8 : decode cX7_draw 8 = .ok (.sipush 12345, 3) := by decide +kernel
theorem dX7_draw_11 : decode cX7_draw 11 = .ok (.iadd, 1) := by decide +kernel
theorem dX7_draw_12 : decode cX7_draw 12 = .ok (.putfield 40, 3) := by decide +kernel
theorem dX7_draw_15 : decode cX7_draw 15 = .ok (.aload_n 0, 1) := by decide +kernel
theorem dX7_draw_16 : decode cX7_draw 16 = .ok (.getfield 40, 3) := by decide +kernel
theorem dX7_draw_19 : decode cX7_draw 19 = .ok (.bipush 8, 2) := by decide +kernel
theorem dX7_draw_21 : decode cX7_draw 21 = .ok (.iushr, 1) := by decide +kernel
theorem dX7_draw_22 : decode cX7_draw 22 = .ok (.ireturn, 1) := by decide +kernel
theorem dJ11_isValidCodePoint_9a6ad_0 : decode cJ11_isValidCodePoint_9a6ad 0 = .ok (.iload_n 0, 1) := by decide +kernel
theorem dJ11_isValidCodePoint_9a6ad_1 : decode cJ11_isValidCodePoint_9a6ad 1 = .ok (.bipush 16, 2) := by decide +kernel
theorem dJ11_isValidCodePoint_9a6ad_3 : decode cJ11_isValidCodePoint_9a6ad 3 = .ok (.iushr, 1) := by decide +kernel
theorem dJ11_isValidCodePoint_9a6ad_4 : decode cJ11_isValidCodePoint_9a6ad 4 = .ok (.istore_n 1, 1) := by decide +kernel
theorem dJ11_isValidCodePoint_9a6ad_5 : decode cJ11_isValidCodePoint_9a6ad 5 = .ok (.iload_n 1, 1) := by decide +kernel
theorem dJ11_isValidCodePoint_9a6ad_6 : decode cJ11_isValidCodePoint_9a6ad 6 = .ok (.bipush 17, 2) := by decide +kernel
theorem dJ11_isValidCodePoint_9a6ad_8 : decode cJ11_isValidCodePoint_9a6ad 8 = .ok (.if_icmp .ge 7, 3) := by decide +kernel
theorem dJ11_isValidCodePoint_9a6ad_11 : decode cJ11_isValidCodePoint_9a6ad 11 = .ok (.iconst 1, 1) := by decide +kernel
theorem dJ11_isValidCodePoint_9a6ad_12 : decode cJ11_isValidCodePoint_9a6ad 12 = .ok (.goto 4, 3) := by decide +kernel
theorem dJ11_isValidCodePoint_9a6ad_15 : decode cJ11_isValidCodePoint_9a6ad 15 = .ok (.iconst 0, 1) := by decide +kernel
theorem dJ11_isValidCodePoint_9a6ad_16 : decode cJ11_isValidCodePoint_9a6ad 16 = .ok (.ireturn, 1) := by decide +kernel
theorem dJ11_highSurrogate_5068e_0 : decode cJ11_highSurrogate_5068e 0 = .ok (.iload_n 0, 1) := by decide +kernel
theorem dJ11_highSurrogate_5068e_1 : decode cJ11_highSurrogate_5068e 1 = .ok (.bipush 10, 2) := by decide +kernel
theorem dJ11_highSurrogate_5068e_3 : decode cJ11_highSurrogate_5068e 3 = .ok (.iushr, 1) := by decide +kernel
theorem dJ11_highSurrogate_5068e_4 : decode cJ11_highSurrogate_5068e 4 = .ok (.ldc 110, 2) := by decide +kernel
theorem dJ11_highSurrogate_5068e_6 : decode cJ11_highSurrogate_5068e 6 = .ok (.iadd, 1) := by decide +kernel
theorem dJ11_highSurrogate_5068e_7 : decode cJ11_highSurrogate_5068e 7 = .ok (.i2c, 1) := by decide +kernel
theorem dJ11_highSurrogate_5068e_8 : decode cJ11_highSurrogate_5068e 8 = .ok (.ireturn, 1) := by decide +kernel
theorem dJ11_lowSurrogate_5068e_0 : decode cJ11_lowSurrogate_5068e 0 = .ok (.iload_n 0, 1) := by decide +kernel
theorem dJ11_lowSurrogate_5068e_1 : decode cJ11_lowSurrogate_5068e 1 = .ok (.sipush 1023, 3) := by decide +kernel
theorem dJ11_lowSurrogate_5068e_4 : decode cJ11_lowSurrogate_5068e 4 = .ok (.iand, 1) := by decide +kernel
theorem dJ11_lowSurrogate_5068e_5 : decode cJ11_lowSurrogate_5068e 5 = .ok (.ldc 76, 2) := by decide +kernel
theorem dJ11_lowSurrogate_5068e_7 : decode cJ11_lowSurrogate_5068e 7 = .ok (.iadd, 1) := by decide +kernel
theorem dJ11_lowSurrogate_5068e_8 : decode cJ11_lowSurrogate_5068e 8 = .ok (.i2c, 1) := by decide +kernel
theorem dJ11_lowSurrogate_5068e_9 : decode cJ11_lowSurrogate_5068e 9 = .ok (.ireturn, 1) := by decide +kernel
theorem dJ9_max_7cf53_0 : decode cJ9_max_7cf53 0 = .ok (.iload_n 0, 1) := by decide +kernel
theorem dJ9_max_7cf53_1 : decode cJ9_max_7cf53 1 = .ok (.iload_n 1, 1) := by decide +kernel
theorem dJ9_max_7cf53_2 : decode cJ9_max_7cf53 2 = .ok (.if_icmp .lt 7, 3) := by decide +kernel
theorem dJ9_max_7cf53_5 : decode cJ9_max_7cf53 5 = .ok (.iload_n 0, 1) := by decide +kernel
theorem dJ9_max_7cf53_6 : decode cJ9_max_7cf53 6 = .ok (.goto 4, 3) := by decide +kernel
theorem dJ9_max_7cf53_9 : decode cJ9_max_7cf53 9 = .ok (.iload_n 1, 1) := by decide +kernel
theorem dJ9_max_7cf53_10 : decode cJ9_max_7cf53 10 = .ok (.ireturn, 1) := by decide +kernel
theorem dJ9_min_7cf53_0 : decode cJ9_min_7cf53 0 = .ok (.iload_n 0, 1) := by decide +kernel
theorem dJ9_min_7cf53_1 : decode cJ9_min_7cf53 1 = .ok (.iload_n 1, 1) := by decide +kernel
theorem dJ9_min_7cf53_2 : decode cJ9_min_7cf53 2 = .ok (.if_icmp .gt 7, 3) := by decide +kernel
theorem dJ9_min_7cf53_5 : decode cJ9_min_7cf53 5 = .ok (.iload_n 0, 1) := by decide +kernel
theorem dJ9_min_7cf53_6 : decode cJ9_min_7cf53 6 = .ok (.goto 4, 3) := by decide +kernel
theorem dJ9_min_7cf53_9 : decode cJ9_min_7cf53 9 = .ok (.iload_n 1, 1) := by decide +kernel
theorem dJ9_min_7cf53_10 : decode cJ9_min_7cf53 10 = .ok (.ireturn, 1) := by decide +kernel
theorem dJ0_length_8abf5_0 : decode cJ0_length_8abf5 0 = .ok (.aload_n 0, 1) := by decide +kernel
theorem dJ0_length_8abf5_1 : decode cJ0_length_8abf5 1 = .ok (.getfield 9, 3) := by decide +kernel
theorem dJ0_length_8abf5_4 : decode cJ0_length_8abf5 4 = .ok (.arraylength, 1) := by decide +kernel
theorem dJ0_length_8abf5_5 : decode cJ0_length_8abf5 5 = .ok (.aload_n 0, 1) := by decide +kernel
theorem dJ0_length_8abf5_6 : decode cJ0_length_8abf5 6 = .ok (.invokevirtual 335, 3) := by decide +kernel
theorem dJ0_length_8abf5_9 : decode cJ0_length_8abf5 9 = .ok (.ishr, 1) := by decide +kernel
theorem dJ0_length_8abf5_10 : decode cJ0_length_8abf5 10 = .ok (.ireturn, 1) := by decide +kernel
theorem dJ0_charAt_5068e_0 : decode cJ0_charAt_5068e 0 = .ok (.aload_n 0, 1) := by decide +kernel
theorem dJ0_charAt_5068e_1 : decode cJ0_charAt_5068e 1 = .ok (.invokevirtual 492, 3) := by decide +kernel
theorem dJ0_charAt_5068e_4 : decode cJ0_charAt_5068e 4 = .ok (.ifCond .eq 12, 3) := by decide +kernel
theorem dJ0_charAt_5068e_7 : decode cJ0_charAt_5068e 7 = .ok (.aload_n 0, 1) := by decide +kernel
theorem dJ0_charAt_5068e_8 : decode cJ0_charAt_5068e 8 = .ok (.getfield 9, 3) := by decide +kernel
theorem dJ0_charAt_5068e_11 : decode cJ0_charAt_5068e 11 = .ok (.iload_n 1, 1) := by decide +kernel
theorem dJ0_charAt_5068e_12 : decode cJ0_charAt_5068e 12 = .ok (.invokestatic 495, 3) := by decide +kernel
theorem dJ0_charAt_5068e_15 : decode cJ0_charAt_5068e 15 = .ok (.ireturn, 1) := by decide +kernel
theorem dJ0_charAt_5068e_16 : decode cJ0_charAt_5068e 16 = .ok (.aload_n 0, 1) := by decide +kernel
theorem dJ0_charAt_5068e_17 : decode cJ0_charAt_5068e 17 = .ok (.getfield 9, 3) := by decide +kernel
theorem dJ0_charAt_5068e_20 : decode cJ0_charAt_5068e 20 = .ok (.iload_n 1, 1) := by decide +kernel
theorem dJ0_charAt_5068e_21 : decode cJ0_charAt_5068e 21 = .ok (.invokestatic 498, 3) := by decide +kernel
theorem dJ0_charAt_5068e_24 : decode cJ0_charAt_5068e 24 = .ok (.ireturn, 1) := by decide +kernel
theorem dJ0_indexOf_0f7a4_0 : decode cJ0_indexOf_0f7a4 0 = .ok (.aload_n 0, 1) := by decide +kernel
theorem dJ0_indexOf_0f7a4_1 : decode cJ0_indexOf_0f7a4 1 = .ok (.iload_n 1, 1) := by decide +kernel
theorem dJ0_indexOf_0f7a4_2 : decode cJ0_indexOf_0f7a4 2 = .ok (.iconst 0, 1) := by decide +kernel
theorem dJ0_indexOf_0f7a4_3 : decode cJ0_indexOf_0f7a4 3 = .ok (.invokevirtual 633, 3) := by decide +kernel
theorem dJ0_indexOf_0f7a4_6 : decode cJ0_indexOf_0f7a4 6 = .ok (.ireturn, 1) := by decide +kernel
theorem dJ0_indexOf_7cf53_0 : decode cJ0_indexOf_7cf53 0 = .ok (.aload_n 0, 1) := by decide +kernel
theorem dJ0_indexOf_7cf53_1 : decode cJ0_indexOf_7cf53 1 = .ok (.invokevirtual 492, 3) := by decide +kernel
theorem dJ0_indexOf_7cf53_4 : decode cJ0_indexOf_7cf53 4 = .ok (.ifCond .eq 19, 3) := by decide +kernel
theorem dJ0_indexOf_7cf53_7 : decode cJ0_indexOf_7cf53 7 = .ok (.aload_n 0, 1) := by decide +kernel
theorem dJ0_indexOf_7cf53_8 : decode cJ0_indexOf_7cf53 8 = .ok (.getfield 9, 3) := by decide +kernel
theorem dJ0_indexOf_7cf53_11 : decode cJ0_indexOf_7cf53 11 = .ok (.iload_n 1, 1) := by decide +kernel
theorem dJ0_indexOf_7cf53_12 : decode cJ0_indexOf_7cf53 12 = .ok (.iload_n 2, 1) := by decide +kernel
theorem dJ0_indexOf_7cf53_13 : decode cJ0_indexOf_7cf53 13 = .ok (.aload_n 0, 1) := by decide +kernel
theorem dJ0_indexOf_7cf53_14 : decode cJ0_indexOf_7cf53 14 = .ok (.invokevirtual 505, 3) := by decide +kernel
theorem dJ0_indexOf_7cf53_17 : decode cJ0_indexOf_7cf53 17 = .ok (.invokestatic 637, 3) := by decide +kernel
theorem dJ0_indexOf_7cf53_20 : decode cJ0_indexOf_7cf53 20 = .ok (.goto 16, 3) := by decide +kernel
theorem dJ0_indexOf_7cf53_23 : decode cJ0_indexOf_7cf53 23 = .ok (.aload_n 0, 1) := by decide +kernel
theorem dJ0_indexOf_7cf53_24 : decode cJ0_indexOf_7cf53 24 = .ok (.getfield 9, 3) := by decide +kernel
theorem dJ0_indexOf_7cf53_27 : decode cJ0_indexOf_7cf53 27 = .ok (.iload_n 1, 1) := by decide +kernel
theorem dJ0_indexOf_7cf53_28 : decode cJ0_indexOf_7cf53 28 = .ok (.iload_n 2, 1) := by decide +kernel
theorem dJ0_indexOf_7cf53_29 : decode cJ0_indexOf_7cf53 29 = .ok (.aload_n 0, 1) := by decide +kernel
theorem dJ0_indexOf_7cf53_30 : decode cJ0_indexOf_7cf53 30 = .ok (.invokevirtual 505, 3) := by decide +kernel
theorem dJ0_indexOf_7cf53_33 : decode cJ0_indexOf_7cf53 33 = .ok (.invokestatic 640, 3) := by decide +kernel
theorem dJ0_indexOf_7cf53_36 : decode cJ0_indexOf_7cf53 36 = .ok (.ireturn, 1) := by decide +kernel
theorem dJ0_coder_7d493_0 : decode cJ0_coder_7d493 0 = .ok (.getstatic 38, 3) := by decide +kernel
theorem dJ0_coder_7d493_3 : decode cJ0_coder_7d493 3 = .ok (.ifCond .eq 10, 3) := by decide +kernel
theorem dJ0_coder_7d493_6 : decode cJ0_coder_7d493 6 = .ok (.aload_n 0, 1) := by decide +kernel
theorem dJ0_coder_7d493_7 : decode cJ0_coder_7d493 7 = .ok (.getfield 15, 3) := by decide +kernel
theorem dJ0_coder_7d493_10 : decode cJ0_coder_7d493 10 = .ok (.goto 4, 3) := by decide +kernel
theorem dJ0_coder_7d493_13 : decode cJ0_coder_7d493 13 = .ok (.iconst 1, 1) := by decide +kernel
theorem dJ0_coder_7d493_14 : decode cJ0_coder_7d493 14 = .ok (.ireturn, 1) := by decide +kernel
theorem dJ0_isLatin1_aae02_0 : decode cJ0_isLatin1_aae02 0 = .ok (.getstatic 38, 3) := by decide +kernel
theorem dJ0_isLatin1_aae02_3 : decode cJ0_isLatin1_aae02 3 = .ok (.ifCond .eq 14, 3) := by decide +kernel
theorem dJ0_isLatin1_aae02_6 : decode cJ0_isLatin1_aae02 6 = .ok (.aload_n 0, 1) := by decide +kernel
theorem dJ0_isLatin1_aae02_7 : decode cJ0_isLatin1_aae02 7 = .ok (.getfield 15, 3) := by decide +kernel
theorem dJ0_isLatin1_aae02_10 : decode cJ0_isLatin1_aae02 10 = .ok (.ifCond .ne 7, 3) := by decide +kernel
theorem dJ0_isLatin1_aae02_13 : decode cJ0_isLatin1_aae02 13 = .ok (.iconst 1, 1) := by decide +kernel
theorem dJ0_isLatin1_aae02_14 : decode cJ0_isLatin1_aae02 14 = .ok (.goto 4, 3) := by decide +kernel
theorem dJ0_isLatin1_aae02_17 : decode cJ0_isLatin1_aae02 17 = .ok (.iconst 0, 1) := by decide +kernel
theorem dJ0_isLatin1_aae02_18 : decode cJ0_isLatin1_aae02 18 = .ok (.ireturn, 1) := by decide +kernel
theorem dJ0_checkIndex_df160_0 : decode cJ0_checkIndex_df160 0 = .ok (.iload_n 0, 1) := by decide +kernel
theorem dJ0_checkIndex_df160_1 : decode cJ0_checkIndex_df160 1 = .ok (.iload_n 1, 1) := by decide +kernel
theorem dJ0_checkIndex_df160_2 : decode cJ0_checkIndex_df160 2 = .ok (.getstatic 1053, 3) := by decide +kernel
theorem dJ0_checkIndex_df160_5 : decode cJ0_checkIndex_df160 5 = .ok (.invokestatic 1059, 3) := by decide +kernel
theorem dJ0_checkIndex_df160_8 : decode cJ0_checkIndex_df160 8 = .ok (.pop, 1) := by decide +kernel
theorem dJ0_checkIndex_df160_9 : decode cJ0_checkIndex_df160 9 = .ok (.return_, 1) := by decide +kernel
theorem dJ0_checkBoundsBeginEnd_23922_0 : decode cJ0_checkBoundsBeginEnd_23922 0 = .ok (.iload_n 0, 1) := by decide +kernel
theorem dJ0_checkBoundsBeginEnd_23922_1 : decode cJ0_checkBoundsBeginEnd_23922 1 = .ok (.iload_n 1, 1) := by decide +kernel
theorem dJ0_checkBoundsBeginEnd_23922_2 : decode cJ0_checkBoundsBeginEnd_23922 2 = .ok (.iload_n 2, 1) := by decide +kernel
theorem dJ0_checkBoundsBeginEnd_23922_3 : decode cJ0_checkBoundsBeginEnd_23922 3 = .ok (.getstatic 1053, 3) := by decide +kernel
theorem dJ0_checkBoundsBeginEnd_23922_6 : decode cJ0_checkBoundsBeginEnd_23922 6 = .ok (.invokestatic 1062, 3) := by decide +kernel
theorem dJ0_checkBoundsBeginEnd_23922_9 : decode cJ0_checkBoundsBeginEnd_23922 9 = .ok (.pop, 1) := by decide +kernel
theorem dJ0_checkBoundsBeginEnd_23922_10 : decode cJ0_checkBoundsBeginEnd_23922 10 = .ok (.return_, 1) := by decide +kernel
theorem dJ1_charAt_3b067_0 : decode cJ1_charAt_3b067 0 = .ok (.iload_n 1, 1) := by decide +kernel
theorem dJ1_charAt_3b067_1 : decode cJ1_charAt_3b067 1 = .ok (.aload_n 0, 1) := by decide +kernel
theorem dJ1_charAt_3b067_2 : decode cJ1_charAt_3b067 2 = .ok (.arraylength, 1) := by decide +kernel
theorem dJ1_charAt_3b067_3 : decode cJ1_charAt_3b067 3 = .ok (.invokestatic 9, 3) := by decide +kernel
theorem dJ1_charAt_3b067_6 : decode cJ1_charAt_3b067 6 = .ok (.aload_n 0, 1) := by decide +kernel
theorem dJ1_charAt_3b067_7 : decode cJ1_charAt_3b067 7 = .ok (.iload_n 1, 1) := by decide +kernel
theorem dJ1_charAt_3b067_8 : decode cJ1_charAt_3b067 8 = .ok (.baload, 1) := by decide +kernel
theorem dJ1_charAt_3b067_9 : decode cJ1_charAt_3b067 9 = .ok (.sipush 255, 3) := by decide +kernel
theorem dJ1_charAt_3b067_12 : decode cJ1_charAt_3b067 12 = .ok (.iand, 1) := by decide +kernel
theorem dJ1_charAt_3b067_13 : decode cJ1_charAt_3b067 13 = .ok (.i2c, 1) := by decide +kernel
theorem dJ1_charAt_3b067_14 : decode cJ1_charAt_3b067 14 = .ok (.ireturn, 1) := by decide +kernel
theorem dJ1_canEncode_9a6ad_0 : decode cJ1_canEncode_9a6ad 0 = .ok (.iload_n 0, 1) := by decide +kernel
theorem dJ1_canEncode_9a6ad_1 : decode cJ1_canEncode_9a6ad 1 = .ok (.ifCond .lt 14, 3) := by decide +kernel
theorem dJ1_canEncode_9a6ad_4 : decode cJ1_canEncode_9a6ad 4 = .ok (.iload_n 0, 1) := by decide +kernel
theorem dJ1_canEncode_9a6ad_5 : decode cJ1_canEncode_9a6ad 5 = .ok (.sipush 255, 3) := by decide +kernel
theorem dJ1_canEncode_9a6ad_8 : decode cJ1_canEncode_9a6ad 8 = .ok (.if_icmp .gt 7, 3) := by decide +kernel
theorem dJ1_canEncode_9a6ad_11 : decode cJ1_canEncode_9a6ad 11 = .ok (.iconst 1, 1) := by decide +kernel
theorem dJ1_canEncode_9a6ad_12 : decode cJ1_canEncode_9a6ad 12 = .ok (.goto 4, 3) := by decide +kernel
theorem dJ1_canEncode_9a6ad_15 : decode cJ1_canEncode_9a6ad 15 = .ok (.iconst 0, 1) := by decide +kernel
theorem dJ1_canEncode_9a6ad_16 : decode cJ1_canEncode_9a6ad 16 = .ok (.ireturn, 1) := by decide +kernel
theorem dJ1_indexOf_4cfef_0 : decode cJ1_indexOf_4cfef 0 = .ok (.iload_n 1, 1) := by decide +kernel
theorem dJ1_indexOf_4cfef_1 : decode cJ1_indexOf_4cfef 1 = .ok (.invokestatic 88, 3) := by decide +kernel
theorem dJ1_indexOf_4cfef_4 : decode cJ1_indexOf_4cfef 4 = .ok (.ifCond .ne 5, 3) := by decide +kernel
theorem dJ1_indexOf_4cfef_7 : decode cJ1_indexOf_4cfef 7 = .ok (.iconst (-1), 1) := by decide +kernel
theorem dJ1_indexOf_4cfef_8 : decode cJ1_indexOf_4cfef 8 = .ok (.ireturn, 1) := by decide +kernel
theorem dJ1_indexOf_4cfef_9 : decode cJ1_indexOf_4cfef 9 = .ok (.iload_n 2, 1) := by decide +kernel
theorem dJ1_indexOf_4cfef_10 : decode cJ1_indexOf_4cfef 10 = .ok (.iconst 0, 1) := by decide +kernel
theorem dJ1_indexOf_4cfef_11 : decode cJ1_indexOf_4cfef 11 = .ok (.invokestatic 92, 3) := by decide +kernel
theorem dJ1_indexOf_4cfef_14 : decode cJ1_indexOf_4cfef 14 = .ok (.istore_n 2, 1) := by decide +kernel
theorem dJ1_indexOf_4cfef_15 : decode cJ1_indexOf_4cfef 15 = .ok (.iload_n 3, 1) := by decide +kernel
theorem dJ1_indexOf_4cfef_16 : decode cJ1_indexOf_4cfef 16 = .ok (.aload_n 0, 1) := by decide +kernel
theorem dJ1_indexOf_4cfef_17 : decode cJ1_indexOf_4cfef 17 = .ok (.arraylength, 1) := by decide +kernel
theorem dJ1_indexOf_4cfef_18 : decode cJ1_indexOf_4cfef 18 = .ok (.invokestatic 38, 3) := by decide +kernel
theorem dJ1_indexOf_4cfef_21 : decode cJ1_indexOf_4cfef 21 = .ok (.istore_n 3, 1) := by decide +kernel
theorem dJ1_indexOf_4cfef_22 : decode cJ1_indexOf_4cfef 22 = .ok (.iload_n 2, 1) := by decide +kernel
theorem dJ1_indexOf_4cfef_23 : decode cJ1_indexOf_4cfef 23 = .ok (.iload_n 3, 1) := by decide +kernel
theorem dJ1_indexOf_4cfef_24 : decode cJ1_indexOf_4cfef 24 = .ok (.if_icmp .lt 5, 3) := by decide +kernel
theorem dJ1_indexOf_4cfef_27 : decode cJ1_indexOf_4cfef 27 = .ok (.iconst (-1), 1) := by decide +kernel
theorem dJ1_indexOf_4cfef_28 : decode cJ1_indexOf_4cfef 28 = .ok (.ireturn, 1) := by decide +kernel
theorem dJ1_indexOf_4cfef_29 : decode cJ1_indexOf_4cfef 29 = .ok (.aload_n 0, 1) := by decide +kernel
theorem dJ1_indexOf_4cfef_30 : decode cJ1_indexOf_4cfef 30 = .ok (.iload_n 1, 1) := by decide +kernel
theorem dJ1_indexOf_4cfef_31 : decode cJ1_indexOf_4cfef 31 = .ok (.iload_n 2, 1) := by decide +kernel
theorem dJ1_indexOf_4cfef_32 : decode cJ1_indexOf_4cfef 32 = .ok (.iload_n 3, 1) := by decide +kernel
theorem dJ1_indexOf_4cfef_33 : decode cJ1_indexOf_4cfef 33 = .ok (.invokestatic 95, 3) := by decide +kernel
theorem dJ1_indexOf_4cfef_36 : decode cJ1_indexOf_4cfef 36 = .ok (.ireturn, 1) := by decide +kernel
theorem dJ1_indexOfChar_4cfef_0 : decode cJ1_indexOfChar_4cfef 0 = .ok (.iload_n 1, 1) := by decide +kernel
theorem dJ1_indexOfChar_4cfef_1 : decode cJ1_indexOfChar_4cfef 1 = .ok (.i2b, 1) := by decide +kernel
theorem dJ1_indexOfChar_4cfef_2 : decode cJ1_indexOfChar_4cfef 2 = .ok (.istore 4, 2) := by decide +kernel
theorem dJ1_indexOfChar_4cfef_4 : decode cJ1_indexOfChar_4cfef 4 = .ok (.iload_n 2, 1) := by decide +kernel
theorem dJ1_indexOfChar_4cfef_5 : decode cJ1_indexOfChar_4cfef 5 = .ok (.istore 5, 2) := by decide +kernel
theorem dJ1_indexOfChar_4cfef_7 : decode cJ1_indexOfChar_4cfef 7 = .ok (.iload 5, 2) := by decide +kernel
theorem dJ1_indexOfChar_4cfef_9 : decode cJ1_indexOfChar_4cfef 9 = .ok (.iload_n 3, 1) := by decide +kernel
theorem dJ1_indexOfChar_4cfef_10 : decode cJ1_indexOfChar_4cfef 10 = .ok (.if_icmp .ge 21, 3) := by decide +kernel
theorem dJ1_indexOfChar_4cfef_13 : decode cJ1_indexOfChar_4cfef 13 = .ok (.aload_n 0, 1) := by decide +kernel
theorem dJ1_indexOfChar_4cfef_14 : decode cJ1_indexOfChar_4cfef 14 = .ok (.iload 5, 2) := by decide +kernel
theorem dJ1_indexOfChar_4cfef_16 : decode cJ1_indexOfChar_4cfef 16 = .ok (.baload, 1) := by decide +kernel
theorem dJ1_indexOfChar_4cfef_17 : decode cJ1_indexOfChar_4cfef 17 = .ok (.iload 4, 2) := by decide +kernel
theorem dJ1_indexOfChar_4cfef_19 : decode cJ1_indexOfChar_4cfef 19 = .ok (.if_icmp .ne 6, 3) := by decide +kernel
theorem dJ1_indexOfChar_4cfef_22 : decode cJ1_indexOfChar_4cfef 22 = .ok (.iload 5, 2) := by decide +kernel
theorem dJ1_indexOfChar_4cfef_24 : decode cJ1_indexOfChar_4cfef 24 = .ok (.ireturn, 1) := by decide +kernel
theorem dJ1_indexOfChar_4cfef_25 : decode cJ1_indexOfChar_4cfef 25 = .ok (.iinc 5 1, 3) := by decide +kernel
theorem dJ1_indexOfChar_4cfef_28 : decode cJ1_indexOfChar_4cfef 28 = .ok (.goto (-21), 3) := by decide +kernel
theorem dJ1_indexOfChar_4cfef_31 : decode cJ1_indexOfChar_4cfef 31 = .ok (.iconst (-1), 1) := by decide +kernel
theorem dJ1_indexOfChar_4cfef_32 : decode cJ1_indexOfChar_4cfef 32 = .ok (.ireturn, 1) := by decide +kernel
theorem dJ2_getChar_3b067_0 : decode cJ2_getChar_3b067 0 = .ok (.getstatic 44, 3) := by decide +kernel
theorem dJ2_getChar_3b067_3 : decode cJ2_getChar_3b067 3 = .ok (.ifCond .ne 25, 3) := by decide +kernel
theorem dJ2_getChar_3b067_6 : decode cJ2_getChar_3b067 6 = .ok (.iload_n 1, 1) := by decide +kernel
theorem dJ2_getChar_3b067_7 : decode cJ2_getChar_3b067 7 = .ok (.ifCond .lt 11, 3) := by decide +kernel
theorem dJ2_getChar_3b067_10 : decode cJ2_getChar_3b067 10 = .ok (.iload_n 1, 1) := by decide +kernel
theorem dJ2_getChar_3b067_11 : decode cJ2_getChar_3b067 11 = .ok (.aload_n 0, 1) := by decide +kernel
theorem dJ2_getChar_3b067_12 : decode cJ2_getChar_3b067 12 = .ok (.invokestatic 48, 3) := by decide +kernel
theorem dJ2_getChar_3b067_15 : decode cJ2_getChar_3b067 15 = .ok (.if_icmp .lt 13, 3) := by decide +kernel
theorem dJ2_getChar_3b067_18 : decode cJ2_getChar_3b067 18 = .ok (.new 52, 3) := by decide +kernel
theorem dJ2_getChar_3b067_21 : decode cJ2_getChar_3b067 21 = .ok (.dup, 1) := by decide +kernel
theorem dJ2_getChar_3b067_22 : decode cJ2_getChar_3b067 22 = .ok (.ldc 54, 2) := by decide +kernel
theorem dJ2_getChar_3b067_24 : decode cJ2_getChar_3b067 24 = .ok (.invokespecial 56, 3) := by decide +kernel
theorem dJ2_getChar_3b067_27 : decode cJ2_getChar_3b067 27 = .ok (.athrow, 1) := by decide +kernel
theorem dJ2_getChar_3b067_28 : decode cJ2_getChar_3b067 28 = .ok (.iload_n 1, 1) := by decide +kernel
theorem dJ2_getChar_3b067_29 : decode cJ2_getChar_3b067 29 = .ok (.iconst 1, 1) := by decide +kernel
theorem dJ2_getChar_3b067_30 : decode cJ2_getChar_3b067 30 = .ok (.ishl, 1) := by decide +kernel
theorem dJ2_getChar_3b067_31 : decode cJ2_getChar_3b067 31 = .ok (.istore_n 1, 1) := by decide +kernel
theorem dJ2_getChar_3b067_32 : decode cJ2_getChar_3b067 32 = .ok (.aload_n 0, 1) := by decide +kernel
theorem dJ2_getChar_3b067_33 : decode cJ2_getChar_3b067 33 = .ok (.iload_n 1, 1) := by decide +kernel
theorem dJ2_getChar_3b067_34 : decode cJ2_getChar_3b067 34 = .ok (.iinc 1 1, 3) := by decide +kernel
theorem dJ2_getChar_3b067_37 : decode cJ2_getChar_3b067 37 = .ok (.baload, 1) := by decide +kernel
theorem dJ2_getChar_3b067_38 : decode cJ2_getChar_3b067 38 = .ok (.sipush 255, 3) := by decide +kernel
theorem dJ2_getChar_3b067_41 : decode cJ2_getChar_3b067 41 = .ok (.iand, 1) := by decide +kernel
theorem dJ2_getChar_3b067_42 : decode cJ2_getChar_3b067 42 = .ok (.getstatic 59, 3) := by decide +kernel
theorem dJ2_getChar_3b067_45 : decode cJ2_getChar_3b067 45 = .ok (.ishl, 1) := by decide +kernel
theorem dJ2_getChar_3b067_46 : decode cJ2_getChar_3b067 46 = .ok (.aload_n 0, 1) := by decide +kernel
theorem dJ2_getChar_3b067_47 : decode cJ2_getChar_3b067 47 = .ok (.iload_n 1, 1) := by decide +kernel
theorem dJ2_getChar_3b067_48 : decode cJ2_getChar_3b067 48 = .ok (.baload, 1) := by decide +kernel
theorem dJ2_getChar_3b067_49 : decode cJ2_getChar_3b067 49 = .ok (.sipush 255, 3) := by decide +kernel
theorem dJ2_getChar_3b067_52 : decode cJ2_getChar_3b067 52 = .ok (.iand, 1) := by decide +kernel
theorem dJ2_getChar_3b067_53 : decode cJ2_getChar_3b067 53 = .ok (.getstatic 63, 3) := by decide +kernel
theorem dJ2_getChar_3b067_56 : decode cJ2_getChar_3b067 56 = .ok (.ishl, 1) := by decide +kernel
theorem dJ2_getChar_3b067_57 : decode cJ2_getChar_3b067 57 = .ok (.ior, 1) := by decide +kernel
theorem dJ2_getChar_3b067_58 : decode cJ2_getChar_3b067 58 = .ok (.i2c, 1) := by decide +kernel
theorem dJ2_getChar_3b067_59 : decode cJ2_getChar_3b067 59 = .ok (.ireturn, 1) := by decide +kernel
theorem dJ2_length_9d52b_0 : decode cJ2_length_9d52b 0 = .ok (.aload_n 0, 1) := by decide +kernel
theorem dJ2_length_9d52b_1 : decode cJ2_length_9d52b 1 = .ok (.arraylength, 1) := by decide +kernel
theorem dJ2_length_9d52b_2 : decode cJ2_length_9d52b 2 = .ok (.iconst 1, 1) := by decide +kernel
theorem dJ2_length_9d52b_3 : decode cJ2_length_9d52b 3 = .ok (.ishr, 1) := by decide +kernel
theorem dJ2_length_9d52b_4 : decode cJ2_length_9d52b 4 = .ok (.ireturn, 1) := by decide +kernel
theorem dJ2_indexOf_4cfef_0 : decode cJ2_indexOf_4cfef 0 = .ok (.iload_n 2, 1) := by decide +kernel
theorem dJ2_indexOf_4cfef_1 : decode cJ2_indexOf_4cfef 1 = .ok (.iconst 0, 1) := by decide +kernel
theorem dJ2_indexOf_4cfef_2 : decode cJ2_indexOf_4cfef 2 = .ok (.invokestatic 224, 3) := by decide +kernel
theorem dJ2_indexOf_4cfef_5 : decode cJ2_indexOf_4cfef 5 = .ok (.istore_n 2, 1) := by decide +kernel
theorem dJ2_indexOf_4cfef_6 : decode cJ2_indexOf_4cfef 6 = .ok (.iload_n 3, 1) := by decide +kernel
theorem dJ2_indexOf_4cfef_7 : decode cJ2_indexOf_4cfef 7 = .ok (.aload_n 0, 1) := by decide +kernel
theorem dJ2_indexOf_4cfef_8 : decode cJ2_indexOf_4cfef 8 = .ok (.arraylength, 1) := by decide +kernel
theorem dJ2_indexOf_4cfef_9 : decode cJ2_indexOf_4cfef 9 = .ok (.iconst 1, 1) := by decide +kernel
theorem dJ2_indexOf_4cfef_10 : decode cJ2_indexOf_4cfef 10 = .ok (.ishr, 1) := by decide +kernel
theorem dJ2_indexOf_4cfef_11 : decode cJ2_indexOf_4cfef 11 = .ok (.invokestatic 183, 3) := by decide +kernel
theorem dJ2_indexOf_4cfef_14 : decode cJ2_indexOf_4cfef 14 = .ok (.istore_n 3, 1) := by decide +kernel
theorem dJ2_indexOf_4cfef_15 : decode cJ2_indexOf_4cfef 15 = .ok (.iload_n 2, 1) := by decide +kernel
theorem dJ2_indexOf_4cfef_16 : decode cJ2_indexOf_4cfef 16 = .ok (.iload_n 3, 1) := by decide +kernel
theorem dJ2_indexOf_4cfef_17 : decode cJ2_indexOf_4cfef 17 = .ok (.if_icmp .lt 5, 3) := by decide +kernel
theorem dJ2_indexOf_4cfef_20 : decode cJ2_indexOf_4cfef 20 = .ok (.iconst (-1), 1) := by decide +kernel
theorem dJ2_indexOf_4cfef_21 : decode cJ2_indexOf_4cfef 21 = .ok (.ireturn, 1) := by decide +kernel
theorem dJ2_indexOf_4cfef_22 : decode cJ2_indexOf_4cfef 22 = .ok (.iload_n 1, 1) := by decide +kernel
theorem dJ2_indexOf_4cfef_23 : decode cJ2_indexOf_4cfef 23 = .ok (.ldc 227, 2) := by decide +kernel
theorem dJ2_indexOf_4cfef_25 : decode cJ2_indexOf_4cfef 25 = .ok (.if_icmp .ge 11, 3) := by decide +kernel
theorem dJ2_indexOf_4cfef_28 : decode cJ2_indexOf_4cfef 28 = .ok (.aload_n 0, 1) := by decide +kernel
theorem dJ2_indexOf_4cfef_29 : decode cJ2_indexOf_4cfef 29 = .ok (.iload_n 1, 1) := by decide +kernel
theorem dJ2_indexOf_4cfef_30 : decode cJ2_indexOf_4cfef 30 = .ok (.iload_n 2, 1) := by decide +kernel
theorem dJ2_indexOf_4cfef_31 : decode cJ2_indexOf_4cfef 31 = .ok (.iload_n 3, 1) := by decide +kernel
theorem dJ2_indexOf_4cfef_32 : decode cJ2_indexOf_4cfef 32 = .ok (.invokestatic 228, 3) := by decide +kernel
theorem dJ2_indexOf_4cfef_35 : decode cJ2_indexOf_4cfef 35 = .ok (.ireturn, 1) := by decide +kernel
theorem dJ2_indexOf_4cfef_36 : decode cJ2_indexOf_4cfef 36 = .ok (.aload_n 0, 1) := by decide +kernel
theorem dJ2_indexOf_4cfef_37 : decode cJ2_indexOf_4cfef 37 = .ok (.iload_n 1, 1) := by decide +kernel
theorem dJ2_indexOf_4cfef_38 : decode cJ2_indexOf_4cfef 38 = .ok (.iload_n 2, 1) := by decide +kernel
theorem dJ2_indexOf_4cfef_39 : decode cJ2_indexOf_4cfef 39 = .ok (.iload_n 3, 1) := by decide +kernel
theorem dJ2_indexOf_4cfef_40 : decode cJ2_indexOf_4cfef 40 = .ok (.invokestatic 232, 3) := by decide +kernel
theorem dJ2_indexOf_4cfef_43 : decode cJ2_indexOf_4cfef 43 = .ok (.ireturn, 1) := by decide +kernel
theorem dJ2_indexOfChar_4cfef_0 : decode cJ2_indexOfChar_4cfef 0 = .ok (.iload_n 2, 1) := by decide +kernel
theorem dJ2_indexOfChar_4cfef_1 : decode cJ2_indexOfChar_4cfef 1 = .ok (.iload_n 3, 1) := by decide +kernel
theorem dJ2_indexOfChar_4cfef_2 : decode cJ2_indexOfChar_4cfef 2 = .ok (.aload_n 0, 1) := by decide +kernel
theorem dJ2_indexOfChar_4cfef_3 : decode cJ2_indexOfChar_4cfef 3 = .ok (.invokestatic 96, 3) := by decide +kernel
theorem dJ2_indexOfChar_4cfef_6 : decode cJ2_indexOfChar_4cfef 6 = .ok (.aload_n 0, 1) := by decide +kernel
theorem dJ2_indexOfChar_4cfef_7 : decode cJ2_indexOfChar_4cfef 7 = .ok (.iload_n 1, 1) := by decide +kernel
theorem dJ2_indexOfChar_4cfef_8 : decode cJ2_indexOfChar_4cfef 8 = .ok (.iload_n 2, 1) := by decide +kernel
theorem dJ2_indexOfChar_4cfef_9 : decode cJ2_indexOfChar_4cfef 9 = .ok (.iload_n 3, 1) := by decide +kernel
theorem dJ2_indexOfChar_4cfef_10 : decode cJ2_indexOfChar_4cfef 10 = .ok (.invokestatic 244, 3) := by decide +kernel
theorem dJ2_indexOfChar_4cfef_13 : decode cJ2_indexOfChar_4cfef 13 = .ok (.ireturn, 1) := by decide +kernel
theorem dJ2_indexOfCharUnsafe_4cfef_0 : decode cJ2_indexOfCharUnsafe_4cfef 0 = .ok (.iload_n 2, 1) := by decide +kernel
theorem dJ2_indexOfCharUnsafe_4cfef_1 : decode cJ2_indexOfCharUnsafe_4cfef 1 = .ok (.istore 4, 2) := by decide +kernel
theorem dJ2_indexOfCharUnsafe_4cfef_3 : decode cJ2_indexOfCharUnsafe_4cfef 3 = .ok (.iload 4, 2) := by decide +kernel
theorem dJ2_indexOfCharUnsafe_4cfef_5 : decode cJ2_indexOfCharUnsafe_4cfef 5 = .ok (.iload_n 3, 1) := by decide +kernel
theorem dJ2_indexOfCharUnsafe_4cfef_6 : decode cJ2_indexOfCharUnsafe_4cfef 6 = .ok (.if_icmp .ge 22, 3) := by decide +kernel
theorem dJ2_indexOfCharUnsafe_4cfef_9 : decode cJ2_indexOfCharUnsafe_4cfef 9 = .ok (.aload_n 0, 1) := by decide +kernel
theorem dJ2_indexOfCharUnsafe_4cfef_10 : decode cJ2_indexOfCharUnsafe_4cfef 10 = .ok (.iload 4, 2) := by decide +kernel
theorem dJ2_indexOfCharUnsafe_4cfef_12 : decode cJ2_indexOfCharUnsafe_4cfef 12 = .ok (.invokestatic 71, 3) := by decide +kernel
theorem dJ2_indexOfCharUnsafe_4cfef_15 : decode cJ2_indexOfCharUnsafe_4cfef 15 = .ok (.iload_n 1, 1) := by decide +kernel
theorem dJ2_indexOfCharUnsafe_4cfef_16 : decode cJ2_indexOfCharUnsafe_4cfef 16 = .ok (.if_icmp .ne 6, 3) := by decide +kernel
theorem dJ2_indexOfCharUnsafe_4cfef_19 : decode cJ2_indexOfCharUnsafe_4cfef 19 = .ok (.iload 4, 2) := by decide +kernel
theorem dJ2_indexOfCharUnsafe_4cfef_21 : decode cJ2_indexOfCharUnsafe_4cfef 21 = .ok (.ireturn, 1) := by decide +kernel
theorem dJ2_indexOfCharUnsafe_4cfef_22 : decode cJ2_indexOfCharUnsafe_4cfef 22 = .ok (.iinc 4 1, 3) := by decide +kernel
theorem dJ2_indexOfCharUnsafe_4cfef_25 : decode cJ2_indexOfCharUnsafe_4cfef 25 = .ok (.goto (-22), 3) := by decide +kernel
theorem dJ2_indexOfCharUnsafe_4cfef_28 : decode cJ2_indexOfCharUnsafe_4cfef 28 = .ok (.iconst (-1), 1) := by decide +kernel
theorem dJ2_indexOfCharUnsafe_4cfef_29 : decode cJ2_indexOfCharUnsafe_4cfef 29 = .ok (.ireturn, 1) := by decide +kernel
theorem dJ2_indexOfSupplementary_4cfef_0 : decode cJ2_indexOfSupplementary_4cfef 0 = .ok (.iload_n 1, 1) := by decide +kernel
theorem dJ2_indexOfSupplementary_4cfef_1 : decode cJ2_indexOfSupplementary_4cfef 1 = .ok (.invokestatic 164, 3) := by decide +kernel
theorem dJ2_indexOfSupplementary_4cfef_4 : decode cJ2_indexOfSupplementary_4cfef 4 = .ok (.ifCond .eq 65, 3) := by decide +kernel
theorem dJ2_indexOfSupplementary_4cfef_7 : decode cJ2_indexOfSupplementary_4cfef 7 = .ok (.iload_n 1, 1) := by decide +kernel
theorem dJ2_indexOfSupplementary_4cfef_8 : decode cJ2_indexOfSupplementary_4cfef 8 = .ok (.invokestatic 157, 3) := by decide +kernel
theorem dJ2_indexOfSupplementary_4cfef_11 : decode cJ2_indexOfSupplementary_4cfef 11 = .ok (.istore 4, 2) := by decide +kernel
theorem dJ2_indexOfSupplementary_4cfef_13 : decode cJ2_indexOfSupplementary_4cfef 13 = .ok (.iload_n 1, 1) := by decide +kernel
theorem dJ2_indexOfSupplementary_4cfef_14 : decode cJ2_indexOfSupplementary_4cfef 14 = .ok (.invokestatic 161, 3) := by decide +kernel
theorem dJ2_indexOfSupplementary_4cfef_17 : decode cJ2_indexOfSupplementary_4cfef 17 = .ok (.istore 5, 2) := by decide +kernel
theorem dJ2_indexOfSupplementary_4cfef_19 : decode cJ2_indexOfSupplementary_4cfef 19 = .ok (.iload_n 2, 1) := by decide +kernel
theorem dJ2_indexOfSupplementary_4cfef_20 : decode cJ2_indexOfSupplementary_4cfef 20 = .ok (.iload_n 3, 1) := by decide +kernel
theorem dJ2_indexOfSupplementary_4cfef_21 : decode cJ2_indexOfSupplementary_4cfef 21 = .ok (.aload_n 0, 1) := by decide +kernel
theorem dJ2_indexOfSupplementary_4cfef_22 : decode cJ2_indexOfSupplementary_4cfef 22 = .ok (.invokestatic 96, 3) := by decide +kernel
theorem dJ2_indexOfSupplementary_4cfef_25 : decode cJ2_indexOfSupplementary_4cfef 25 = .ok (.iload_n 2, 1) := by decide +kernel
theorem dJ2_indexOfSupplementary_4cfef_26 : decode cJ2_indexOfSupplementary_4cfef 26 = .ok (.istore 6, 2) := by decide +kernel
theorem dJ2_indexOfSupplementary_4cfef_28 : decode cJ2_indexOfSupplementary_4cfef 28 = .ok (.iload 6, 2) := by decide +kernel
theorem dJ2_indexOfSupplementary_4cfef_30 : decode cJ2_indexOfSupplementary_4cfef 30 = .ok (.iload_n 3, 1) := by decide +kernel
theorem dJ2_indexOfSupplementary_4cfef_31 : decode cJ2_indexOfSupplementary_4cfef 31 = .ok (.iconst 1, 1) := by decide +kernel
theorem dJ2_indexOfSupplementary_4cfef_32 : decode cJ2_indexOfSupplementary_4cfef 32 = .ok (.isub, 1) := by decide +kernel
theorem dJ2_indexOfSupplementary_4cfef_33 : decode cJ2_indexOfSupplementary_4cfef 33 = .ok (.if_icmp .ge 36, 3) := by decide +kernel
theorem dJ2_indexOfSupplementary_4cfef_36 : decode cJ2_indexOfSupplementary_4cfef 36 = .ok (.aload_n 0, 1) := by decide +kernel
theorem dJ2_indexOfSupplementary_4cfef_37 : decode cJ2_indexOfSupplementary_4cfef 37 = .ok (.iload 6, 2) := by decide +kernel
theorem dJ2_indexOfSupplementary_4cfef_39 : decode cJ2_indexOfSupplementary_4cfef 39 = .ok (.invokestatic 71, 3) := by decide +kernel
theorem dJ2_indexOfSupplementary_4cfef_42 : decode cJ2_indexOfSupplementary_4cfef 42 = .ok (.iload 4, 2) := by decide +kernel
theorem dJ2_indexOfSupplementary_4cfef_44 : decode cJ2_indexOfSupplementary_4cfef 44 = .ok (.if_icmp .ne 19, 3) := by decide +kernel
theorem dJ2_indexOfSupplementary_4cfef_47 : decode cJ2_indexOfSupplementary_4cfef 47 = .ok (.aload_n 0, 1) := by decide +kernel
theorem dJ2_indexOfSupplementary_4cfef_48 : decode cJ2_indexOfSupplementary_4cfef 48 = .ok (.iload 6, 2) := by decide +kernel
theorem dJ2_indexOfSupplementary_4cfef_50 : decode cJ2_indexOfSupplementary_4cfef 50 = .ok (.iconst 1, 1) := by decide +kernel
theorem dJ2_indexOfSupplementary_4cfef_51 : decode cJ2_indexOfSupplementary_4cfef 51 = .ok (.iadd, 1) := by decide +kernel
theorem dJ2_indexOfSupplementary_4cfef_52 : decode cJ2_indexOfSupplementary_4cfef 52 = .ok (.invokestatic 71, 3) := by decide +kernel
theorem dJ2_indexOfSupplementary_4cfef_55 : decode cJ2_indexOfSupplementary_4cfef 55 = .ok (.iload 5, 2) := by decide +kernel
theorem dJ2_indexOfSupplementary_4cfef_57 : decode cJ2_indexOfSupplementary_4cfef 57 = .ok (.if_icmp .ne 6, 3) := by decide +kernel
theorem dJ2_indexOfSupplementary_4cfef_60 : decode cJ2_indexOfSupplementary_4cfef 60 = .ok (.iload 6, 2) := by decide +kernel
theorem dJ2_indexOfSupplementary_4cfef_62 : decode cJ2_indexOfSupplementary_4cfef 62 = .ok (.ireturn, 1) := by decide +kernel
theorem dJ2_indexOfSupplementary_4cfef_63 : decode cJ2_indexOfSupplementary_4cfef 63 = .ok (.iinc 6 1, 3) := by decide +kernel
theorem dJ2_indexOfSupplementary_4cfef_66 : decode cJ2_indexOfSupplementary_4cfef 66 = .ok (.goto (-38), 3) := by decide +kernel
theorem dJ2_indexOfSupplementary_4cfef_69 : decode cJ2_indexOfSupplementary_4cfef 69 = .ok (.iconst (-1), 1) := by decide +kernel
theorem dJ2_indexOfSupplementary_4cfef_70 : decode cJ2_indexOfSupplementary_4cfef 70 = .ok (.ireturn, 1) := by decide +kernel
theorem dJ2_charAt_3b067_0 : decode cJ2_charAt_3b067 0 = .ok (.iload_n 1, 1) := by decide +kernel
theorem dJ2_charAt_3b067_1 : decode cJ2_charAt_3b067 1 = .ok (.aload_n 0, 1) := by decide +kernel
theorem dJ2_charAt_3b067_2 : decode cJ2_charAt_3b067 2 = .ok (.invokestatic 67, 3) := by decide +kernel
theorem dJ2_charAt_3b067_5 : decode cJ2_charAt_3b067 5 = .ok (.aload_n 0, 1) := by decide +kernel
theorem dJ2_charAt_3b067_6 : decode cJ2_charAt_3b067 6 = .ok (.iload_n 1, 1) := by decide +kernel
theorem dJ2_charAt_3b067_7 : decode cJ2_charAt_3b067 7 = .ok (.invokestatic 71, 3) := by decide +kernel
theorem dJ2_charAt_3b067_10 : decode cJ2_charAt_3b067 10 = .ok (.ireturn, 1) := by decide +kernel
theorem dJ2_checkIndex_2214a_0 : decode cJ2_checkIndex_2214a 0 = .ok (.iload_n 0, 1) := by decide +kernel
theorem dJ2_checkIndex_2214a_1 : decode cJ2_checkIndex_2214a 1 = .ok (.aload_n 1, 1) := by decide +kernel
theorem dJ2_checkIndex_2214a_2 : decode cJ2_checkIndex_2214a 2 = .ok (.invokestatic 48, 3) := by decide +kernel
theorem dJ2_checkIndex_2214a_5 : decode cJ2_checkIndex_2214a 5 = .ok (.invokestatic 414, 3) := by decide +kernel
theorem dJ2_checkIndex_2214a_8 : decode cJ2_checkIndex_2214a 8 = .ok (.return_, 1) := by decide +kernel
theorem dJ2_checkBoundsBeginEnd_d044e_0 : decode cJ2_checkBoundsBeginEnd_d044e 0 = .ok (.iload_n 0, 1) := by decide +kernel
theorem dJ2_checkBoundsBeginEnd_d044e_1 : decode cJ2_checkBoundsBeginEnd_d044e 1 = .ok (.iload_n 1, 1) := by decide +kernel
theorem dJ2_checkBoundsBeginEnd_d044e_2 : decode cJ2_checkBoundsBeginEnd_d044e 2 = .ok (.aload_n 2, 1) := by decide +kernel
theorem dJ2_checkBoundsBeginEnd_d044e_3 : decode cJ2_checkBoundsBeginEnd_d044e 3 = .ok (.invokestatic 48, 3) := by decide +kernel
theorem dJ2_checkBoundsBeginEnd_d044e_6 : decode cJ2_checkBoundsBeginEnd_d044e 6 = .ok (.invokestatic 241, 3) := by decide +kernel
theorem dJ2_checkBoundsBeginEnd_d044e_9 : decode cJ2_checkBoundsBeginEnd_d044e 9 = .ok (.return_, 1) := by decide +kernel
theorem dJ7_fill_53178_0 : decode cJ7_fill_53178 0 = .ok (.iconst 0, 1) := by decide +kernel
theorem dJ7_fill_53178_1 : decode cJ7_fill_53178 1 = .ok (.istore_n 2, 1) := by decide +kernel
theorem dJ7_fill_53178_2 : decode cJ7_fill_53178 2 = .ok (.aload_n 0, 1) := by decide +kernel
theorem dJ7_fill_53178_3 : decode cJ7_fill_53178 3 = .ok (.arraylength, 1) := by decide +kernel
theorem dJ7_fill_53178_4 : decode cJ7_fill_53178 4 = .ok (.istore_n 3, 1) := by decide +kernel
theorem dJ7_fill_53178_5 : decode cJ7_fill_53178 5 = .ok (.iload_n 2, 1) := by decide +kernel
theorem dJ7_fill_53178_6 : decode cJ7_fill_53178 6 = .ok (.iload_n 3, 1) := by decide +kernel
theorem dJ7_fill_53178_7 : decode cJ7_fill_53178 7 = .ok (.if_icmp .ge 13, 3) := by decide +kernel
theorem dJ7_fill_53178_10 : decode cJ7_fill_53178 10 = .ok (.aload_n 0, 1) := by decide +kernel
theorem dJ7_fill_53178_11 : decode cJ7_fill_53178 11 = .ok (.iload_n 2, 1) := by decide +kernel
theorem dJ7_fill_53178_12 : decode cJ7_fill_53178 12 = .ok (.iload_n 1, 1) := by decide +kernel
theorem dJ7_fill_53178_13 : decode cJ7_fill_53178 13 = .ok (.iastore, 1) := by decide +kernel
theorem dJ7_fill_53178_14 : decode cJ7_fill_53178 14 = .ok (.iinc 2 1, 3) := by decide +kernel
theorem dJ7_fill_53178_17 : decode cJ7_fill_53178 17 = .ok (.goto (-12), 3) := by decide +kernel
theorem dJ7_fill_53178_20 : decode cJ7_fill_53178 20 = .ok (.return_, 1) := by decide +kernel
theorem dJ7_copyOf_59c91_0 : decode cJ7_copyOf_59c91 0 = .ok (.iload_n 1, 1) := by decide +kernel
theorem dJ7_copyOf_59c91_1 : decode cJ7_copyOf_59c91 1 = .ok (.aload_n 0, 1) := by decide +kernel
theorem dJ7_copyOf_59c91_2 : decode cJ7_copyOf_59c91 2 = .ok (.arraylength, 1) := by decide +kernel
theorem dJ7_copyOf_59c91_3 : decode cJ7_copyOf_59c91 3 = .ok (.if_icmp .ne 11, 3) := by decide +kernel
theorem dJ7_copyOf_59c91_6 : decode cJ7_copyOf_59c91 6 = .ok (.aload_n 0, 1) := by decide +kernel
theorem dJ7_copyOf_59c91_7 : decode cJ7_copyOf_59c91 7 = .ok (.invokevirtual 316, 3) := by decide +kernel
theorem dJ7_copyOf_59c91_10 : decode cJ7_copyOf_59c91 10 = .ok (.checkcast 317, 3) := by decide +kernel
theorem dJ7_copyOf_59c91_13 : decode cJ7_copyOf_59c91 13 = .ok (.areturn, 1) := by decide +kernel
theorem dJ7_copyOf_59c91_14 : decode cJ7_copyOf_59c91 14 = .ok (.iload_n 1, 1) := by decide +kernel
theorem dJ7_copyOf_59c91_15 : decode cJ7_copyOf_59c91 15 = .ok (.newarray .int, 2) := by decide +kernel
theorem dJ7_copyOf_59c91_17 : decode cJ7_copyOf_59c91 17 = .ok (.astore_n 2, 1) := by decide +kernel
theorem dJ7_copyOf_59c91_18 : decode cJ7_copyOf_59c91 18 = .ok (.aload_n 0, 1) := by decide +kernel
theorem dJ7_copyOf_59c91_19 : decode cJ7_copyOf_59c91 19 = .ok (.iconst 0, 1) := by decide +kernel
theorem dJ7_copyOf_59c91_20 : decode cJ7_copyOf_59c91 20 = .ok (.aload_n 2, 1) := by decide +kernel
theorem dJ7_copyOf_59c91_21 : decode cJ7_copyOf_59c91 21 = .ok (.iconst 0, 1) := by decide +kernel
theorem dJ7_copyOf_59c91_22 : decode cJ7_copyOf_59c91 22 = .ok (.aload_n 0, 1) := by decide +kernel
theorem dJ7_copyOf_59c91_23 : decode cJ7_copyOf_59c91 23 = .ok (.arraylength, 1) := by decide +kernel
theorem dJ7_copyOf_59c91_24 : decode cJ7_copyOf_59c91 24 = .ok (.iload_n 1, 1) := by decide +kernel
theorem dJ7_copyOf_59c91_25 : decode cJ7_copyOf_59c91 25 = .ok (.invokestatic 304, 3) := by decide +kernel
theorem dJ7_copyOf_59c91_28 : decode cJ7_copyOf_59c91 28 = .ok (.invokestatic 150, 3) := by decide +kernel
theorem dJ7_copyOf_59c91_31 : decode cJ7_copyOf_59c91 31 = .ok (.aload_n 2, 1) := by decide +kernel
theorem dJ7_copyOf_59c91_32 : decode cJ7_copyOf_59c91 32 = .ok (.areturn, 1) := by decide +kernel
theorem dJ3_checkIndex_8e157_0 : decode cJ3_checkIndex_8e157 0 = .ok (.iload_n 0, 1) := by decide +kernel
theorem dJ3_checkIndex_8e157_1 : decode cJ3_checkIndex_8e157 1 = .ok (.ifCond .lt 8, 3) := by decide +kernel
theorem dJ3_checkIndex_8e157_4 : decode cJ3_checkIndex_8e157 4 = .ok (.iload_n 0, 1) := by decide +kernel
theorem dJ3_checkIndex_8e157_5 : decode cJ3_checkIndex_8e157 5 = .ok (.iload_n 1, 1) := by decide +kernel
theorem dJ3_checkIndex_8e157_6 : decode cJ3_checkIndex_8e157 6 = .ok (.if_icmp .lt 10, 3) := by decide +kernel
theorem dJ3_checkIndex_8e157_9 : decode cJ3_checkIndex_8e157 9 = .ok (.aload_n 2, 1) := by decide +kernel
theorem dJ3_checkIndex_8e157_10 : decode cJ3_checkIndex_8e157 10 = .ok (.iload_n 0, 1) := by decide +kernel
theorem dJ3_checkIndex_8e157_11 : decode cJ3_checkIndex_8e157 11 = .ok (.iload_n 1, 1) := by decide +kernel
theorem dJ3_checkIndex_8e157_12 : decode cJ3_checkIndex_8e157 12 = .ok (.invokestatic 95, 3) := by decide +kernel
theorem dJ3_checkIndex_8e157_15 : decode cJ3_checkIndex_8e157 15 = .ok (.athrow, 1) := by decide +kernel
theorem dJ3_checkIndex_8e157_16 : decode cJ3_checkIndex_8e157 16 = .ok (.iload_n 0, 1) := by decide +kernel
theorem dJ3_checkIndex_8e157_17 : decode cJ3_checkIndex_8e157 17 = .ok (.ireturn, 1) := by decide +kernel
theorem dJ3_checkFromToIndex_8c36e_0 : decode cJ3_checkFromToIndex_8c36e 0 = .ok (.iload_n 0, 1) := by decide +kernel
theorem dJ3_checkFromToIndex_8c36e_1 : decode cJ3_checkFromToIndex_8c36e 1 = .ok (.ifCond .lt 13, 3) := by decide +kernel
theorem dJ3_checkFromToIndex_8c36e_4 : decode cJ3_checkFromToIndex_8c36e 4 = .ok (.iload_n 0, 1) := by decide +kernel
theorem dJ3_checkFromToIndex_8c36e_5 : decode cJ3_checkFromToIndex_8c36e 5 = .ok (.iload_n 1, 1) := by decide +kernel
theorem dJ3_checkFromToIndex_8c36e_6 : decode cJ3_checkFromToIndex_8c36e 6 = .ok (.if_icmp .gt 8, 3) := by decide +kernel
theorem dJ3_checkFromToIndex_8c36e_9 : decode cJ3_checkFromToIndex_8c36e 9 = .ok (.iload_n 1, 1) := by decide +kernel
theorem dJ3_checkFromToIndex_8c36e_10 : decode cJ3_checkFromToIndex_8c36e 10 = .ok (.iload_n 2, 1) := by decide +kernel
theorem dJ3_checkFromToIndex_8c36e_11 : decode cJ3_checkFromToIndex_8c36e 11 = .ok (.if_icmp .le 11, 3) := by decide +kernel
theorem dJ3_checkFromToIndex_8c36e_14 : decode cJ3_checkFromToIndex_8c36e 14 = .ok (.aload_n 3, 1) := by decide +kernel
theorem dJ3_checkFromToIndex_8c36e_15 : decode cJ3_checkFromToIndex_8c36e 15 = .ok (.iload_n 0, 1) := by decide +kernel
theorem dJ3_checkFromToIndex_8c36e_16 : decode cJ3_checkFromToIndex_8c36e 16 = .ok (.iload_n 1, 1) := by decide +kernel
theorem dJ3_checkFromToIndex_8c36e_17 : decode cJ3_checkFromToIndex_8c36e 17 = .ok (.iload_n 2, 1) := by decide +kernel
theorem dJ3_checkFromToIndex_8c36e_18 : decode cJ3_checkFromToIndex_8c36e 18 = .ok (.invokestatic 99, 3) := by decide +kernel
theorem dJ3_checkFromToIndex_8c36e_21 : decode cJ3_checkFromToIndex_8c36e 21 = .ok (.athrow, 1) := by decide +kernel
theorem dJ3_checkFromToIndex_8c36e_22 : decode cJ3_checkFromToIndex_8c36e 22 = .ok (.iload_n 0, 1) := by decide +kernel
theorem dJ3_checkFromToIndex_8c36e_23 : decode cJ3_checkFromToIndex_8c36e 23 = .ok (.ireturn, 1) := by decide +kernel
