theorem dX5_guess_37 : decode cX5_guess 37 = .ok (.iload_n 2, 1) := by decide +kernel
theorem dX5_guess_38 : decode cX5_guess 38 = .ok (.invokevirtual 193, 3) := by decide +kernel
theorem dX5_guess_41 : decode cX5_guess 41 = .ok (.astore 5, 2) := by decide +kernel
theorem dX5_guess_43 : decode cX5_guess 43 = .ok (.iconst 0, 1) := by decide +kernel
theorem dX5_guess_44 : decode cX5_guess 44 = .ok (.istore 6, 2) := by decide +kernel
theorem dX5_guess_46 : decode cX5_guess 46 = .ok (.iconst 1, 1) := by decide +kernel
theorem dX5_guess_47 : decode cX5_guess 47 = .ok (.istore 7, 2) := by decide +kernel
theorem dX5_guess_49 : decode cX5_guess 49 = .ok (.iconst 1, 1) := by decide +kernel
theorem dX5_guess_50 : decode cX5_guess 50 = .ok (.istore 8, 2) := by decide +kernel
theorem dX5_guess_52 : decode cX5_guess 52 = .ok (.iload 8, 2) := by decide +kernel
theorem dX5_guess_54 : decode cX5_guess 54 = .ok (.bipush 8, 2) := by decide +kernel
theorem dX5_guess_56 : decode cX5_guess 56 = .ok (.if_icmp .ge 52, 3) := by decide +kernel
theorem dX5_guess_59 : decode cX5_guess 59 = .ok (.iload 7, 2) := by decide +kernel
theorem dX5_guess_61 : decode cX5_guess 61 = .ok (.ifCond .eq 20, 3) := by decide +kernel
theorem dX5_guess_64 : decode cX5_guess 64 = .ok (.aload 5, 2) := by decide +kernel
theorem dX5_guess_66 : decode cX5_guess 66 = .ok (.iload 8, 2) := by decide +kernel
theorem dX5_guess_68 : decode cX5_guess 68 = .ok (.laload, 1) := by decide +kernel
theorem dX5_guess_69 : decode cX5_guess 69 = .ok (.aload 5, 2) := by decide +kernel
theorem dX5_guess_71 : decode cX5_guess 71 = .ok (.iconst 0, 1) := by decide +kernel
theorem dX5_guess_72 : decode cX5_guess 72 = .ok (.laload, 1) := by decide +kernel
theorem dX5_guess_73 : decode cX5_guess 73 = .ok (.lcmp, 1) := by decide +kernel
theorem dX5_guess_74 : decode cX5_guess 74 = .ok (.ifCond .ne 7, 3) := by decide +kernel
theorem dX5_guess_77 : decode cX5_guess 77 = .ok (.iconst 1, 1) := by decide +kernel
theorem dX5_guess_78 : decode cX5_guess 78 = .ok (.goto 4, 3) := by decide +kernel
theorem dX5_guess_81 : decode cX5_guess 81 = .ok (.iconst 0, 1) := by decide +kernel
theorem dX5_guess_82 : decode cX5_guess 82 = .ok (.istore 7, 2) := by decide +kernel
theorem dX5_guess_84 : decode cX5_guess 84 = .ok (.aload 5, 2) := by decide +kernel
theorem dX5_guess_86 : decode cX5_guess 86 = .ok (.iload 8, 2) := by decide +kernel
theorem dX5_guess_88 : decode cX5_guess 88 = .ok (.laload, 1) := by decide +kernel
theorem dX5_guess_89 : decode cX5_guess 89 = .ok (.aload 5, 2) := by decide +kernel
theorem dX5_guess_91 : decode cX5_guess 91 = .ok (.iload 6, 2) := by decide +kernel
theorem dX5_guess_93 : decode cX5_guess 93 = .ok (.laload, 1) := by decide +kernel
theorem dX5_guess_94 : decode cX5_guess 94 = .ok (.lcmp, 1) := by decide +kernel
theorem dX5_guess_95 : decode cX5_guess 95 = .ok (.ifCond .le 7, 3) := by decide +kernel
theorem dX5_guess_98 : decode cX5_guess 98 = .ok (.iload 8, 2) := by decide +kernel
theorem dX5_guess_100 : decode cX5_guess 100 = .ok (.istore 6, 2) := by decide +kernel
theorem dX5_guess_102 : decode cX5_guess 102 = .ok (.iinc 8 1, 3) := by decide +kernel
theorem dX5_guess_105 : decode cX5_guess 105 = .ok (.goto (-53), 3) := by decide +kernel
theorem dX5_guess_108 : decode cX5_guess 108 = .ok (.iload_n 3, 1) := by decide +kernel
theorem dX5_guess_109 : decode cX5_guess 109 = .ok (.iconst 1, 1) := by decide +kernel
theorem dX5_guess_110 : decode cX5_guess 110 = .ok (.if_icmp .ne 14, 3) := by decide +kernel
theorem dX5_guess_113 : decode cX5_guess 113 = .ok (.iload 7, 2) := by decide +kernel
theorem dX5_guess_115 : decode cX5_guess 115 = .ok (.ifCond .eq 7, 3) := by decide +kernel
theorem dX5_guess_118 : decode cX5_guess 118 = .ok (.iconst 1, 1) := by decide +kernel
theorem dX5_guess_119 : decode cX5_guess 119 = .ok (.goto 4, 3) := by decide +kernel
theorem dX5_guess_122 : decode cX5_guess 122 = .ok (.iconst 0, 1) := by decide +kernel
theorem dX5_guess_123 : decode cX5_guess 123 = .ok (.ireturn, 1) := by decide +kernel
theorem dX5_guess_124 : decode cX5_guess 124 = .ok (.aload 5, 2) := by decide +kernel
theorem dX5_guess_126 : decode cX5_guess 126 = .ok (.iload 6, 2) := by decide +kernel
theorem dX5_guess_128 : decode cX5_guess 128 = .ok (.laload, 1) := by decide +kernel
theorem dX5_guess_129 : decode cX5_guess 129 = .ok (.lconst 0, 1) := by decide +kernel
theorem dX5_guess_130 : decode cX5_guess 130 = .ok (.lcmp, 1) := by decide +kernel
theorem dX5_guess_131 : decode cX5_guess 131 = .ok (.ifCond .ne 8, 3) := by decide +kernel
theorem dX5_guess_134 : decode cX5_guess 134 = .ok (.bipush (-6), 2) := by decide +kernel
theorem dX5_guess_136 : decode cX5_guess 136 = .ok (.goto 5, 3) := by decide +kernel
theorem dX5_guess_139 : decode cX5_guess 139 = .ok (.iload 6, 2) := by decide +kernel
theorem dX5_guess_141 : decode cX5_guess 141 = .ok (.ireturn, 1) := by decide +kernel
theorem dX5_told_0 : decode cX5_told 0 = .ok (.iload_n 1, 1) := by decide +kernel
theorem dX5_told_1 : decode cX5_told 1 = .ok (.tableswitch 120 0 12 #[67, 75, 83, 91, 99, 120, 120, 120, 120, 120, 107, 107, 107], 67) := by decide +kernel
theorem dX5_told_68 : decode cX5_told 68 = .ok (.aload_n 0, 1) := by decide +kernel
theorem dX5_told_69 : decode cX5_told 69 = .ok (.getfield 26, 3) := by decide +kernel
theorem dX5_told_72 : decode cX5_told 72 = .ok (.getfield 196, 3) := by decide +kernel
theorem dX5_told_75 : decode cX5_told 75 = .ok (.ireturn, 1) := by decide +kernel
theorem dX5_told_76 : decode cX5_told 76 = .ok (.aload_n 0, 1) := by decide +kernel
theorem dX5_told_77 : decode cX5_told 77 = .ok (.getfield 44, 3) := by decide +kernel
theorem dX5_told_80 : decode cX5_told 80 = .ok (.getfield 148, 3) := by decide +kernel
theorem dX5_told_83 : decode cX5_told 83 = .ok (.ireturn, 1) := by decide +kernel
theorem dX5_told_84 : decode cX5_told 84 = .ok (.aload_n 0, 1) := by decide +kernel
theorem dX5_told_85 : decode cX5_told 85 = .ok (.getfield 26, 3) := by decide +kernel
theorem dX5_told_88 : decode cX5_told 88 = .ok (.getfield 199, 3) := by decide +kernel
theorem dX5_told_91 : decode cX5_told 91 = .ok (.ireturn, 1) := by decide +kernel
theorem dX5_told_92 : decode cX5_told 92 = .ok (.aload_n 0, 1) := by decide +kernel
theorem dX5_told_93 : decode cX5_told 93 = .ok (.getfield 10, 3) := by decide +kernel
theorem dX5_told_96 : decode cX5_told 96 = .ok (.getfield 80, 3) := by decide +kernel
theorem dX5_told_99 : decode cX5_told 99 = .ok (.ireturn, 1) := by decide +kernel
theorem dX5_told_100 : decode cX5_told 100 = .ok (.aload_n 0, 1) := by decide +kernel
theorem dX5_told_101 : decode cX5_told 101 = .ok (.getfield 19, 3) := by decide +kernel
theorem dX5_told_104 : decode cX5_told 104 = .ok (.getfield 109, 3) := by decide +kernel
theorem dX5_told_107 : decode cX5_told 107 = .ok (.ireturn, 1) := by decide +kernel
theorem dX5_told_108 : decode cX5_told 108 = .ok (.aload_n 0, 1) := by decide +kernel
theorem dX5_told_109 : decode cX5_told 109 = .ok (.getfield 44, 3) := by decide +kernel
theorem dX5_told_112 : decode cX5_told 112 = .ok (.getfield 60, 3) := by decide +kernel
theorem dX5_told_115 : decode cX5_told 115 = .ok (.iload_n 1, 1) := by decide +kernel
theorem dX5_told_116 : decode cX5_told 116 = .ok (.bipush 10, 2) := by decide +kernel
theorem dX5_told_118 : decode cX5_told 118 = .ok (.isub, 1) := by decide +kernel
theorem dX5_told_119 : decode cX5_told 119 = .ok (.iaload, 1) := by decide +kernel
theorem dX5_told_120 : decode cX5_told 120 = .ok (.ireturn, 1) := by decide +kernel
theorem dX5_told_121 : decode cX5_told 121 = .ok (.bipush (-2), 2) := by decide +kernel
theorem dX5_told_123 : decode cX5_told 123 = .ok (.ireturn, 1) := by decide +kernel
theorem dX5_changeSlip_0 : decode cX5_changeSlip 0 = .ok (.aload_n 0, 1) := by decide +kernel
theorem dX5_changeSlip_1 : decode cX5_changeSlip 1 = .ok (.getfield 26, 3) := by decide +kernel
theorem dX5_changeSlip_4 : decode cX5_changeSlip 4 = .ok (.getfield 196, 3) := by decide +kernel
theorem dX5_changeSlip_7 : decode cX5_changeSlip 7 = .ok (.istore_n 2, 1) := by decide +kernel
theorem dX5_changeSlip_8 : decode cX5_changeSlip 8 = .ok (.aload_n 0, 1) := by decide +kernel
theorem dX5_changeSlip_9 : decode cX5_changeSlip 9 = .ok (.getfield 26, 3) := by decide +kernel
theorem dX5_changeSlip_12 : decode cX5_changeSlip 12 = .ok (.iload_n 1, 1) := by decide +kernel
theorem dX5_changeSlip_13 : decode cX5_changeSlip 13 = .ok (.putfield 196, 3) := by decide +kernel
theorem dX5_changeSlip_16 : decode cX5_changeSlip 16 = .ok (.aload_n 0, 1) := by decide +kernel
theorem dX5_changeSlip_17 : decode cX5_changeSlip 17 = .ok (.invokevirtual 100, 3) := by decide +kernel
theorem dX5_changeSlip_20 : decode cX5_changeSlip 20 = .ok (.iload_n 2, 1) := by decide +kernel
theorem dX5_changeSlip_21 : decode cX5_changeSlip 21 = .ok (.ireturn, 1) := by decide +kernel
theorem dX5_changeHears_0 : decode cX5_changeHears 0 = .ok (.aload_n 0, 1) := by decide +kernel
theorem dX5_changeHears_1 : decode cX5_changeHears 1 = .ok (.getfield 44, 3) := by decide +kernel
theorem dX5_changeHears_4 : decode cX5_changeHears 4 = .ok (.getfield 148, 3) := by decide +kernel
theorem dX5_changeHears_7 : decode cX5_changeHears 7 = .ok (.istore_n 2, 1) := by decide +kernel
theorem dX5_changeHears_8 : decode cX5_changeHears 8 = .ok (.aload_n 0, 1) := by decide +kernel
theorem dX5_changeHears_9 : decode cX5_changeHears 9 = .ok (.getfield 44, 3) := by decide +kernel
theorem dX5_changeHears_12 : decode cX5_changeHears 12 = .ok (.iload_n 1, 1) := by decide +kernel
theorem dX5_changeHears_13 : decode cX5_changeHears 13 = .ok (.putfield 148, 3) := by decide +kernel
theorem dX5_changeHears_16 : decode cX5_changeHears 16 = .ok (.aload_n 0, 1) := by decide +kernel
theorem dX5_changeHears_17 : decode cX5_changeHears 17 = .ok (.getfield 44, 3) := by decide +kernel
theorem dX5_changeHears_20 : decode cX5_changeHears 20 = .ok (.iconst 0, 1) := by decide +kernel
theorem dX5_changeHears_21 : decode cX5_changeHears 21 = .ok (.putfield 63, 3) := by decide +kernel
theorem dX5_changeHears_24 : decode cX5_changeHears 24 = .ok (.iload_n 2, 1) := by decide +kernel
theorem dX5_changeHears_25 : decode cX5_changeHears 25 = .ok (.ireturn, 1) := by decide +kernel
theorem dX5_changeLearner_0 : decode cX5_changeLearner 0 = .ok (.aload_n 0, 1) := by decide +kernel
theorem dX5_changeLearner_1 : decode cX5_changeLearner 1 = .ok (.getfield 26, 3) := by decide +kernel
theorem dX5_changeLearner_4 : decode cX5_changeLearner 4 = .ok (.getfield 199, 3) := by decide +kernel
theorem dX5_changeLearner_7 : decode cX5_changeLearner 7 = .ok (.istore_n 2, 1) := by decide +kernel
theorem dX5_changeLearner_8 : decode cX5_changeLearner 8 = .ok (.aload_n 0, 1) := by decide +kernel
theorem dX5_changeLearner_9 : decode cX5_changeLearner 9 = .ok (.getfield 26, 3) := by decide +kernel
theorem dX5_changeLearner_12 : decode cX5_changeLearner 12 = .ok (.iload_n 1, 1) := by decide +kernel
theorem dX5_changeLearner_13 : decode cX5_changeLearner 13 = .ok (.putfield 199, 3) := by decide +kernel
theorem dX5_changeLearner_16 : decode cX5_changeLearner 16 = .ok (.aload_n 0, 1) := by decide +kernel
theorem dX5_changeLearner_17 : decode cX5_changeLearner 17 = .ok (.invokevirtual 100, 3) := by decide +kernel
theorem dX5_changeLearner_20 : decode cX5_changeLearner 20 = .ok (.iload_n 2, 1) := by decide +kernel
theorem dX5_changeLearner_21 : decode cX5_changeLearner 21 = .ok (.ireturn, 1) := by decide +kernel
theorem dX5_learnerChanged_0 : decode cX5_learnerChanged 0 = .ok (.aload_n 0, 1) := by decide +kernel
theorem dX5_learnerChanged_1 : decode cX5_learnerChanged 1 = .ok (.getfield 35, 3) := by decide +kernel
theorem dX5_learnerChanged_4 : decode cX5_learnerChanged 4 = .ok (.invokevirtual 202, 3) := by decide +kernel
theorem dX5_learnerChanged_7 : decode cX5_learnerChanged 7 = .ok (.aload_n 0, 1) := by decide +kernel
theorem dX5_learnerChanged_8 : decode cX5_learnerChanged 8 = .ok (.getfield 44, 3) := by decide +kernel
theorem dX5_learnerChanged_11 : decode cX5_learnerChanged 11 = .ok (.iconst 0, 1) := by decide +kernel
theorem dX5_learnerChanged_12 : decode cX5_learnerChanged 12 = .ok (.putfield 63, 3) := by decide +kernel
theorem dX5_learnerChanged_15 : decode cX5_learnerChanged 15 = .ok (.return_, 1) := by decide +kernel
theorem dX5_findReaches_0 : decode cX5_findReaches 0 = .ok (.iconst 0, 1) := by decide +kernel
theorem dX5_findReaches_1 : decode cX5_findReaches 1 = .ok (.istore_n 1, 1) := by decide +kernel
theorem dX5_findReaches_2 : decode cX5_findReaches 2 = .ok (.iload_n 1, 1) := by decide +kernel
theorem dX5_findReaches_3 : decode cX5_findReaches 3 = .ok (.bipush 8, 2) := by decide +kernel
theorem dX5_findReaches_5 : decode cX5_findReaches 5 = .ok (.if_icmp .ge 27, 3) := by decide +kernel
theorem dX5_findReaches_8 : decode cX5_findReaches 8 = .ok (.aload_n 0, 1) := by decide +kernel
theorem dX5_findReaches_9 : decode cX5_findReaches 9 = .ok (.getfield 48, 3) := by decide +kernel
theorem dX5_findReaches_12 : decode cX5_findReaches 12 = .ok (.iload_n 1, 1) := by decide +kernel
theorem dX5_findReaches_13 : decode cX5_findReaches 13 = .ok (.iconst 1, 1) := by decide +kernel
theorem dX5_findReaches_14 : decode cX5_findReaches 14 = .ok (.iload_n 1, 1) := by decide +kernel
theorem dX5_findReaches_15 : decode cX5_findReaches 15 = .ok (.ishl, 1) := by decide +kernel
theorem dX5_findReaches_16 : decode cX5_findReaches 16 = .ok (.aload_n 0, 1) := by decide +kernel
theorem dX5_findReaches_17 : decode cX5_findReaches 17 = .ok (.getfield 44, 3) := by decide +kernel
theorem dX5_findReaches_20 : decode cX5_findReaches 20 = .ok (.iload_n 1, 1) := by decide +kernel
theorem dX5_findReaches_21 : decode cX5_findReaches 21 = .ok (.invokevirtual 205, 3) := by decide +kernel
theorem dX5_findReaches_24 : decode cX5_findReaches 24 = .ok (.ior, 1) := by decide +kernel
theorem dX5_findReaches_25 : decode cX5_findReaches 25 = .ok (.iastore, 1) := by decide +kernel
theorem dX5_findReaches_26 : decode cX5_findReaches 26 = .ok (.iinc 1 1, 3) := by decide +kernel
theorem dX5_findReaches_29 : decode cX5_findReaches 29 = .ok (.goto (-27), 3) := by decide +kernel
theorem dX5_findReaches_32 : decode cX5_findReaches 32 = .ok (.iconst 0, 1) := by decide +kernel
theorem dX5_findReaches_33 : decode cX5_findReaches 33 = .ok (.istore_n 1, 1) := by decide +kernel
theorem dX5_findReaches_34 : decode cX5_findReaches 34 = .ok (.iload_n 1, 1) := by decide +kernel
theorem dX5_findReaches_35 : decode cX5_findReaches 35 = .ok (.bipush 8, 2) := by decide +kernel
theorem dX5_findReaches_37 : decode cX5_findReaches 37 = .ok (.if_icmp .ge 51, 3) := by decide +kernel
theorem dX5_findReaches_40 : decode cX5_findReaches 40 = .ok (.iconst 0, 1) := by decide +kernel
theorem dX5_findReaches_41 : decode cX5_findReaches 41 = .ok (.istore_n 2, 1) := by decide +kernel
theorem dX5_findReaches_42 : decode cX5_findReaches 42 = .ok (.iload_n 2, 1) := by decide +kernel
theorem dX5_findReaches_43 : decode cX5_findReaches 43 = .ok (.bipush 8, 2) := by decide +kernel
theorem dX5_findReaches_45 : decode cX5_findReaches 45 = .ok (.if_icmp .ge 37, 3) := by decide +kernel
theorem dX5_findReaches_48 : decode cX5_findReaches 48 = .ok (.aload_n 0, 1) := by decide +kernel
theorem dX5_findReaches_49 : decode cX5_findReaches 49 = .ok (.getfield 48, 3) := by decide +kernel
theorem dX5_findReaches_52 : decode cX5_findReaches 52 = .ok (.iload_n 2, 1) := by decide +kernel
theorem dX5_findReaches_53 : decode cX5_findReaches 53 = .ok (.iaload, 1) := by decide +kernel
theorem dX5_findReaches_54 : decode cX5_findReaches 54 = .ok (.iload_n 1, 1) := by decide +kernel
theorem dX5_findReaches_55 : decode cX5_findReaches 55 = .ok (.invokestatic 208, 3) := by decide +kernel
theorem dX5_findReaches_58 : decode cX5_findReaches 58 = .ok (.ifCond .eq 18, 3) := by decide +kernel
theorem dX5_findReaches_61 : decode cX5_findReaches 61 = .ok (.aload_n 0, 1) := by decide +kernel
theorem dX5_findReaches_62 : decode cX5_findReaches 62 = .ok (.getfield 48, 3) := by decide +kernel
theorem dX5_findReaches_65 : decode cX5_findReaches 65 = .ok (.iload_n 2, 1) := by decide +kernel
theorem dX5_findReaches_66 : decode cX5_findReaches 66 = .ok (.dup2, 1) := by decide +kernel
theorem dX5_findReaches_67 : decode cX5_findReaches 67 = .ok (.iaload, 1) := by decide +kernel
theorem dX5_findReaches_68 : decode cX5_findReaches 68 = .ok (.aload_n 0, 1) := by decide +kernel
theorem dX5_findReaches_69 : decode cX5_findReaches 69 = .ok (.getfield 48, 3) := by decide +kernel
theorem dX5_findReaches_72 : decode cX5_findReaches 72 = .ok (.iload_n 1, 1) := by decide +kernel
theorem dX5_findReaches_73 : decode cX5_findReaches 73 = .ok (.iaload, 1) := by decide +kernel
theorem dX5_findReaches_74 : decode cX5_findReaches 74 = .ok (.ior, 1) := by decide +kernel
theorem dX5_findReaches_75 : decode cX5_findReaches 75 = .ok (.iastore, 1) := by decide +kernel
theorem dX5_findReaches_76 : decode cX5_findReaches 76 = .ok (.iinc 2 1, 3) := by decide +kernel
theorem dX5_findReaches_79 : decode cX5_findReaches 79 = .ok (.goto (-37), 3) := by decide +kernel
theorem dX5_findReaches_82 : decode cX5_findReaches 82 = .ok (.iinc 1 1, 3) := by decide +kernel
theorem dX5_findReaches_85 : decode cX5_findReaches 85 = .ok (.goto (-51), 3) := by decide +kernel
theorem dX5_findReaches_88 : decode cX5_findReaches 88 = .ok (.return_, 1) := by decide +kernel
theorem dX5_lastingOnes_0 : decode cX5_lastingOnes 0 = .ok (.sipush 255, 3) := by decide +kernel
theorem dX5_lastingOnes_3 : decode cX5_lastingOnes 3 = .ok (.istore_n 1, 1) := by decide +kernel
theorem dX5_lastingOnes_4 : decode cX5_lastingOnes 4 = .ok (.iconst 0, 1) := by decide +kernel
theorem dX5_lastingOnes_5 : decode cX5_lastingOnes 5 = .ok (.istore_n 2, 1) := by decide +kernel
theorem dX5_lastingOnes_6 : decode cX5_lastingOnes 6 = .ok (.iload_n 2, 1) := by decide +kernel
theorem dX5_lastingOnes_7 : decode cX5_lastingOnes 7 = .ok (.bipush 8, 2) := by decide +kernel
theorem dX5_lastingOnes_9 : decode cX5_lastingOnes 9 = .ok (.if_icmp .ge 57, 3) := by decide +kernel
theorem dX5_lastingOnes_12 : decode cX5_lastingOnes 12 = .ok (.iconst 0, 1) := by decide +kernel
theorem dX5_lastingOnes_13 : decode cX5_lastingOnes 13 = .ok (.istore_n 3, 1) := by decide +kernel
theorem dX5_lastingOnes_14 : decode cX5_lastingOnes 14 = .ok (.iload_n 3, 1) := by decide +kernel
theorem dX5_lastingOnes_15 : decode cX5_lastingOnes 15 = .ok (.bipush 8, 2) := by decide +kernel
theorem dX5_lastingOnes_17 : decode cX5_lastingOnes 17 = .ok (.if_icmp .ge 43, 3) := by decide +kernel
theorem dX5_lastingOnes_20 : decode cX5_lastingOnes 20 = .ok (.aload_n 0, 1) := by decide +kernel
theorem dX5_lastingOnes_21 : decode cX5_lastingOnes 21 = .ok (.getfield 48, 3) := by decide +kernel
theorem dX5_lastingOnes_24 : decode cX5_lastingOnes 24 = .ok (.iload_n 2, 1) := by decide +kernel
theorem dX5_lastingOnes_25 : decode cX5_lastingOnes 25 = .ok (.iaload, 1) := by decide +kernel
theorem dX5_lastingOnes_26 : decode cX5_lastingOnes 26 = .ok (.iload_n 3, 1) := by decide +kernel
theorem dX5_lastingOnes_27 : decode cX5_lastingOnes 27 = .ok (.invokestatic 208, 3) := by decide +kernel
theorem dX5_lastingOnes_30 : decode cX5_lastingOnes 30 = .ok (.ifCond .eq 24, 3) := by decide +kernel
theorem dX5_lastingOnes_33 : decode cX5_lastingOnes 33 = .ok (.aload_n 0, 1) := by decide +kernel
theorem dX5_lastingOnes_34 : decode cX5_lastingOnes 34 = .ok (.getfield 48, 3) := by decide +kernel
theorem dX5_lastingOnes_37 : decode cX5_lastingOnes 37 = .ok (.iload_n 3, 1) := by decide +kernel
theorem dX5_lastingOnes_38 : decode cX5_lastingOnes 38 = .ok (.iaload, 1) := by decide +kernel
theorem dX5_lastingOnes_39 : decode cX5_lastingOnes 39 = .ok (.iload_n 2, 1) := by decide +kernel
theorem dX5_lastingOnes_40 : decode cX5_lastingOnes 40 = .ok (.invokestatic 208, 3) := by decide +kernel
theorem dX5_lastingOnes_43 : decode cX5_lastingOnes 43 = .ok (.ifCond .ne 11, 3) := by decide +kernel
theorem dX5_lastingOnes_46 : decode cX5_lastingOnes 46 = .ok (.iload_n 1, 1) := by decide +kernel
theorem dX5_lastingOnes_47 : decode cX5_lastingOnes 47 = .ok (.iconst 1, 1) := by decide +kernel
theorem dX5_lastingOnes_48 : decode cX5_lastingOnes 48 = .ok (.iload_n 2, 1) := by decide +kernel
theorem dX5_lastingOnes_49 : decode cX5_lastingOnes 49 = .ok (.ishl, 1) := by decide +kernel
theorem dX5_lastingOnes_50 : decode cX5_lastingOnes 50 = .ok (.iconst (-1), 1) := by decide +kernel
theorem dX5_lastingOnes_51 : decode cX5_lastingOnes 51 = .ok (.ixor, 1) := by decide +kernel
theorem dX5_lastingOnes_52 : decode cX5_lastingOnes 52 = .ok (.iand, 1) := by decide +kernel
theorem dX5_lastingOnes_53 : decode cX5_lastingOnes 53 = .ok (.istore_n 1, 1) := by decide +kernel
theorem dX5_lastingOnes_54 : decode cX5_lastingOnes 54 = .ok (.iinc 3 1, 3) := by decide +kernel
theorem dX5_lastingOnes_57 : decode cX5_lastingOnes 57 = .ok (.goto (-43), 3) := by decide +kernel
theorem dX5_lastingOnes_60 : decode cX5_lastingOnes 60 = .ok (.iinc 2 1, 3) := by decide +kernel
theorem dX5_lastingOnes_63 : decode cX5_lastingOnes 63 = .ok (.goto (-57), 3) := by decide +kernel
theorem dX5_lastingOnes_66 : decode cX5_lastingOnes 66 = .ok (.iload_n 1, 1) := by decide +kernel
theorem dX5_lastingOnes_67 : decode cX5_lastingOnes 67 = .ok (.ireturn, 1) := by decide +kernel
theorem dX5_countParts_0 : decode cX5_countParts 0 = .ok (.iconst 0, 1) := by decide +kernel
theorem dX5_countParts_1 : decode cX5_countParts 1 = .ok (.istore_n 2, 1) := by decide +kernel
theorem dX5_countParts_2 : decode cX5_countParts 2 = .ok (.iconst 0, 1) := by decide +kernel
theorem dX5_countParts_3 : decode cX5_countParts 3 = .ok (.istore_n 3, 1) := by decide +kernel
theorem dX5_countParts_4 : decode cX5_countParts 4 = .ok (.iload_n 3, 1) := by decide +kernel
theorem dX5_countParts_5 : decode cX5_countParts 5 = .ok (.bipush 8, 2) := by decide +kernel
theorem dX5_countParts_7 : decode cX5_countParts 7 = .ok (.if_icmp .ge 39, 3) := by decide +kernel
theorem dX5_countParts_10 : decode cX5_countParts 10 = .ok (.aload_n 0, 1) := by decide +kernel
theorem dX5_countParts_11 : decode cX5_countParts 11 = .ok (.getfield 48, 3) := by decide +kernel
theorem dX5_countParts_14 : decode cX5_countParts 14 = .ok (.iload_n 3, 1) := by decide +kernel
theorem dX5_countParts_15 : decode cX5_countParts 15 = .ok (.iaload, 1) := by decide +kernel
theorem dX5_countParts_16 : decode cX5_countParts 16 = .ok (.iconst 1, 1) := by decide +kernel
theorem dX5_countParts_17 : decode cX5_countParts 17 = .ok (.iload_n 3, 1) := by decide +kernel
theorem dX5_countParts_18 : decode cX5_countParts 18 = .ok (.ishl, 1) := by decide +kernel
theorem dX5_countParts_19 : decode cX5_countParts 19 = .ok (.iconst 1, 1) := by decide +kernel
theorem dX5_countParts_20 : decode cX5_countParts 20 = .ok (.isub, 1) := by decide +kernel
theorem dX5_countParts_21 : decode cX5_countParts 21 = .ok (.iand, 1) := by decide +kernel
theorem dX5_countParts_22 : decode cX5_countParts 22 = .ok (.istore 4, 2) := by decide +kernel
theorem dX5_countParts_24 : decode cX5_countParts 24 = .ok (.iload_n 1, 1) := by decide +kernel
theorem dX5_countParts_25 : decode cX5_countParts 25 = .ok (.iload_n 3, 1) := by decide +kernel
theorem dX5_countParts_26 : decode cX5_countParts 26 = .ok (.invokestatic 208, 3) := by decide +kernel
theorem dX5_countParts_29 : decode cX5_countParts 29 = .ok (.ifCond .eq 11, 3) := by decide +kernel
theorem dX5_countParts_32 : decode cX5_countParts 32 = .ok (.iload 4, 2) := by decide +kernel
theorem dX5_countParts_34 : decode cX5_countParts 34 = .ok (.ifCond .ne 6, 3) := by decide +kernel
theorem dX5_countParts_37 : decode cX5_countParts 37 = .ok (.iinc 2 1, 3) := by decide +kernel
theorem dX5_countParts_40 : decode cX5_countParts 40 = .ok (.iinc 3 1, 3) := by decide +kernel
theorem dX5_countParts_43 : decode cX5_countParts 43 = .ok (.goto (-39), 3) := by decide +kernel
theorem dX5_countParts_46 : decode cX5_countParts 46 = .ok (.iload_n 2, 1) := by decide +kernel
theorem dX5_countParts_47 : decode cX5_countParts 47 = .ok (.ireturn, 1) := by decide +kernel
theorem dX5_isIn_0 : decode cX5_isIn 0 = .ok (.iload_n 0, 1) := by decide +kernel
theorem dX5_isIn_1 : decode cX5_isIn 1 = .ok (.iload_n 1, 1) := by decide +kernel
theorem dX5_isIn_2 : decode cX5_isIn 2 = .ok (.ishr, 1) := by decide +kernel
theorem dX5_isIn_3 : decode cX5_isIn 3 = .ok (.iconst 1, 1) := by decide +kernel
theorem dX5_isIn_4 : decode cX5_isIn 4 = .ok (.iand, 1) := by decide +kernel
theorem dX5_isIn_5 : decode cX5_isIn 5 = .ok (.iconst 1, 1) := by decide +kernel
theorem dX5_isIn_6 : decode cX5_isIn 6 = .ok (.if_icmp .ne 7, 3) := by decide +kernel
theorem dX5_isIn_9 : decode cX5_isIn 9 = .ok (.iconst 1, 1) := by decide +kernel
theorem dX5_isIn_10 : decode cX5_isIn 10 = .ok (.goto 4, 3) := by decide +kernel
theorem dX5_isIn_13 : decode cX5_isIn 13 = .ok (.iconst 0, 1) := by decide +kernel
theorem dX5_isIn_14 : decode cX5_isIn 14 = .ok (.ireturn, 1) := by decide +kernel
theorem dX5_oddsOfForm_0 : decode cX5_oddsOfForm 0 = .ok (.lconst 0, 1) := by decide +kernel
theorem dX5_oddsOfForm_1 : decode cX5_oddsOfForm 1 = .ok (.lstore_n 3, 1) := by decide +kernel
theorem dX5_oddsOfForm_2 : decode cX5_oddsOfForm 2 = .ok (.iconst 0, 1) := by decide +kernel
theorem dX5_oddsOfForm_3 : decode cX5_oddsOfForm 3 = .ok (.istore 5, 2) := by decide +kernel
theorem dX5_oddsOfForm_5 : decode cX5_oddsOfForm 5 = .ok (.iload 5, 2) := by decide +kernel
theorem dX5_oddsOfForm_7 : decode cX5_oddsOfForm 7 = .ok (.bipush 8, 2) := by decide +kernel
theorem dX5_oddsOfForm_9 : decode cX5_oddsOfForm 9 = .ok (.if_icmp .ge 26, 3) := by decide +kernel
theorem dX5_oddsOfForm_12 : decode cX5_oddsOfForm 12 = .ok (.iload 5, 2) := by decide +kernel
theorem dX5_oddsOfForm_14 : decode cX5_oddsOfForm 14 = .ok (.iload_n 1, 1) := by decide +kernel
theorem dX5_oddsOfForm_15 : decode cX5_oddsOfForm 15 = .ok (.invokestatic 178, 3) := by decide +kernel
theorem dX5_oddsOfForm_18 : decode cX5_oddsOfForm 18 = .ok (.iload_n 2, 1) := by decide +kernel
theorem dX5_oddsOfForm_19 : decode cX5_oddsOfForm 19 = .ok (.if_icmp .ne 10, 3) := by decide +kernel
theorem dX5_oddsOfForm_22 : decode cX5_oddsOfForm 22 = .ok (.lload_n 3, 1) := by decide +kernel
theorem dX5_oddsOfForm_23 : decode cX5_oddsOfForm 23 = .ok (.aload_n 0, 1) := by decide +kernel
theorem dX5_oddsOfForm_24 : decode cX5_oddsOfForm 24 = .ok (.iload 5, 2) := by decide +kernel
theorem dX5_oddsOfForm_26 : decode cX5_oddsOfForm 26 = .ok (.laload, 1) := by decide +kernel
theorem dX5_oddsOfForm_27 : decode cX5_oddsOfForm 27 = .ok (.ladd, 1) := by decide +kernel
theorem dX5_oddsOfForm_28 : decode cX5_oddsOfForm 28 = .ok (.lstore_n 3, 1) := by decide +kernel
theorem dX5_oddsOfForm_29 : decode cX5_oddsOfForm 29 = .ok (.iinc 5 1, 3) := by decide +kernel
theorem dX5_oddsOfForm_32 : decode cX5_oddsOfForm 32 = .ok (.goto (-27), 3) := by decide +kernel
theorem dX5_oddsOfForm_35 : decode cX5_oddsOfForm 35 = .ok (.lload_n 3, 1) := by decide +kernel
theorem dX5_oddsOfForm_36 : decode cX5_oddsOfForm 36 = .ok (.lreturn, 1) := by decide +kernel
theorem dX5_refusalOf_0 : decode cX5_refusalOf 0 = .ok (.iload_n 0, 1) := by decide +kernel
theorem dX5_refusalOf_1 : decode cX5_refusalOf 1 = .ok (.ifCond .ne 5, 3) := by decide +kernel
theorem dX5_refusalOf_4 : decode cX5_refusalOf 4 = .ok (.iconst (-1), 1) := by decide +kernel
theorem dX5_refusalOf_5 : decode cX5_refusalOf 5 = .ok (.ireturn, 1) := by decide +kernel
theorem dX5_refusalOf_6 : decode cX5_refusalOf 6 = .ok (.iload_n 1, 1) := by decide +kernel
theorem dX5_refusalOf_7 : decode cX5_refusalOf 7 = .ok (.ifCond .eq 7, 3) := by decide +kernel
theorem dX5_refusalOf_10 : decode cX5_refusalOf 10 = .ok (.iconst 0, 1) := by decide +kernel
theorem dX5_refusalOf_11 : decode cX5_refusalOf 11 = .ok (.goto 5, 3) := by decide +kernel
theorem dX5_refusalOf_14 : decode cX5_refusalOf 14 = .ok (.bipush (-2), 2) := by decide +kernel
theorem dX5_refusalOf_16 : decode cX5_refusalOf 16 = .ok (.ireturn, 1) := by decide +kernel
theorem dX5_refusalOfLives_0 : decode cX5_refusalOfLives 0 = .ok (.iload_n 1, 1) := by decide +kernel
theorem dX5_refusalOfLives_1 : decode cX5_refusalOfLives 1 = .ok (.iload_n 2, 1) := by decide +kernel
theorem dX5_refusalOfLives_2 : decode cX5_refusalOfLives 2 = .ok (.ifCond .eq 16, 3) := by decide +kernel
theorem dX5_refusalOfLives_5 : decode cX5_refusalOfLives 5 = .ok (.iload_n 3, 1) := by decide +kernel
theorem dX5_refusalOfLives_6 : decode cX5_refusalOfLives 6 = .ok (.iconst 1, 1) := by decide +kernel
theorem dX5_refusalOfLives_7 : decode cX5_refusalOfLives 7 = .ok (.iconst 4, 1) := by decide +kernel
theorem dX5_refusalOfLives_8 : decode cX5_refusalOfLives 8 = .ok (.invokestatic 56, 3) := by decide +kernel
theorem dX5_refusalOfLives_11 : decode cX5_refusalOfLives 11 = .ok (.ifCond .eq 7, 3) := by decide +kernel
theorem dX5_refusalOfLives_14 : decode cX5_refusalOfLives 14 = .ok (.iconst 1, 1) := by decide +kernel
theorem dX5_refusalOfLives_15 : decode cX5_refusalOfLives 15 = .ok (.goto 4, 3) := by decide +kernel
theorem dX5_refusalOfLives_18 : decode cX5_refusalOfLives 18 = .ok (.iconst 0, 1) := by decide +kernel
theorem dX5_refusalOfLives_19 : decode cX5_refusalOfLives 19 = .ok (.invokestatic 126, 3) := by decide +kernel
theorem dX5_refusalOfLives_22 : decode cX5_refusalOfLives 22 = .ok (.istore 4, 2) := by decide +kernel
theorem dX5_refusalOfLives_24 : decode cX5_refusalOfLives 24 = .ok (.iload 4, 2) := by decide +kernel
theorem dX5_refusalOfLives_26 : decode cX5_refusalOfLives 26 = .ok (.ifCond .eq 6, 3) := by decide +kernel
theorem dX5_refusalOfLives_29 : decode cX5_refusalOfLives 29 = .ok (.iload 4, 2) := by decide +kernel
theorem dX5_refusalOfLives_31 : decode cX5_refusalOfLives 31 = .ok (.ireturn, 1) := by decide +kernel
theorem dX5_refusalOfLives_32 : decode cX5_refusalOfLives 32 = .ok (.aload_n 0, 1) := by decide +kernel
theorem dX5_refusalOfLives_33 : decode cX5_refusalOfLives 33 = .ok (.getfield 44, 3) := by decide +kernel
theorem dX5_refusalOfLives_36 : decode cX5_refusalOfLives 36 = .ok (.getfield 148, 3) := by decide +kernel
theorem dX5_refusalOfLives_39 : decode cX5_refusalOfLives 39 = .ok (.iload_n 3, 1) := by decide +kernel
theorem dX5_refusalOfLives_40 : decode cX5_refusalOfLives 40 = .ok (.imul, 1) := by decide +kernel
theorem dX5_refusalOfLives_41 : decode cX5_refusalOfLives 41 = .ok (.bipush 8, 2) := by decide +kernel
theorem dX5_refusalOfLives_43 : decode cX5_refusalOfLives 43 = .ok (.if_icmp .le 8, 3) := by decide +kernel
theorem dX5_refusalOfLives_46 : decode cX5_refusalOfLives 46 = .ok (.bipush (-3), 2) := by decide +kernel
theorem dX5_refusalOfLives_48 : decode cX5_refusalOfLives 48 = .ok (.goto 4, 3) := by decide +kernel
theorem dX5_refusalOfLives_51 : decode cX5_refusalOfLives 51 = .ok (.iconst 0, 1) := by decide +kernel
theorem dX5_refusalOfLives_52 : decode cX5_refusalOfLives 52 = .ok (.ireturn, 1) := by decide +kernel
theorem dX5_isTongue_0 : decode cX5_isTongue 0 = .ok (.iload_n 0, 1) := by decide +kernel
theorem dX5_isTongue_1 : decode cX5_isTongue 1 = .ok (.iconst 0, 1) := by decide +kernel
theorem dX5_isTongue_2 : decode cX5_isTongue 2 = .ok (.bipush 7, 2) := by decide +kernel
theorem dX5_isTongue_4 : decode cX5_isTongue 4 = .ok (.invokestatic 56, 3) := by decide +kernel
theorem dX5_isTongue_7 : decode cX5_isTongue 7 = .ok (.ireturn, 1) := by decide +kernel
theorem dX5_isMeaning_0 : decode cX5_isMeaning 0 = .ok (.iload_n 0, 1) := by decide +kernel
theorem dX5_isMeaning_1 : decode cX5_isMeaning 1 = .ok (.iconst 0, 1) := by decide +kernel
theorem dX5_isMeaning_2 : decode cX5_isMeaning 2 = .ok (.iconst 2, 1) := by decide +kernel
theorem dX5_isMeaning_3 : decode cX5_isMeaning 3 = .ok (.invokestatic 56, 3) := by decide +kernel
theorem dX5_isMeaning_6 : decode cX5_isMeaning 6 = .ok (.ireturn, 1) := by decide +kernel
theorem dX5_isForm_0 : decode cX5_isForm 0 = .ok (.iload_n 0, 1) := by decide +kernel
theorem dX5_isForm_1 : decode cX5_isForm 1 = .ok (.iconst 0, 1) := by decide +kernel
theorem dX5_isForm_2 : decode cX5_isForm 2 = .ok (.iconst 1, 1) := by decide +kernel
theorem dX5_isForm_3 : decode cX5_isForm 3 = .ok (.invokestatic 56, 3) := by decide +kernel
theorem dX5_isForm_6 : decode cX5_isForm 6 = .ok (.ireturn, 1) := by decide +kernel
theorem dX5_isPart_0 : decode cX5_isPart 0 = .ok (.iload_n 0, 1) := by decide +kernel
theorem dX5_isPart_1 : decode cX5_isPart 1 = .ok (.iconst 0, 1) := by decide +kernel
theorem dX5_isPart_2 : decode cX5_isPart 2 = .ok (.iconst 1, 1) := by decide +kernel
theorem dX5_isPart_3 : decode cX5_isPart 3 = .ok (.invokestatic 56, 3) := by decide +kernel
theorem dX5_isPart_6 : decode cX5_isPart 6 = .ok (.ireturn, 1) := by decide +kernel
theorem dX5_isBetween_0 : decode cX5_isBetween 0 = .ok (.iload_n 0, 1) := by decide +kernel
theorem dX5_isBetween_1 : decode cX5_isBetween 1 = .ok (.iload_n 1, 1) := by decide +kernel
theorem dX5_isBetween_2 : decode cX5_isBetween 2 = .ok (.if_icmp .lt 12, 3) := by decide +kernel
theorem dX5_isBetween_5 : decode cX5_isBetween 5 = .ok (.iload_n 0, 1) := by decide +kernel
theorem dX5_isBetween_6 : decode cX5_isBetween 6 = .ok (.iload_n 2, 1) := by decide +kernel
theorem dX5_isBetween_7 : decode cX5_isBetween 7 = .ok (.if_icmp .gt 7, 3) := by decide +kernel
theorem dX5_isBetween_10 : decode cX5_isBetween 10 = .ok (.iconst 1, 1) := by decide +kernel
theorem dX5_isBetween_11 : decode cX5_isBetween 11 = .ok (.goto 4, 3) := by decide +kernel
theorem dX5_isBetween_14 : decode cX5_isBetween 14 = .ok (.iconst 0, 1) := by decide +kernel
theorem dX5_isBetween_15 : decode cX5_isBetween 15 = .ok (.ireturn, 1) := by decide +kernel
theorem dX5_formOf_0 : decode cX5_formOf 0 = .ok (.iload_n 0, 1) := by decide +kernel
theorem dX5_formOf_1 : decode cX5_formOf 1 = .ok (.iload_n 1, 1) := by decide +kernel
theorem dX5_formOf_2 : decode cX5_formOf 2 = .ok (.ishr, 1) := by decide +kernel
theorem dX5_formOf_3 : decode cX5_formOf 3 = .ok (.iconst 1, 1) := by decide +kernel
theorem dX5_formOf_4 : decode cX5_formOf 4 = .ok (.iand, 1) := by decide +kernel
theorem dX5_formOf_5 : decode cX5_formOf 5 = .ok (.ireturn, 1) := by decide +kernel
theorem dX5_power_0 : decode cX5_power 0 = .ok (.lconst 1, 1) := by decide +kernel
theorem dX5_power_1 : decode cX5_power 1 = .ok (.lstore_n 3, 1) := by decide +kernel
theorem dX5_power_2 : decode cX5_power 2 = .ok (.iconst 0, 1) := by decide +kernel
theorem dX5_power_3 : decode cX5_power 3 = .ok (.istore 5, 2) := by decide +kernel
theorem dX5_power_5 : decode cX5_power 5 = .ok (.iload 5, 2) := by decide +kernel
theorem dX5_power_7 : decode cX5_power 7 = .ok (.iload_n 2, 1) := by decide +kernel
theorem dX5_power_8 : decode cX5_power 8 = .ok (.if_icmp .ge 13, 3) := by decide +kernel
theorem dX5_power_11 : decode cX5_power 11 = .ok (.lload_n 3, 1) := by decide +kernel
theorem dX5_power_12 : decode cX5_power 12 = .ok (.lload_n 0, 1) := by decide +kernel
theorem dX5_power_13 : decode cX5_power 13 = .ok (.lmul, 1) := by decide +kernel
theorem dX5_power_14 : decode cX5_power 14 = .ok (.lstore_n 3, 1) := by decide +kernel
theorem dX5_power_15 : decode cX5_power 15 = .ok (.iinc 5 1, 3) := by decide +kernel
theorem dX5_power_18 : decode cX5_power 18 = .ok (.goto (-13), 3) := by decide +kernel
theorem dX5_power_21 : decode cX5_power 21 = .ok (.lload_n 3, 1) := by decide +kernel
theorem dX5_power_22 : decode cX5_power 22 = .ok (.lreturn, 1) := by decide +kernel
theorem dX5_fraction_0 : decode cX5_fraction 0 = .ok (.lload_n 0, 1) := by decide +kernel
theorem dX5_fraction_1 : decode cX5_fraction 1 = .ok (.lconst 0, 1) := by decide +kernel
theorem dX5_fraction_2 : decode cX5_fraction 2 = .ok (.lcmp, 1) := by decide +kernel
theorem dX5_fraction_3 : decode cX5_fraction 3 = .ok (.ifCond .le 9, 3) := by decide +kernel
theorem dX5_fraction_6 : decode cX5_fraction 6 = .ok (.lload_n 2, 1) := by decide +kernel
theorem dX5_fraction_7 : decode cX5_fraction 7 = .ok (.lconst 0, 1) := by decide +kernel
theorem dX5_fraction_8 : decode cX5_fraction 8 = .ok (.lcmp, 1) := by decide +kernel
theorem dX5_fraction_9 : decode cX5_fraction 9 = .ok (.ifCond .gt 14, 3) := by decide +kernel
theorem dX5_fraction_12 : decode cX5_fraction 12 = .ok (.iload 4, 2) := by decide +kernel
theorem dX5_fraction_14 : decode cX5_fraction 14 = .ok (.ifCond .ne 7, 3) := by decide +kernel
theorem dX5_fraction_17 : decode cX5_fraction 17 = .ok (.lconst 0, 1) := by decide +kernel
theorem dX5_fraction_18 : decode cX5_fraction 18 = .ok (.goto 4, 3) := by decide +kernel
theorem dX5_fraction_21 : decode cX5_fraction 21 = .ok (.lconst 1, 1) := by decide +kernel
theorem dX5_fraction_22 : decode cX5_fraction 22 = .ok (.lreturn, 1) := by decide +kernel
theorem dX5_fraction_23 : decode cX5_fraction 23 = .ok (.lload_n 0, 1) := by decide +kernel
theorem dX5_fraction_24 : decode cX5_fraction 24 = .ok (.lload_n 2, 1) := by decide +kernel
theorem dX5_fraction_25 : decode cX5_fraction 25 = .ok (.invokestatic 212, 3) := by decide +kernel
theorem dX5_fraction_28 : decode cX5_fraction 28 = .ok (.lstore 5, 2) := by decide +kernel
theorem dX5_fraction_30 : decode cX5_fraction 30 = .ok (.lload 5, 2) := by decide +kernel
theorem dX5_fraction_32 : decode cX5_fraction 32 = .ok (.lconst 0, 1) := by decide +kernel
theorem dX5_fraction_33 : decode cX5_fraction 33 = .ok (.lcmp, 1) := by decide +kernel
theorem dX5_fraction_34 : decode cX5_fraction 34 = .ok (.ifCond .gt 7, 3) := by decide +kernel
theorem dX5_fraction_37 : decode cX5_fraction 37 = .ok (.ldc2_w 130, 3) := by decide +kernel
theorem dX5_fraction_40 : decode cX5_fraction 40 = .ok (.lreturn, 1) := by decide +kernel
theorem dX5_fraction_41 : decode cX5_fraction 41 = .ok (.iload 4, 2) := by decide +kernel
theorem dX5_fraction_43 : decode cX5_fraction 43 = .ok (.ifCond .ne 7, 3) := by decide +kernel
theorem dX5_fraction_46 : decode cX5_fraction 46 = .ok (.lload_n 0, 1) := by decide +kernel
theorem dX5_fraction_47 : decode cX5_fraction 47 = .ok (.goto 4, 3) := by decide +kernel
theorem dX5_fraction_50 : decode cX5_fraction 50 = .ok (.lload_n 2, 1) := by decide +kernel
theorem dX5_fraction_51 : decode cX5_fraction 51 = .ok (.lload 5, 2) := by decide +kernel
theorem dX5_fraction_53 : decode cX5_fraction 53 = .ok (.ldiv, 1) := by decide +kernel
theorem dX5_fraction_54 : decode cX5_fraction 54 = .ok (.lreturn, 1) := by decide +kernel
theorem dX5_commonDivisor_0 : decode cX5_commonDivisor 0 = .ok (.lload_n 0, 1) := by decide +kernel
theorem dX5_commonDivisor_1 : decode cX5_commonDivisor 1 = .ok (.lstore 4, 2) := by decide +kernel
theorem dX5_commonDivisor_3 : decode cX5_commonDivisor 3 = .ok (.lload_n 2, 1) := by decide +kernel
theorem dX5_commonDivisor_4 : decode cX5_commonDivisor 4 = .ok (.lstore 6, 2) := by decide +kernel
theorem dX5_commonDivisor_6 : decode cX5_commonDivisor 6 = .ok (.iconst 0, 1) := by decide +kernel
theorem dX5_commonDivisor_7 : decode cX5_commonDivisor 7 = .ok (.istore 8, 2) := by decide +kernel
theorem dX5_commonDivisor_9 : decode cX5_commonDivisor 9 = .ok (.iload 8, 2) := by decide +kernel
theorem dX5_commonDivisor_11 : decode cX5_commonDivisor 11 = .ok (.sipush 1000, 3) := by decide +kernel
theorem dX5_commonDivisor_14 : decode cX5_commonDivisor 14 = .ok (.if_icmp .ge 31, 3) := by decide +kernel
theorem dX5_commonDivisor_17 : decode cX5_commonDivisor 17 = .ok (.lload 6, 2) := by decide +kernel
theorem dX5_commonDivisor_19 : decode cX5_commonDivisor 19 = .ok (.lconst 0, 1) := by decide +kernel
theorem dX5_commonDivisor_20 : decode cX5_commonDivisor 20 = .ok (.lcmp, 1) := by decide +kernel
theorem dX5_commonDivisor_21 : decode cX5_commonDivisor 21 = .ok (.ifCond .eq 24, 3) := by decide +kernel
theorem dX5_commonDivisor_24 : decode cX5_commonDivisor 24 = .ok (.lload 4, 2) := by decide +kernel
theorem dX5_commonDivisor_26 : decode cX5_commonDivisor 26 = .ok (.lload 6, 2) := by decide +kernel
theorem dX5_commonDivisor_28 : decode cX5_commonDivisor 28 = .ok (.lrem, 1) := by decide +kernel
theorem dX5_commonDivisor_29 : decode cX5_commonDivisor 29 = .ok (.lstore 9, 2) := by decide +kernel
theorem dX5_commonDivisor_31 : decode cX5_commonDivisor 31 = .ok (.lload 6, 2) := by decide +kernel
theorem dX5_commonDivisor_33 : decode cX5_commonDivisor 33 = .ok (.lstore 4, 2) := by decide +kernel
theorem dX5_commonDivisor_35 : decode cX5_commonDivisor 35 = .ok (.lload 9, 2) := by decide +kernel
theorem dX5_commonDivisor_37 : decode cX5_commonDivisor 37 = .ok (.lstore 6, 2) := by decide +kernel
theorem dX5_commonDivisor_39 : decode cX5_commonDivisor 39 = .ok (.iinc 8 1, 3) := by decide +kernel
theorem dX5_commonDivisor_42 : decode cX5_commonDivisor 42 = .ok (.goto (-33), 3) := by decide +kernel
theorem dX5_commonDivisor_45 : decode cX5_commonDivisor 45 = .ok (.lload 4, 2) := by decide +kernel
theorem dX5_commonDivisor_47 : decode cX5_commonDivisor 47 = .ok (.lreturn, 1) := by decide +kernel
theorem dX6_init_0 : decode cX6_init 0 = .ok (.aload_n 0, 1) := by decide +kernel
theorem dX6_init_1 : decode cX6_init 1 = .ok (.invokespecial 1, 3) := by decide +kernel
theorem dX6_init_4 : decode cX6_init 4 = .ok (.aload_n 0, 1) := by decide +kernel
theorem dX6_init_5 : decode cX6_init 5 = .ok (.iconst 3, 1) := by decide +kernel
theorem dX6_init_6 : decode cX6_init 6 = .ok (.newarray .int, 2) := by decide +kernel
theorem dX6_init_8 : decode cX6_init 8 = .ok (.putfield 7, 3) := by decide +kernel
theorem dX6_init_11 : decode cX6_init 11 = .ok (.aload_n 0, 1) := by decide +kernel
theorem dX6_init_12 : decode cX6_init 12 = .ok (.bipush 40, 2) := by decide +kernel
theorem dX6_init_14 : decode cX6_init 14 = .ok (.newarray .int, 2) := by decide +kernel
theorem dX6_init_16 : decode cX6_init 16 = .ok (.putfield 13, 3) := by decide +kernel
theorem dX6_init_19 : decode cX6_init 19 = .ok (.aload_n 0, 1) := by decide +kernel
theorem dX6_init_20 : decode cX6_init 20 = .ok (.bipush 28, 2) := by decide +kernel
theorem dX6_init_22 : decode cX6_init 22 = .ok (.newarray .int, 2) := by decide +kernel
theorem dX6_init_24 : decode cX6_init 24 = .ok (.putfield 16, 3) := by decide +kernel
theorem dX6_init_27 : decode cX6_init 27 = .ok (.aload_n 0, 1) := by decide +kernel
theorem dX6_init_28 : decode cX6_init 28 = .ok (.bipush 6, 2) := by decide +kernel
theorem dX6_init_30 : decode cX6_init 30 = .ok (.newarray .int, 2) := by decide +kernel
theorem dX6_init_32 : decode cX6_init 32 = .ok (.putfield 19, 3) := by decide +kernel
theorem dX6_init_35 : decode cX6_init 35 = .ok (.aload_n 0, 1) := by decide +kernel
theorem dX6_init_36 : decode cX6_init 36 = .ok (.bipush 6, 2) := by decide +kernel
theorem dX6_init_38 : decode cX6_init 38 = .ok (.newarray .int, 2) := by decide +kernel
theorem dX6_init_40 : decode cX6_init 40 = .ok (.putfield 22, 3) := by decide +kernel
theorem dX6_init_43 : decode cX6_init 43 = .ok (.aload_n 0, 1) := by decide +kernel
theorem dX6_init_44 : decode cX6_init 44 = .ok (.bipush 64, 2) := by decide +kernel
theorem dX6_init_46 : decode cX6_init 46 = .ok (.newarray .long, 2) := by decide +kernel
theorem dX6_init_48 : decode cX6_init 48 = .ok (.putfield 25, 3) := by decide +kernel
theorem dX6_init_51 : decode cX6_init 51 = .ok (.aload_n 0, 1) := by decide +kernel
theorem dX6_init_52 : decode cX6_init 52 = .ok (.bipush 8, 2) := by decide +kernel
theorem dX6_init_54 : decode cX6_init 54 = .ok (.newarray .long, 2) := by decide +kernel
theorem dX6_init_56 : decode cX6_init 56 = .ok (.putfield 29, 3) := by decide +kernel
theorem dX6_init_59 : decode cX6_init 59 = .ok (.aload_n 0, 1) := by decide +kernel
theorem dX6_init_60 : decode cX6_init 60 = .ok (.bipush 8, 2) := by decide +kernel
theorem dX6_init_62 : decode cX6_init 62 = .ok (.newarray .long, 2) := by decide +kernel
theorem dX6_init_64 : decode cX6_init 64 = .ok (.putfield 32, 3) := by decide +kernel
theorem dX6_init_67 : decode cX6_init 67 = .ok (.aload_n 0, 1) := by decide +kernel
theorem dX6_init_68 : decode cX6_init 68 = .ok (.bipush 8, 2) := by decide +kernel
theorem dX6_init_70 : decode cX6_init 70 = .ok (.newarray .int, 2) := by decide +kernel
theorem dX6_init_72 : decode cX6_init 72 = .ok (.putfield 35, 3) := by decide +kernel
theorem dX6_init_75 : decode cX6_init 75 = .ok (.aload_n 0, 1) := by decide +kernel
theorem dX6_init_76 : decode cX6_init 76 = .ok (.iconst 4, 1) := by decide +kernel
theorem dX6_init_77 : decode cX6_init 77 = .ok (.newarray .int, 2) := by decide +kernel
theorem dX6_init_79 : decode cX6_init 79 = .ok (.putfield 38, 3) := by decide +kernel
theorem dX6_init_82 : decode cX6_init 82 = .ok (.aload_n 0, 1) := by decide +kernel
theorem dX6_init_83 : decode cX6_init 83 = .ok (.bipush 8, 2) := by decide +kernel
theorem dX6_init_85 : decode cX6_init 85 = .ok (.newarray .long, 2) := by decide +kernel
theorem dX6_init_87 : decode cX6_init 87 = .ok (.putfield 41, 3) := by decide +kernel
theorem dX6_init_90 : decode cX6_init 90 = .ok (.iconst 0, 1) := by decide +kernel
theorem dX6_init_91 : decode cX6_init 91 = .ok (.istore_n 1, 1) := by decide +kernel
theorem dX6_init_92 : decode cX6_init 92 = .ok (.iload_n 1, 1) := by decide +kernel
theorem dX6_init_93 : decode cX6_init 93 = .ok (.iconst 3, 1) := by decide +kernel
theorem dX6_init_94 : decode cX6_init 94 = .ok (.if_icmp .ge 16, 3) := by decide +kernel
theorem dX6_init_97 : decode cX6_init 97 = .ok (.aload_n 0, 1) := by decide +kernel
theorem dX6_init_98 : decode cX6_init 98 = .ok (.getfield 7, 3) := by decide +kernel
theorem dX6_init_101 : decode cX6_init 101 = .ok (.iload_n 1, 1) := by decide +kernel
theorem dX6_init_102 : decode cX6_init 102 = .ok (.iconst 1, 1) := by decide +kernel
theorem dX6_init_103 : decode cX6_init 103 = .ok (.iastore, 1) := by decide +kernel
theorem dX6_init_104 : decode cX6_init 104 = .ok (.iinc 1 1, 3) := by decide +kernel
theorem dX6_init_107 : decode cX6_init 107 = .ok (.goto (-15), 3) := by decide +kernel
theorem dX6_init_110 : decode cX6_init 110 = .ok (.aload_n 0, 1) := by decide +kernel
theorem dX6_init_111 : decode cX6_init 111 = .ok (.iconst 1, 1) := by decide +kernel
theorem dX6_init_112 : decode cX6_init 112 = .ok (.putfield 44, 3) := by decide +kernel
theorem dX6_init_115 : decode cX6_init 115 = .ok (.aload_n 0, 1) := by decide +kernel
theorem dX6_init_116 : decode cX6_init 116 = .ok (.iconst 2, 1) := by decide +kernel
theorem dX6_init_117 : decode cX6_init 117 = .ok (.putfield 48, 3) := by decide +kernel
theorem dX6_init_120 : decode cX6_init 120 = .ok (.return_, 1) := by decide +kernel
theorem dX6_in_0 : decode cX6_in 0 = .ok (.lload_n 0, 1) := by decide +kernel
theorem dX6_in_1 : decode cX6_in 1 = .ok (.lload_n 2, 1) := by decide +kernel
theorem dX6_in_2 : decode cX6_in 2 = .ok (.lcmp, 1) := by decide +kernel
theorem dX6_in_3 : decode cX6_in 3 = .ok (.ifCond .lt 14, 3) := by decide +kernel
theorem dX6_in_6 : decode cX6_in 6 = .ok (.lload_n 0, 1) := by decide +kernel
theorem dX6_in_7 : decode cX6_in 7 = .ok (.lload 4, 2) := by decide +kernel
theorem dX6_in_9 : decode cX6_in 9 = .ok (.lcmp, 1) := by decide +kernel
theorem dX6_in_10 : decode cX6_in 10 = .ok (.ifCond .gt 7, 3) := by decide +kernel
theorem dX6_in_13 : decode cX6_in 13 = .ok (.iconst 1, 1) := by decide +kernel
theorem dX6_in_14 : decode cX6_in 14 = .ok (.goto 4, 3) := by decide +kernel
theorem dX6_in_17 : decode cX6_in 17 = .ok (.iconst 0, 1) := by decide +kernel
theorem dX6_in_18 : decode cX6_in 18 = .ok (.ireturn, 1) := by decide +kernel
theorem dX6_ones_0 : decode cX6_ones 0 = .ok (.iload_n 0, 1) := by decide +kernel
theorem dX6_ones_1 : decode cX6_ones 1 = .ok (.iconst 1, 1) := by decide +kernel
theorem dX6_ones_2 : decode cX6_ones 2 = .ok (.iand, 1) := by decide +kernel
theorem dX6_ones_3 : decode cX6_ones 3 = .ok (.iload_n 0, 1) := by decide +kernel
theorem dX6_ones_4 : decode cX6_ones 4 = .ok (.iconst 1, 1) := by decide +kernel
theorem dX6_ones_5 : decode cX6_ones 5 = .ok (.ishr, 1) := by decide +kernel
theorem dX6_ones_6 : decode cX6_ones 6 = .ok (.iconst 1, 1) := by decide +kernel
theorem dX6_ones_7 : decode cX6_ones 7 = .ok (.iand, 1) := by decide +kernel
theorem dX6_ones_8 : decode cX6_ones 8 = .ok (.iadd, 1) := by decide +kernel
theorem dX6_ones_9 : decode cX6_ones 9 = .ok (.iload_n 0, 1) := by decide +kernel
theorem dX6_ones_10 : decode cX6_ones 10 = .ok (.iconst 2, 1) := by decide +kernel
theorem dX6_ones_11 : decode cX6_ones 11 = .ok (.ishr, 1) := by decide +kernel
theorem dX6_ones_12 : decode cX6_ones 12 = .ok (.iconst 1, 1) := by decide +kernel
theorem dX6_ones_13 : decode cX6_ones 13 = .ok (.iand, 1) := by decide +kernel
theorem dX6_ones_14 : decode cX6_ones 14 = .ok (.iadd, 1) := by decide +kernel
theorem dX6_ones_15 : decode cX6_ones 15 = .ok (.ireturn, 1) := by decide +kernel
theorem dX6_isMeaning_0 : decode cX6_isMeaning 0 = .ok (.iload_n 0, 1) := by decide +kernel
theorem dX6_isMeaning_1 : decode cX6_isMeaning 1 = .ok (.i2l, 1) := by decide +kernel
theorem dX6_isMeaning_2 : decode cX6_isMeaning 2 = .ok (.lconst 0, 1) := by decide +kernel
theorem dX6_isMeaning_3 : decode cX6_isMeaning 3 = .ok (.ldc2_w 51, 3) := by decide +kernel
theorem dX6_isMeaning_6 : decode cX6_isMeaning 6 = .ok (.invokestatic 53, 3) := by decide +kernel
theorem dX6_isMeaning_9 : decode cX6_isMeaning 9 = .ok (.ireturn, 1) := by decide +kernel
theorem dX6_isTongue_0 : decode cX6_isTongue 0 = .ok (.iload_n 0, 1) := by decide +kernel
theorem dX6_isTongue_1 : decode cX6_isTongue 1 = .ok (.i2l, 1) := by decide +kernel
theorem dX6_isTongue_2 : decode cX6_isTongue 2 = .ok (.lconst 0, 1) := by decide +kernel
theorem dX6_isTongue_3 : decode cX6_isTongue 3 = .ok (.ldc2_w 57, 3) := by decide +kernel
theorem dX6_isTongue_6 : decode cX6_isTongue 6 = .ok (.invokestatic 53, 3) := by decide +kernel
theorem dX6_isTongue_9 : decode cX6_isTongue 9 = .ok (.ireturn, 1) := by decide +kernel
theorem dX6_isPart_0 : decode cX6_isPart 0 = .ok (.iload_n 0, 1) := by decide +kernel
theorem dX6_isPart_1 : decode cX6_isPart 1 = .ok (.i2l, 1) := by decide +kernel
theorem dX6_isPart_2 : decode cX6_isPart 2 = .ok (.lconst 0, 1) := by decide +kernel
theorem dX6_isPart_3 : decode cX6_isPart 3 = .ok (.lconst 1, 1) := by decide +kernel
theorem dX6_isPart_4 : decode cX6_isPart 4 = .ok (.invokestatic 53, 3) := by decide +kernel
theorem dX6_isPart_7 : decode cX6_isPart 7 = .ok (.ireturn, 1) := by decide +kernel
theorem dX6_lowest_0 : decode cX6_lowest 0 = .ok (.lload_n 2, 1) := by decide +kernel
theorem dX6_lowest_1 : decode cX6_lowest 1 = .ok (.lconst 0, 1) := by decide +kernel
theorem dX6_lowest_2 : decode cX6_lowest 2 = .ok (.lcmp, 1) := by decide +kernel
theorem dX6_lowest_3 : decode cX6_lowest 3 = .ok (.ifCond .ne 7, 3) := by decide +kernel
theorem dX6_lowest_6 : decode cX6_lowest 6 = .ok (.iload 4, 2) := by decide +kernel
theorem dX6_lowest_8 : decode cX6_lowest 8 = .ok (.i2l, 1) := by decide +kernel
theorem dX6_lowest_9 : decode cX6_lowest 9 = .ok (.lreturn, 1) := by decide +kernel
theorem dX6_lowest_10 : decode cX6_lowest 10 = .ok (.lload_n 0, 1) := by decide +kernel
theorem dX6_lowest_11 : decode cX6_lowest 11 = .ok (.lstore 5, 2) := by decide +kernel
theorem dX6_lowest_13 : decode cX6_lowest 13 = .ok (.lload_n 2, 1) := by decide +kernel
theorem dX6_lowest_14 : decode cX6_lowest 14 = .ok (.lstore 7, 2) := by decide +kernel
theorem dX6_lowest_16 : decode cX6_lowest 16 = .ok (.lload 7, 2) := by decide +kernel
theorem dX6_lowest_18 : decode cX6_lowest 18 = .ok (.lconst 0, 1) := by decide +kernel
theorem dX6_lowest_19 : decode cX6_lowest 19 = .ok (.lcmp, 1) := by decide +kernel
theorem dX6_lowest_20 : decode cX6_lowest 20 = .ok (.ifCond .eq 21, 3) := by decide +kernel
theorem dX6_lowest_23 : decode cX6_lowest 23 = .ok (.lload 5, 2) := by decide +kernel
theorem dX6_lowest_25 : decode cX6_lowest 25 = .ok (.lload 7, 2) := by decide +kernel
theorem dX6_lowest_27 : decode cX6_lowest 27 = .ok (.lrem, 1) := by decide +kernel
theorem dX6_lowest_28 : decode cX6_lowest 28 = .ok (.lstore 9, 2) := by decide +kernel
theorem dX6_lowest_30 : decode cX6_lowest 30 = .ok (.lload 7, 2) := by decide +kernel
theorem dX6_lowest_32 : decode cX6_lowest 32 = .ok (.lstore 5, 2) := by decide +kernel
theorem dX6_lowest_34 : decode cX6_lowest 34 = .ok (.lload 9, 2) := by decide +kernel
theorem dX6_lowest_36 : decode cX6_lowest 36 = .ok (.lstore 7, 2) := by decide +kernel
theorem dX6_lowest_38 : decode cX6_lowest 38 = .ok (.goto (-22), 3) := by decide +kernel
theorem dX6_lowest_41 : decode cX6_lowest 41 = .ok (.iload 4, 2) := by decide +kernel
theorem dX6_lowest_43 : decode cX6_lowest 43 = .ok (.ifCond .ne 10, 3) := by decide +kernel
theorem dX6_lowest_46 : decode cX6_lowest 46 = .ok (.lload_n 0, 1) := by decide +kernel
theorem dX6_lowest_47 : decode cX6_lowest 47 = .ok (.lload 5, 2) := by decide +kernel
theorem dX6_lowest_49 : decode cX6_lowest 49 = .ok (.ldiv, 1) := by decide +kernel
theorem dX6_lowest_50 : decode cX6_lowest 50 = .ok (.goto 7, 3) := by decide +kernel
theorem dX6_lowest_53 : decode cX6_lowest 53 = .ok (.lload_n 2, 1) := by decide +kernel
theorem dX6_lowest_54 : decode cX6_lowest 54 = .ok (.lload 5, 2) := by decide +kernel
theorem dX6_lowest_56 : decode cX6_lowest 56 = .ok (.ldiv, 1) := by decide +kernel
theorem dX6_lowest_57 : decode cX6_lowest 57 = .ok (.lreturn, 1) := by decide +kernel
theorem dX6_weight_0 : decode cX6_weight 0 = .ok (.iload_n 1, 1) := by decide +kernel
theorem dX6_weight_1 : decode cX6_weight 1 = .ok (.invokestatic 59, 3) := by decide +kernel
theorem dX6_weight_4 : decode cX6_weight 4 = .ok (.ifCond .ne 5, 3) := by decide +kernel
theorem dX6_weight_7 : decode cX6_weight 7 = .ok (.iconst (-1), 1) := by decide +kernel
theorem dX6_weight_8 : decode cX6_weight 8 = .ok (.ireturn, 1) := by decide +kernel
theorem dX6_weight_9 : decode cX6_weight 9 = .ok (.iload_n 2, 1) := by decide +kernel
theorem dX6_weight_10 : decode cX6_weight 10 = .ok (.i2l, 1) := by decide +kernel
theorem dX6_weight_11 : decode cX6_weight 11 = .ok (.lconst 1, 1) := by decide +kernel
theorem dX6_weight_12 : decode cX6_weight 12 = .ok (.ldc2_w 63, 3) := by decide +kernel
theorem dX6_weight_15 : decode cX6_weight 15 = .ok (.invokestatic 53, 3) := by decide +kernel
theorem dX6_weight_18 : decode cX6_weight 18 = .ok (.ifCond .ne 6, 3) := by decide +kernel
theorem dX6_weight_21 : decode cX6_weight 21 = .ok (.bipush (-2), 2) := by decide +kernel
theorem dX6_weight_23 : decode cX6_weight 23 = .ok (.ireturn, 1) := by decide +kernel
theorem dX6_weight_24 : decode cX6_weight 24 = .ok (.aload_n 0, 1) := by decide +kernel
theorem dX6_weight_25 : decode cX6_weight 25 = .ok (.getfield 7, 3) := by decide +kernel
theorem dX6_weight_28 : decode cX6_weight 28 = .ok (.iload_n 1, 1) := by decide +kernel
theorem dX6_weight_29 : decode cX6_weight 29 = .ok (.iaload, 1) := by decide +kernel
theorem dX6_weight_30 : decode cX6_weight 30 = .ok (.istore_n 3, 1) := by decide +kernel
theorem dX6_weight_31 : decode cX6_weight 31 = .ok (.aload_n 0, 1) := by decide +kernel
theorem dX6_weight_32 : decode cX6_weight 32 = .ok (.getfield 7, 3) := by decide +kernel
theorem dX6_weight_35 : decode cX6_weight 35 = .ok (.iload_n 1, 1) := by decide +kernel
theorem dX6_weight_36 : decode cX6_weight 36 = .ok (.iload_n 2, 1) := by decide +kernel
theorem dX6_weight_37 : decode cX6_weight 37 = .ok (.iastore, 1) := by decide +kernel
theorem dX6_weight_38 : decode cX6_weight 38 = .ok (.iload_n 3, 1) := by decide +kernel
theorem dX6_weight_39 : decode cX6_weight 39 = .ok (.ireturn, 1) := by decide +kernel
theorem dX6_numberIs_0 : decode cX6_numberIs 0 = .ok (.iload_n 1, 1) := by decide +kernel
theorem dX6_numberIs_1 : decode cX6_numberIs 1 = .ok (.ifCond .ne 10, 3) := by decide +kernel
theorem dX6_numberIs_4 : decode cX6_numberIs 4 = .ok (.aload_n 0, 1) := by decide +kernel
theorem dX6_numberIs_5 : decode cX6_numberIs 5 = .ok (.getfield 44, 3) := by decide +kernel
theorem dX6_numberIs_8 : decode cX6_numberIs 8 = .ok (.goto 19, 3) := by decide +kernel
theorem dX6_numberIs_11 : decode cX6_numberIs 11 = .ok (.iload_n 1, 1) := by decide +kernel
theorem dX6_numberIs_12 : decode cX6_numberIs 12 = .ok (.iconst 1, 1) := by decide +kernel
theorem dX6_numberIs_13 : decode cX6_numberIs 13 = .ok (.if_icmp .ne 10, 3) := by decide +kernel
theorem dX6_numberIs_16 : decode cX6_numberIs 16 = .ok (.aload_n 0, 1) := by decide +kernel
theorem dX6_numberIs_17 : decode cX6_numberIs 17 = .ok (.getfield 48, 3) := by decide +kernel
theorem dX6_numberIs_20 : decode cX6_numberIs 20 = .ok (.goto 7, 3) := by decide +kernel
theorem dX6_numberIs_23 : decode cX6_numberIs 23 = .ok (.aload_n 0, 1) := by decide +kernel
theorem dX6_numberIs_24 : decode cX6_numberIs 24 = .ok (.getfield 65, 3) := by decide +kernel
theorem dX6_numberIs_27 : decode cX6_numberIs 27 = .ok (.ireturn, 1) := by decide +kernel
theorem dX6_set_0 : decode cX6_set 0 = .ok (.iload_n 1, 1) := by decide +kernel
theorem dX6_set_1 : decode cX6_set 1 = .ok (.i2l, 1) := by decide +kernel
theorem dX6_set_2 : decode cX6_set 2 = .ok (.lconst 0, 1) := by decide +kernel
theorem dX6_set_3 : decode cX6_set 3 = .ok (.ldc2_w 51, 3) := by decide +kernel
theorem dX6_set_6 : decode cX6_set 6 = .ok (.invokestatic 53, 3) := by decide +kernel
theorem dX6_set_9 : decode cX6_set 9 = .ok (.ifCond .eq 45, 3) := by decide +kernel
theorem dX6_set_12 : decode cX6_set 12 = .ok (.iload_n 2, 1) := by decide +kernel
theorem dX6_set_13 : decode cX6_set 13 = .ok (.i2l, 1) := by decide +kernel
theorem dX6_set_14 : decode cX6_set 14 = .ok (.iload_n 1, 1) := by decide +kernel
theorem dX6_set_15 : decode cX6_set 15 = .ok (.iconst 1, 1) := by decide +kernel
theorem dX6_set_16 : decode cX6_set 16 = .ok (.if_icmp .ne 7, 3) := by decide +kernel
theorem dX6_set_19 : decode cX6_set 19 = .ok (.lconst 1, 1) := by decide +kernel
theorem dX6_set_20 : decode cX6_set 20 = .ok (.goto 4, 3) := by decide +kernel
theorem dX6_set_23 : decode cX6_set 23 = .ok (.lconst 0, 1) := by decide +kernel
theorem dX6_set_24 : decode cX6_set 24 = .ok (.iload_n 1, 1) := by decide +kernel
theorem dX6_set_25 : decode cX6_set 25 = .ok (.ifCond .ne 9, 3) := by decide +kernel
theorem dX6_set_28 : decode cX6_set 28 = .ok (.ldc2_w 68, 3) := by decide +kernel
theorem dX6_set_31 : decode cX6_set 31 = .ok (.goto 17, 3) := by decide +kernel
theorem dX6_set_34 : decode cX6_set 34 = .ok (.iload_n 1, 1) := by decide +kernel
theorem dX6_set_35 : decode cX6_set 35 = .ok (.iconst 1, 1) := by decide +kernel
theorem dX6_set_36 : decode cX6_set 36 = .ok (.if_icmp .ne 9, 3) := by decide +kernel
theorem dX6_set_39 : decode cX6_set 39 = .ok (.ldc2_w 63, 3) := by decide +kernel
theorem dX6_set_42 : decode cX6_set 42 = .ok (.goto 6, 3) := by decide +kernel
theorem dX6_set_45 : decode cX6_set 45 = .ok (.ldc2_w 51, 3) := by decide +kernel
theorem dX6_set_48 : decode cX6_set 48 = .ok (.invokestatic 53, 3) := by decide +kernel
theorem dX6_set_51 : decode cX6_set 51 = .ok (.ifCond .ne 6, 3) := by decide +kernel
theorem dX6_set_54 : decode cX6_set 54 = .ok (.bipush (-2), 2) := by decide +kernel
theorem dX6_set_56 : decode cX6_set 56 = .ok (.ireturn, 1) := by decide +kernel
theorem dX6_set_57 : decode cX6_set 57 = .ok (.aload_n 0, 1) := by decide +kernel
theorem dX6_set_58 : decode cX6_set 58 = .ok (.iload_n 1, 1) := by decide +kernel
theorem dX6_set_59 : decode cX6_set 59 = .ok (.invokevirtual 70, 3) := by decide +kernel
theorem dX6_set_62 : decode cX6_set 62 = .ok (.istore_n 3, 1) := by decide +kernel
theorem dX6_set_63 : decode cX6_set 63 = .ok (.iload_n 1, 1) := by decide +kernel
theorem dX6_set_64 : decode cX6_set 64 = .ok (.ifCond .ne 11, 3) := by decide +kernel
theorem dX6_set_67 : decode cX6_set 67 = .ok (.aload_n 0, 1) := by decide +kernel
theorem dX6_set_68 : decode cX6_set 68 = .ok (.iload_n 2, 1) := by decide +kernel
theorem dX6_set_69 : decode cX6_set 69 = .ok (.putfield 44, 3) := by decide +kernel
theorem dX6_set_72 : decode cX6_set 72 = .ok (.goto 21, 3) := by decide +kernel
theorem dX6_set_75 : decode cX6_set 75 = .ok (.iload_n 1, 1) := by decide +kernel
theorem dX6_set_76 : decode cX6_set 76 = .ok (.iconst 1, 1) := by decide +kernel
theorem dX6_set_77 : decode cX6_set 77 = .ok (.if_icmp .ne 11, 3) := by decide +kernel
theorem dX6_set_80 : decode cX6_set 80 = .ok (.aload_n 0, 1) := by decide +kernel
theorem dX6_set_81 : decode cX6_set 81 = .ok (.iload_n 2, 1) := by decide +kernel
theorem dX6_set_82 : decode cX6_set 82 = .ok (.putfield 48, 3) := by decide +kernel
theorem dX6_set_85 : decode cX6_set 85 = .ok (.goto 8, 3) := by decide +kernel
theorem dX6_set_88 : decode cX6_set 88 = .ok (.aload_n 0, 1) := by decide +kernel
theorem dX6_set_89 : decode cX6_set 89 = .ok (.iload_n 2, 1) := by decide +kernel
theorem dX6_set_90 : decode cX6_set 90 = .ok (.putfield 65, 3) := by decide +kernel
theorem dX6_set_93 : decode cX6_set 93 = .ok (.iload_n 3, 1) := by decide +kernel
theorem dX6_set_94 : decode cX6_set 94 = .ok (.ireturn, 1) := by decide +kernel
theorem dX6_say_0 : decode cX6_say 0 = .ok (.iload_n 1, 1) := by decide +kernel
theorem dX6_say_1 : decode cX6_say 1 = .ok (.i2l, 1) := by decide +kernel
theorem dX6_say_2 : decode cX6_say 2 = .ok (.ldc2_w 74, 3) := by decide +kernel
theorem dX6_say_5 : decode cX6_say 5 = .ok (.ldc2_w 76, 3) := by decide +kernel
theorem dX6_say_8 : decode cX6_say 8 = .ok (.invokestatic 53, 3) := by decide +kernel
theorem dX6_say_11 : decode cX6_say 11 = .ok (.ifCond .ne 6, 3) := by decide +kernel
theorem dX6_say_14 : decode cX6_say 14 = .ok (.bipush (-2), 2) := by decide +kernel
theorem dX6_say_16 : decode cX6_say 16 = .ok (.ireturn, 1) := by decide +kernel
theorem dX6_say_17 : decode cX6_say 17 = .ok (.aload_n 0, 1) := by decide +kernel
theorem dX6_say_18 : decode cX6_say 18 = .ok (.getfield 78, 3) := by decide +kernel
theorem dX6_say_21 : decode cX6_say 21 = .ok (.bipush 40, 2) := by decide +kernel
theorem dX6_say_23 : decode cX6_say 23 = .ok (.if_icmp .ne 6, 3) := by decide +kernel
theorem dX6_say_26 : decode cX6_say 26 = .ok (.bipush (-4), 2) := by decide +kernel
theorem dX6_say_28 : decode cX6_say 28 = .ok (.ireturn, 1) := by decide +kernel
theorem dX6_say_29 : decode cX6_say 29 = .ok (.aload_n 0, 1) := by decide +kernel
theorem dX6_say_30 : decode cX6_say 30 = .ok (.getfield 13, 3) := by decide +kernel
theorem dX6_say_33 : decode cX6_say 33 = .ok (.aload_n 0, 1) := by decide +kernel
theorem dX6_say_34 : decode cX6_say 34 = .ok (.getfield 78, 3) := by decide +kernel
theorem dX6_say_37 : decode cX6_say 37 = .ok (.iload_n 1, 1) := by decide +kernel
theorem dX6_say_38 : decode cX6_say 38 = .ok (.iastore, 1) := by decide +kernel
theorem dX6_say_39 : decode cX6_say 39 = .ok (.aload_n 0, 1) := by decide +kernel
theorem dX6_say_40 : decode cX6_say 40 = .ok (.dup, 1) := by decide +kernel
theorem dX6_say_41 : decode cX6_say 41 = .ok (.getfield 78, 3) := by decide +kernel
theorem dX6_say_44 : decode cX6_say 44 = .ok (.iconst 1, 1) := by decide +kernel
theorem dX6_say_45 : decode cX6_say 45 = .ok (.iadd, 1) := by decide +kernel
theorem dX6_say_46 : decode cX6_say 46 = .ok (.putfield 78, 3) := by decide +kernel
theorem dX6_say_49 : decode cX6_say 49 = .ok (.aload_n 0, 1) := by decide +kernel
theorem dX6_say_50 : decode cX6_say 50 = .ok (.getfield 78, 3) := by decide +kernel
theorem dX6_say_53 : decode cX6_say 53 = .ok (.ireturn, 1) := by decide +kernel
theorem dX6_wipe_0 : decode cX6_wipe 0 = .ok (.aload_n 0, 1) := by decide +kernel
theorem dX6_wipe_1 : decode cX6_wipe 1 = .ok (.getfield 78, 3) := by decide +kernel
theorem dX6_wipe_4 : decode cX6_wipe 4 = .ok (.istore_n 1, 1) := by decide +kernel
theorem dX6_wipe_5 : decode cX6_wipe 5 = .ok (.aload_n 0, 1) := by decide +kernel
theorem dX6_wipe_6 : decode cX6_wipe 6 = .ok (.iconst 0, 1) := by decide +kernel
theorem dX6_wipe_7 : decode cX6_wipe 7 = .ok (.putfield 78, 3) := by decide +kernel
theorem dX6_wipe_10 : decode cX6_wipe 10 = .ok (.iload_n 1, 1) := by decide +kernel
theorem dX6_wipe_11 : decode cX6_wipe 11 = .ok (.ireturn, 1) := by decide +kernel
theorem dX6_fault_0 : decode cX6_fault 0 = .ok (.iconst 0, 1) := by decide +kernel
theorem dX6_fault_1 : decode cX6_fault 1 = .ok (.istore_n 1, 1) := by decide +kernel
theorem dX6_fault_2 : decode cX6_fault 2 = .ok (.iload_n 1, 1) := by decide +kernel
theorem dX6_fault_3 : decode cX6_fault 3 = .ok (.aload_n 0, 1) := by decide +kernel
theorem dX6_fault_4 : decode cX6_fault 4 = .ok (.getfield 78, 3) := by decide +kernel
theorem dX6_fault_7 : decode cX6_fault 7 = .ok (.if_icmp .ge 110, 3) := by decide +kernel
theorem dX6_fault_10 : decode cX6_fault 10 = .ok (.aload_n 0, 1) := by decide +kernel
theorem dX6_fault_11 : decode cX6_fault 11 = .ok (.getfield 13, 3) := by decide +kernel
theorem dX6_fault_14 : decode cX6_fault 14 = .ok (.iload_n 1, 1) := by decide +kernel
theorem dX6_fault_15 : decode cX6_fault 15 = .ok (.iaload, 1) := by decide +kernel
theorem dX6_fault_16 : decode cX6_fault 16 = .ok (.istore_n 2, 1) := by decide +kernel
theorem dX6_fault_17 : decode cX6_fault 17 = .ok (.iload_n 1, 1) := by decide +kernel
theorem dX6_fault_18 : decode cX6_fault 18 = .ok (.bipush 6, 2) := by decide +kernel
theorem dX6_fault_20 : decode cX6_fault 20 = .ok (.irem, 1) := by decide +kernel
theorem dX6_fault_21 : decode cX6_fault 21 = .ok (.istore_n 3, 1) := by decide +kernel
theorem dX6_fault_22 : decode cX6_fault 22 = .ok (.iload_n 3, 1) := by decide +kernel
theorem dX6_fault_23 : decode cX6_fault 23 = .ok (.iconst 3, 1) := by decide +kernel
theorem dX6_fault_24 : decode cX6_fault 24 = .ok (.if_icmp .ge 29, 3) := by decide +kernel
theorem dX6_fault_27 : decode cX6_fault 27 = .ok (.iload_n 2, 1) := by decide +kernel
theorem dX6_fault_28 : decode cX6_fault 28 = .ok (.bipush 48, 2) := by decide +kernel
theorem dX6_fault_30 : decode cX6_fault 30 = .ok (.if_icmp .eq 15, 3) := by decide +kernel
theorem dX6_fault_33 : decode cX6_fault 33 = .ok (.iload_n 2, 1) := by decide +kernel
theorem dX6_fault_34 : decode cX6_fault 34 = .ok (.bipush 49, 2) := by decide +kernel
theorem dX6_fault_36 : decode cX6_fault 36 = .ok (.if_icmp .eq 9, 3) := by decide +kernel
theorem dX6_fault_39 : decode cX6_fault 39 = .ok (.iload_n 2, 1) := by decide +kernel
theorem dX6_fault_40 : decode cX6_fault 40 = .ok (.bipush 42, 2) := by decide +kernel
theorem dX6_fault_42 : decode cX6_fault 42 = .ok (.if_icmp .ne 7, 3) := by decide +kernel
theorem dX6_fault_45 : decode cX6_fault 45 = .ok (.iconst 1, 1) := by decide +kernel
theorem dX6_fault_46 : decode cX6_fault 46 = .ok (.goto 56, 3) := by decide +kernel
theorem dX6_fault_49 : decode cX6_fault 49 = .ok (.iconst 0, 1) := by decide +kernel
theorem dX6_fault_50 : decode cX6_fault 50 = .ok (.goto 52, 3) := by decide +kernel
theorem dX6_fault_53 : decode cX6_fault 53 = .ok (.iload_n 3, 1) := by decide +kernel
theorem dX6_fault_54 : decode cX6_fault 54 = .ok (.iconst 3, 1) := by decide +kernel
theorem dX6_fault_55 : decode cX6_fault 55 = .ok (.if_icmp .ne 17, 3) := by decide +kernel
theorem dX6_fault_58 : decode cX6_fault 58 = .ok (.iload_n 2, 1) := by decide +kernel
theorem dX6_fault_59 : decode cX6_fault 59 = .ok (.bipush 58, 2) := by decide +kernel
theorem dX6_fault_61 : decode cX6_fault 61 = .ok (.if_icmp .ne 7, 3) := by decide +kernel
theorem dX6_fault_64 : decode cX6_fault 64 = .ok (.iconst 1, 1) := by decide +kernel
theorem dX6_fault_65 : decode cX6_fault 65 = .ok (.goto 37, 3) := by decide +kernel
theorem dX6_fault_68 : decode cX6_fault 68 = .ok (.iconst 0, 1) := by decide +kernel
theorem dX6_fault_69 : decode cX6_fault 69 = .ok (.goto 33, 3) := by decide +kernel
theorem dX6_fault_72 : decode cX6_fault 72 = .ok (.iload_n 3, 1) := by decide +kernel
theorem dX6_fault_73 : decode cX6_fault 73 = .ok (.iconst 4, 1) := by decide +kernel
theorem dX6_fault_74 : decode cX6_fault 74 = .ok (.if_icmp .ne 17, 3) := by decide +kernel
theorem dX6_fault_77 : decode cX6_fault 77 = .ok (.iload_n 2, 1) := by decide +kernel
theorem dX6_fault_78 : decode cX6_fault 78 = .ok (.i2l, 1) := by decide +kernel
theorem dX6_fault_79 : decode cX6_fault 79 = .ok (.ldc2_w 81, 3) := by decide +kernel
theorem dX6_fault_82 : decode cX6_fault 82 = .ok (.ldc2_w 83, 3) := by decide +kernel
theorem dX6_fault_85 : decode cX6_fault 85 = .ok (.invokestatic 53, 3) := by decide +kernel
theorem dX6_fault_88 : decode cX6_fault 88 = .ok (.goto 14, 3) := by decide +kernel
theorem dX6_fault_91 : decode cX6_fault 91 = .ok (.iload_n 2, 1) := by decide +kernel
theorem dX6_fault_92 : decode cX6_fault 92 = .ok (.bipush 59, 2) := by decide +kernel
theorem dX6_fault_94 : decode cX6_fault 94 = .ok (.if_icmp .ne 7, 3) := by decide +kernel
theorem dX6_fault_97 : decode cX6_fault 97 = .ok (.iconst 1, 1) := by decide +kernel
theorem dX6_fault_98 : decode cX6_fault 98 = .ok (.goto 4, 3) := by decide +kernel
theorem dX6_fault_101 : decode cX6_fault 101 = .ok (.iconst 0, 1) := by decide +kernel
theorem dX6_fault_102 : decode cX6_fault 102 = .ok (.istore 4, 2) := by decide +kernel
theorem dX6_fault_104 : decode cX6_fault 104 = .ok (.iload 4, 2) := by decide +kernel
theorem dX6_fault_106 : decode cX6_fault 106 = .ok (.ifCond .ne 5, 3) := by decide +kernel
theorem dX6_fault_109 : decode cX6_fault 109 = .ok (.iload_n 1, 1) := by decide +kernel
theorem dX6_fault_110 : decode cX6_fault 110 = .ok (.ireturn, 1) := by decide +kernel
theorem dX6_fault_111 : decode cX6_fault 111 = .ok (.iinc 1 1, 3) := by decide +kernel
theorem dX6_fault_114 : decode cX6_fault 114 = .ok (.goto (-112), 3) := by decide +kernel
theorem dX6_fault_117 : decode cX6_fault 117 = .ok (.aload_n 0, 1) := by decide +kernel
theorem dX6_fault_118 : decode cX6_fault 118 = .ok (.getfield 78, 3) := by decide +kernel
theorem dX6_fault_121 : decode cX6_fault 121 = .ok (.bipush 6, 2) := by decide +kernel
theorem dX6_fault_123 : decode cX6_fault 123 = .ok (.irem, 1) := by decide +kernel
theorem dX6_fault_124 : decode cX6_fault 124 = .ok (.iconst 5, 1) := by decide +kernel
theorem dX6_fault_125 : decode cX6_fault 125 = .ok (.if_icmp .ne 8, 3) := by decide +kernel
theorem dX6_fault_128 : decode cX6_fault 128 = .ok (.bipush (-6), 2) := by decide +kernel
theorem dX6_fault_130 : decode cX6_fault 130 = .ok (.goto 7, 3) := by decide +kernel
theorem dX6_fault_133 : decode cX6_fault 133 = .ok (.aload_n 0, 1) := by decide +kernel
theorem dX6_fault_134 : decode cX6_fault 134 = .ok (.getfield 78, 3) := by decide +kernel
theorem dX6_fault_137 : decode cX6_fault 137 = .ok (.ireturn, 1) := by decide +kernel
theorem dX6_before_0 : decode cX6_before 0 = .ok (.aload_n 0, 1) := by decide +kernel
theorem dX6_before_1 : decode cX6_before 1 = .ok (.invokevirtual 85, 3) := by decide +kernel
theorem dX6_before_4 : decode cX6_before 4 = .ok (.ifCond .lt 6, 3) := by decide +kernel
theorem dX6_before_7 : decode cX6_before 7 = .ok (.bipush (-5), 2) := by decide +kernel
theorem dX6_before_9 : decode cX6_before 9 = .ok (.ireturn, 1) := by decide +kernel
theorem dX6_before_10 : decode cX6_before 10 = .ok (.aload_n 0, 1) := by decide +kernel
theorem dX6_before_11 : decode cX6_before 11 = .ok (.aload_n 0, 1) := by decide +kernel
theorem dX6_before_12 : decode cX6_before 12 = .ok (.getfield 78, 3) := by decide +kernel
theorem dX6_before_15 : decode cX6_before 15 = .ok (.iconst 1, 1) := by decide +kernel
theorem dX6_before_16 : decode cX6_before 16 = .ok (.iadd, 1) := by decide +kernel
theorem dX6_before_17 : decode cX6_before 17 = .ok (.bipush 6, 2) := by decide +kernel
theorem dX6_before_19 : decode cX6_before 19 = .ok (.idiv, 1) := by decide +kernel
theorem dX6_before_20 : decode cX6_before 20 = .ok (.putfield 89, 3) := by decide +kernel
theorem dX6_before_23 : decode cX6_before 23 = .ok (.iconst 0, 1) := by decide +kernel
theorem dX6_before_24 : decode cX6_before 24 = .ok (.istore_n 1, 1) := by decide +kernel
theorem dX6_before_25 : decode cX6_before 25 = .ok (.iload_n 1, 1) := by decide +kernel
theorem dX6_before_26 : decode cX6_before 26 = .ok (.aload_n 0, 1) := by decide +kernel
theorem dX6_before_27 : decode cX6_before 27 = .ok (.getfield 89, 3) := by decide +kernel
theorem dX6_before_30 : decode cX6_before 30 = .ok (.if_icmp .ge 67, 3) := by decide +kernel
theorem dX6_before_33 : decode cX6_before 33 = .ok (.iconst 0, 1) := by decide +kernel
theorem dX6_before_34 : decode cX6_before 34 = .ok (.istore_n 2, 1) := by decide +kernel
theorem dX6_before_35 : decode cX6_before 35 = .ok (.iload_n 2, 1) := by decide +kernel
theorem dX6_before_36 : decode cX6_before 36 = .ok (.iconst 3, 1) := by decide +kernel
theorem dX6_before_37 : decode cX6_before 37 = .ok (.if_icmp .ge 30, 3) := by decide +kernel
theorem dX6_before_40 : decode cX6_before 40 = .ok (.aload_n 0, 1) := by decide +kernel
theorem dX6_before_41 : decode cX6_before 41 = .ok (.getfield 16, 3) := by decide +kernel
theorem dX6_before_44 : decode cX6_before 44 = .ok (.iconst 4, 1) := by decide +kernel
theorem dX6_before_45 : decode cX6_before 45 = .ok (.iload_n 1, 1) := by decide +kernel
theorem dX6_before_46 : decode cX6_before 46 = .ok (.imul, 1) := by decide +kernel
theorem dX6_before_47 : decode cX6_before 47 = .ok (.iload_n 2, 1) := by decide +kernel
theorem dX6_before_48 : decode cX6_before 48 = .ok (.iadd, 1) := by decide +kernel
theorem dX6_before_49 : decode cX6_before 49 = .ok (.aload_n 0, 1) := by decide +kernel
theorem dX6_before_50 : decode cX6_before 50 = .ok (.getfield 13, 3) := by decide +kernel
theorem dX6_before_53 : decode cX6_before 53 = .ok (.bipush 6, 2) := by decide +kernel
theorem dX6_before_55 : decode cX6_before 55 = .ok (.iload_n 1, 1) := by decide +kernel
theorem dX6_before_56 : decode cX6_before 56 = .ok (.imul, 1) := by decide +kernel
theorem dX6_before_57 : decode cX6_before 57 = .ok (.iload_n 2, 1) := by decide +kernel
theorem dX6_before_58 : decode cX6_before 58 = .ok (.iadd, 1) := by decide +kernel
theorem dX6_before_59 : decode cX6_before 59 = .ok (.iaload, 1) := by decide +kernel
theorem dX6_before_60 : decode cX6_before 60 = .ok (.iastore, 1) := by decide +kernel
theorem dX6_before_61 : decode cX6_before 61 = .ok (.iinc 2 1, 3) := by decide +kernel
theorem dX6_before_64 : decode cX6_before 64 = .ok (.goto (-29), 3) := by decide +kernel
theorem dX6_before_67 : decode cX6_before 67 = .ok (.aload_n 0, 1) := by decide +kernel
theorem dX6_before_68 : decode cX6_before 68 = .ok (.getfield 16, 3) := by decide +kernel
theorem dX6_before_71 : decode cX6_before 71 = .ok (.iconst 4, 1) := by decide +kernel
theorem dX6_before_72 : decode cX6_before 72 = .ok (.iload_n 1, 1) := by decide +kernel
theorem dX6_before_73 : decode cX6_before 73 = .ok (.imul, 1) := by decide +kernel
theorem dX6_before_74 : decode cX6_before 74 = .ok (.iconst 3, 1) := by decide +kernel
theorem dX6_before_75 : decode cX6_before 75 = .ok (.iadd, 1) := by decide +kernel
theorem dX6_before_76 : decode cX6_before 76 = .ok (.aload_n 0, 1) := by decide +kernel
theorem dX6_before_77 : decode cX6_before 77 = .ok (.getfield 13, 3) := by decide +kernel
theorem dX6_before_80 : decode cX6_before 80 = .ok (.bipush 6, 2) := by decide +kernel
theorem dX6_before_82 : decode cX6_before 82 = .ok (.iload_n 1, 1) := by decide +kernel
theorem dX6_before_83 : decode cX6_before 83 = .ok (.imul, 1) := by decide +kernel
theorem dX6_before_84 : decode cX6_before 84 = .ok (.iconst 4, 1) := by decide +kernel
theorem dX6_before_85 : decode cX6_before 85 = .ok (.iadd, 1) := by decide +kernel
theorem dX6_before_86 : decode cX6_before 86 = .ok (.iaload, 1) := by decide +kernel
theorem dX6_before_87 : decode cX6_before 87 = .ok (.bipush 48, 2) := by decide +kernel
theorem dX6_before_89 : decode cX6_before 89 = .ok (.isub, 1) := by decide +kernel
theorem dX6_before_90 : decode cX6_before 90 = .ok (.iastore, 1) := by decide +kernel
theorem dX6_before_91 : decode cX6_before 91 = .ok (.iinc 1 1, 3) := by decide +kernel
theorem dX6_before_94 : decode cX6_before 94 = .ok (.goto (-69), 3) := by decide +kernel
theorem dX6_before_97 : decode cX6_before 97 = .ok (.aload_n 0, 1) := by decide +kernel
theorem dX6_before_98 : decode cX6_before 98 = .ok (.iconst 0, 1) := by decide +kernel
theorem dX6_before_99 : decode cX6_before 99 = .ok (.putfield 78, 3) := by decide +kernel
theorem dX6_before_102 : decode cX6_before 102 = .ok (.aload_n 0, 1) := by decide +kernel
theorem dX6_before_103 : decode cX6_before 103 = .ok (.getfield 89, 3) := by decide +kernel
theorem dX6_before_106 : decode cX6_before 106 = .ok (.ireturn, 1) := by decide +kernel
theorem dX6_beforehand_0 : decode cX6_beforehand 0 = .ok (.iconst 0, 1) := by decide +kernel
theorem dX6_beforehand_1 : decode cX6_beforehand 1 = .ok (.istore_n 2, 1) := by decide +kernel
theorem dX6_beforehand_2 : decode cX6_beforehand 2 = .ok (.iload_n 2, 1) := by decide +kernel
theorem dX6_beforehand_3 : decode cX6_beforehand 3 = .ok (.aload_n 0, 1) := by decide +kernel
theorem dX6_beforehand_4 : decode cX6_beforehand 4 = .ok (.getfield 89, 3) := by decide +kernel
theorem dX6_beforehand_7 : decode cX6_beforehand 7 = .ok (.if_icmp .ge 85, 3) := by decide +kernel
theorem dX6_beforehand_10 : decode cX6_beforehand 10 = .ok (.iconst 1, 1) := by decide +kernel
theorem dX6_beforehand_11 : decode cX6_beforehand 11 = .ok (.istore_n 3, 1) := by decide +kernel
theorem dX6_beforehand_12 : decode cX6_beforehand 12 = .ok (.iconst 0, 1) := by decide +kernel
theorem dX6_beforehand_13 : decode cX6_beforehand 13 = .ok (.istore 4, 2) := by decide +kernel
theorem dX6_beforehand_15 : decode cX6_beforehand 15 = .ok (.iload 4, 2) := by decide +kernel
theorem dX6_beforehand_17 : decode cX6_beforehand 17 = .ok (.iconst 3, 1) := by decide +kernel
theorem dX6_beforehand_18 : decode cX6_beforehand 18 = .ok (.if_icmp .ge 53, 3) := by decide +kernel
theorem dX6_beforehand_21 : decode cX6_beforehand 21 = .ok (.aload_n 0, 1) := by decide +kernel
theorem dX6_beforehand_22 : decode cX6_beforehand 22 = .ok (.getfield 16, 3) := by decide +kernel
theorem dX6_beforehand_25 : decode cX6_beforehand 25 = .ok (.iconst 4, 1) := by decide +kernel
theorem dX6_beforehand_26 : decode cX6_beforehand 26 = .ok (.iload_n 2, 1) := by decide +kernel
theorem dX6_beforehand_27 : decode cX6_beforehand 27 = .ok (.imul, 1) := by decide +kernel
theorem dX6_beforehand_28 : decode cX6_beforehand 28 = .ok (.iload 4, 2) := by decide +kernel
theorem dX6_beforehand_30 : decode cX6_beforehand 30 = .ok (.iadd, 1) := by decide +kernel
theorem dX6_beforehand_31 : decode cX6_beforehand 31 = .ok (.iaload, 1) := by decide +kernel
theorem dX6_beforehand_32 : decode cX6_beforehand 32 = .ok (.istore 5, 2) := by decide +kernel
theorem dX6_beforehand_34 : decode cX6_beforehand 34 = .ok (.iload_n 3, 1) := by decide +kernel
theorem dX6_beforehand_35 : decode cX6_beforehand 35 = .ok (.ifCond .eq 28, 3) := by decide +kernel
theorem dX6_beforehand_38 : decode cX6_beforehand 38 = .ok (.iload 5, 2) := by decide +kernel
theorem dX6_beforehand_40 : decode cX6_beforehand 40 = .ok (.bipush 42, 2) := by decide +kernel
theorem dX6_beforehand_42 : decode cX6_beforehand 42 = .ok (.if_icmp .eq 17, 3) := by decide +kernel
theorem dX6_beforehand_45 : decode cX6_beforehand 45 = .ok (.iload 5, 2) := by decide +kernel
theorem dX6_beforehand_47 : decode cX6_beforehand 47 = .ok (.bipush 48, 2) := by decide +kernel
theorem dX6_beforehand_49 : decode cX6_beforehand 49 = .ok (.isub, 1) := by decide +kernel
theorem dX6_beforehand_50 : decode cX6_beforehand 50 = .ok (.iload_n 1, 1) := by decide +kernel
theorem dX6_beforehand_51 : decode cX6_beforehand 51 = .ok (.iload 4, 2) := by decide +kernel
theorem dX6_beforehand_53 : decode cX6_beforehand 53 = .ok (.ishr, 1) := by decide +kernel
theorem dX6_beforehand_54 : decode cX6_beforehand 54 = .ok (.iconst 1, 1) := by decide +kernel
theorem dX6_beforehand_55 : decode cX6_beforehand 55 = .ok (.iand, 1) := by decide +kernel
theorem dX6_beforehand_56 : decode cX6_beforehand 56 = .ok (.if_icmp .ne 7, 3) := by decide +kernel
theorem dX6_beforehand_59 : decode cX6_beforehand 59 = .ok (.iconst 1, 1) := by decide +kernel
theorem dX6_beforehand_60 : decode cX6_beforehand 60 = .ok (.goto 4, 3) := by decide +kernel
theorem dX6_beforehand_63 : decode cX6_beforehand 63 = .ok (.iconst 0, 1) := by decide +kernel
theorem dX6_beforehand_64 : decode cX6_beforehand 64 = .ok (.istore_n 3, 1) := by decide +kernel
theorem dX6_beforehand_65 : decode cX6_beforehand 65 = .ok (.iinc 4 1, 3) := by decide +kernel
theorem dX6_beforehand_68 : decode cX6_beforehand 68 = .ok (.goto (-53), 3) := by decide +kernel
theorem dX6_beforehand_71 : decode cX6_beforehand 71 = .ok (.iload_n 3, 1) := by decide +kernel
theorem dX6_beforehand_72 : decode cX6_beforehand 72 = .ok (.ifCond .eq 14, 3) := by decide +kernel
theorem dX6_beforehand_75 : decode cX6_beforehand 75 = .ok (.aload_n 0, 1) := by decide +kernel
theorem dX6_beforehand_76 : decode cX6_beforehand 76 = .ok (.getfield 16, 3) := by decide +kernel
theorem dX6_beforehand_79 : decode cX6_beforehand 79 = .ok (.iconst 4, 1) := by decide +kernel
theorem dX6_beforehand_80 : decode cX6_beforehand 80 = .ok (.iload_n 2, 1) := by decide +kernel
theorem dX6_beforehand_81 : decode cX6_beforehand 81 = .ok (.imul, 1) := by decide +kernel
theorem dX6_beforehand_82 : decode cX6_beforehand 82 = .ok (.iconst 3, 1) := by decide +kernel
theorem dX6_beforehand_83 : decode cX6_beforehand 83 = .ok (.iadd, 1) := by decide +kernel
theorem dX6_beforehand_84 : decode cX6_beforehand 84 = .ok (.iaload, 1) := by decide +kernel
