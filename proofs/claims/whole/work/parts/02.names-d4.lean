theorem dX6_lives_128 : decode cX6_lives 128 = .ok (.iload 5, 2) := by decide +kernel
theorem dX6_lives_130 : decode cX6_lives 130 = .ok (.invokestatic 124, 3) := by decide +kernel
theorem dX6_lives_133 : decode cX6_lives 133 = .ok (.lreturn, 1) := by decide +kernel
theorem dX6_often_0 : decode cX6_often 0 = .ok (.iload_n 1, 1) := by decide +kernel
theorem dX6_often_1 : decode cX6_often 1 = .ok (.invokestatic 92, 3) := by decide +kernel
theorem dX6_often_4 : decode cX6_often 4 = .ok (.ifCond .eq 10, 3) := by decide +kernel
theorem dX6_often_7 : decode cX6_often 7 = .ok (.iload_n 2, 1) := by decide +kernel
theorem dX6_often_8 : decode cX6_often 8 = .ok (.invokestatic 59, 3) := by decide +kernel
theorem dX6_often_11 : decode cX6_often 11 = .ok (.ifCond .ne 5, 3) := by decide +kernel
theorem dX6_often_14 : decode cX6_often 14 = .ok (.iconst (-1), 1) := by decide +kernel
theorem dX6_often_15 : decode cX6_often 15 = .ok (.ireturn, 1) := by decide +kernel
theorem dX6_often_16 : decode cX6_often 16 = .ok (.iload_n 3, 1) := by decide +kernel
theorem dX6_often_17 : decode cX6_often 17 = .ok (.i2l, 1) := by decide +kernel
theorem dX6_often_18 : decode cX6_often 18 = .ok (.lconst 0, 1) := by decide +kernel
theorem dX6_often_19 : decode cX6_often 19 = .ok (.ldc2_w 137, 3) := by decide +kernel
theorem dX6_often_22 : decode cX6_often 22 = .ok (.invokestatic 53, 3) := by decide +kernel
theorem dX6_often_25 : decode cX6_often 25 = .ok (.ifCond .ne 6, 3) := by decide +kernel
theorem dX6_often_28 : decode cX6_often 28 = .ok (.bipush (-2), 2) := by decide +kernel
theorem dX6_often_30 : decode cX6_often 30 = .ok (.ireturn, 1) := by decide +kernel
theorem dX6_often_31 : decode cX6_often 31 = .ok (.aload_n 0, 1) := by decide +kernel
theorem dX6_often_32 : decode cX6_often 32 = .ok (.getfield 7, 3) := by decide +kernel
theorem dX6_often_35 : decode cX6_often 35 = .ok (.iload_n 2, 1) := by decide +kernel
theorem dX6_often_36 : decode cX6_often 36 = .ok (.iaload, 1) := by decide +kernel
theorem dX6_often_37 : decode cX6_often 37 = .ok (.istore 4, 2) := by decide +kernel
theorem dX6_often_39 : decode cX6_often 39 = .ok (.bipush (-6), 2) := by decide +kernel
theorem dX6_often_41 : decode cX6_often 41 = .ok (.istore 5, 2) := by decide +kernel
theorem dX6_often_43 : decode cX6_often 43 = .ok (.iconst 1, 1) := by decide +kernel
theorem dX6_often_44 : decode cX6_often 44 = .ok (.istore 6, 2) := by decide +kernel
theorem dX6_often_46 : decode cX6_often 46 = .ok (.iload 6, 2) := by decide +kernel
theorem dX6_often_48 : decode cX6_often 48 = .ok (.iconst 4, 1) := by decide +kernel
theorem dX6_often_49 : decode cX6_often 49 = .ok (.if_icmp .gt 105, 3) := by decide +kernel
theorem dX6_often_52 : decode cX6_often 52 = .ok (.iload 5, 2) := by decide +kernel
theorem dX6_often_54 : decode cX6_often 54 = .ok (.ifCond .ge 100, 3) := by decide +kernel
theorem dX6_often_57 : decode cX6_often 57 = .ok (.aload_n 0, 1) := by decide +kernel
theorem dX6_often_58 : decode cX6_often 58 = .ok (.getfield 7, 3) := by decide +kernel
theorem dX6_often_61 : decode cX6_often 61 = .ok (.iload_n 2, 1) := by decide +kernel
theorem dX6_often_62 : decode cX6_often 62 = .ok (.iload 6, 2) := by decide +kernel
theorem dX6_often_64 : decode cX6_often 64 = .ok (.iastore, 1) := by decide +kernel
theorem dX6_often_65 : decode cX6_often 65 = .ok (.aload_n 0, 1) := by decide +kernel
theorem dX6_often_66 : decode cX6_often 66 = .ok (.iconst 0, 1) := by decide +kernel
theorem dX6_often_67 : decode cX6_often 67 = .ok (.iconst 0, 1) := by decide +kernel
theorem dX6_often_68 : decode cX6_often 68 = .ok (.invokevirtual 155, 3) := by decide +kernel
theorem dX6_often_71 : decode cX6_often 71 = .ok (.lconst 0, 1) := by decide +kernel
theorem dX6_often_72 : decode cX6_often 72 = .ok (.lstore 7, 2) := by decide +kernel
theorem dX6_often_74 : decode cX6_often 74 = .ok (.iconst 0, 1) := by decide +kernel
theorem dX6_often_75 : decode cX6_often 75 = .ok (.istore 9, 2) := by decide +kernel
theorem dX6_often_77 : decode cX6_often 77 = .ok (.iload 9, 2) := by decide +kernel
theorem dX6_often_79 : decode cX6_often 79 = .ok (.bipush 8, 2) := by decide +kernel
theorem dX6_often_81 : decode cX6_often 81 = .ok (.if_icmp .ge 41, 3) := by decide +kernel
theorem dX6_often_84 : decode cX6_often 84 = .ok (.lload 7, 2) := by decide +kernel
theorem dX6_often_86 : decode cX6_often 86 = .ok (.iload 9, 2) := by decide +kernel
theorem dX6_often_88 : decode cX6_often 88 = .ok (.iload_n 1, 1) := by decide +kernel
theorem dX6_often_89 : decode cX6_often 89 = .ok (.ixor, 1) := by decide +kernel
theorem dX6_often_90 : decode cX6_often 90 = .ok (.iload_n 2, 1) := by decide +kernel
theorem dX6_often_91 : decode cX6_often 91 = .ok (.ishr, 1) := by decide +kernel
theorem dX6_often_92 : decode cX6_often 92 = .ok (.iconst 1, 1) := by decide +kernel
theorem dX6_often_93 : decode cX6_often 93 = .ok (.iand, 1) := by decide +kernel
theorem dX6_often_94 : decode cX6_often 94 = .ok (.ifCond .ne 18, 3) := by decide +kernel
theorem dX6_often_97 : decode cX6_often 97 = .ok (.aload_n 0, 1) := by decide +kernel
theorem dX6_often_98 : decode cX6_often 98 = .ok (.getfield 25, 3) := by decide +kernel
theorem dX6_often_101 : decode cX6_often 101 = .ok (.bipush 8, 2) := by decide +kernel
theorem dX6_often_103 : decode cX6_often 103 = .ok (.iload_n 1, 1) := by decide +kernel
theorem dX6_often_104 : decode cX6_often 104 = .ok (.imul, 1) := by decide +kernel
theorem dX6_often_105 : decode cX6_often 105 = .ok (.iload 9, 2) := by decide +kernel
theorem dX6_often_107 : decode cX6_often 107 = .ok (.iadd, 1) := by decide +kernel
theorem dX6_often_108 : decode cX6_often 108 = .ok (.laload, 1) := by decide +kernel
theorem dX6_often_109 : decode cX6_often 109 = .ok (.goto 4, 3) := by decide +kernel
theorem dX6_often_112 : decode cX6_often 112 = .ok (.lconst 0, 1) := by decide +kernel
theorem dX6_often_113 : decode cX6_often 113 = .ok (.ladd, 1) := by decide +kernel
theorem dX6_often_114 : decode cX6_often 114 = .ok (.lstore 7, 2) := by decide +kernel
theorem dX6_often_116 : decode cX6_often 116 = .ok (.iinc 9 1, 3) := by decide +kernel
theorem dX6_often_119 : decode cX6_often 119 = .ok (.goto (-42), 3) := by decide +kernel
theorem dX6_often_122 : decode cX6_often 122 = .ok (.lload 7, 2) := by decide +kernel
theorem dX6_often_124 : decode cX6_often 124 = .ok (.ldc2_w 137, 3) := by decide +kernel
theorem dX6_often_127 : decode cX6_often 127 = .ok (.lmul, 1) := by decide +kernel
theorem dX6_often_128 : decode cX6_often 128 = .ok (.iload_n 3, 1) := by decide +kernel
theorem dX6_often_129 : decode cX6_often 129 = .ok (.i2l, 1) := by decide +kernel
theorem dX6_often_130 : decode cX6_often 130 = .ok (.aload_n 0, 1) := by decide +kernel
theorem dX6_often_131 : decode cX6_often 131 = .ok (.getfield 143, 3) := by decide +kernel
theorem dX6_often_134 : decode cX6_often 134 = .ok (.lmul, 1) := by decide +kernel
theorem dX6_often_135 : decode cX6_often 135 = .ok (.lcmp, 1) := by decide +kernel
theorem dX6_often_136 : decode cX6_often 136 = .ok (.ifCond .lt 8, 3) := by decide +kernel
theorem dX6_often_139 : decode cX6_often 139 = .ok (.iload 6, 2) := by decide +kernel
theorem dX6_often_141 : decode cX6_often 141 = .ok (.goto 5, 3) := by decide +kernel
theorem dX6_often_144 : decode cX6_often 144 = .ok (.bipush (-6), 2) := by decide +kernel
theorem dX6_often_146 : decode cX6_often 146 = .ok (.istore 5, 2) := by decide +kernel
theorem dX6_often_148 : decode cX6_often 148 = .ok (.iinc 6 1, 3) := by decide +kernel
theorem dX6_often_151 : decode cX6_often 151 = .ok (.goto (-105), 3) := by decide +kernel
theorem dX6_often_154 : decode cX6_often 154 = .ok (.aload_n 0, 1) := by decide +kernel
theorem dX6_often_155 : decode cX6_often 155 = .ok (.getfield 7, 3) := by decide +kernel
theorem dX6_often_158 : decode cX6_often 158 = .ok (.iload_n 2, 1) := by decide +kernel
theorem dX6_often_159 : decode cX6_often 159 = .ok (.iload 4, 2) := by decide +kernel
theorem dX6_often_161 : decode cX6_often 161 = .ok (.iastore, 1) := by decide +kernel
theorem dX6_often_162 : decode cX6_often 162 = .ok (.iload 5, 2) := by decide +kernel
theorem dX6_often_164 : decode cX6_often 164 = .ok (.ireturn, 1) := by decide +kernel
theorem dX6_choose_0 : decode cX6_choose 0 = .ok (.iconst 0, 1) := by decide +kernel
theorem dX6_choose_1 : decode cX6_choose 1 = .ok (.istore_n 3, 1) := by decide +kernel
theorem dX6_choose_2 : decode cX6_choose 2 = .ok (.iload_n 3, 1) := by decide +kernel
theorem dX6_choose_3 : decode cX6_choose 3 = .ok (.iconst 4, 1) := by decide +kernel
theorem dX6_choose_4 : decode cX6_choose 4 = .ok (.if_icmp .ge 16, 3) := by decide +kernel
theorem dX6_choose_7 : decode cX6_choose 7 = .ok (.aload_n 0, 1) := by decide +kernel
theorem dX6_choose_8 : decode cX6_choose 8 = .ok (.getfield 38, 3) := by decide +kernel
theorem dX6_choose_11 : decode cX6_choose 11 = .ok (.iload_n 3, 1) := by decide +kernel
theorem dX6_choose_12 : decode cX6_choose 12 = .ok (.iconst 0, 1) := by decide +kernel
theorem dX6_choose_13 : decode cX6_choose 13 = .ok (.iastore, 1) := by decide +kernel
theorem dX6_choose_14 : decode cX6_choose 14 = .ok (.iinc 3 1, 3) := by decide +kernel
theorem dX6_choose_17 : decode cX6_choose 17 = .ok (.goto (-15), 3) := by decide +kernel
theorem dX6_choose_20 : decode cX6_choose 20 = .ok (.aload_n 0, 1) := by decide +kernel
theorem dX6_choose_21 : decode cX6_choose 21 = .ok (.iload_n 2, 1) := by decide +kernel
theorem dX6_choose_22 : decode cX6_choose 22 = .ok (.putfield 101, 3) := by decide +kernel
theorem dX6_choose_25 : decode cX6_choose 25 = .ok (.iconst 1, 1) := by decide +kernel
theorem dX6_choose_26 : decode cX6_choose 26 = .ok (.istore_n 3, 1) := by decide +kernel
theorem dX6_choose_27 : decode cX6_choose 27 = .ok (.iload_n 3, 1) := by decide +kernel
theorem dX6_choose_28 : decode cX6_choose 28 = .ok (.ifCond .eq 145, 3) := by decide +kernel
theorem dX6_choose_31 : decode cX6_choose 31 = .ok (.iconst 0, 1) := by decide +kernel
theorem dX6_choose_32 : decode cX6_choose 32 = .ok (.istore 4, 2) := by decide +kernel
theorem dX6_choose_34 : decode cX6_choose 34 = .ok (.iload 4, 2) := by decide +kernel
theorem dX6_choose_36 : decode cX6_choose 36 = .ok (.iload_n 2, 1) := by decide +kernel
theorem dX6_choose_37 : decode cX6_choose 37 = .ok (.if_icmp .ge 37, 3) := by decide +kernel
theorem dX6_choose_40 : decode cX6_choose 40 = .ok (.aload_n 0, 1) := by decide +kernel
theorem dX6_choose_41 : decode cX6_choose 41 = .ok (.getfield 22, 3) := by decide +kernel
theorem dX6_choose_44 : decode cX6_choose 44 = .ok (.iload 4, 2) := by decide +kernel
theorem dX6_choose_46 : decode cX6_choose 46 = .ok (.iconst 2, 1) := by decide +kernel
theorem dX6_choose_47 : decode cX6_choose 47 = .ok (.aload_n 0, 1) := by decide +kernel
theorem dX6_choose_48 : decode cX6_choose 48 = .ok (.getfield 38, 3) := by decide +kernel
theorem dX6_choose_51 : decode cX6_choose 51 = .ok (.iload 4, 2) := by decide +kernel
theorem dX6_choose_53 : decode cX6_choose 53 = .ok (.iaload, 1) := by decide +kernel
theorem dX6_choose_54 : decode cX6_choose 54 = .ok (.imul, 1) := by decide +kernel
theorem dX6_choose_55 : decode cX6_choose 55 = .ok (.iload_n 1, 1) := by decide +kernel
theorem dX6_choose_56 : decode cX6_choose 56 = .ok (.aload_n 0, 1) := by decide +kernel
theorem dX6_choose_57 : decode cX6_choose 57 = .ok (.getfield 38, 3) := by decide +kernel
theorem dX6_choose_60 : decode cX6_choose 60 = .ok (.iload 4, 2) := by decide +kernel
theorem dX6_choose_62 : decode cX6_choose 62 = .ok (.iaload, 1) := by decide +kernel
theorem dX6_choose_63 : decode cX6_choose 63 = .ok (.ishr, 1) := by decide +kernel
theorem dX6_choose_64 : decode cX6_choose 64 = .ok (.iconst 1, 1) := by decide +kernel
theorem dX6_choose_65 : decode cX6_choose 65 = .ok (.iand, 1) := by decide +kernel
theorem dX6_choose_66 : decode cX6_choose 66 = .ok (.iadd, 1) := by decide +kernel
theorem dX6_choose_67 : decode cX6_choose 67 = .ok (.iastore, 1) := by decide +kernel
theorem dX6_choose_68 : decode cX6_choose 68 = .ok (.iinc 4 1, 3) := by decide +kernel
theorem dX6_choose_71 : decode cX6_choose 71 = .ok (.goto (-37), 3) := by decide +kernel
theorem dX6_choose_74 : decode cX6_choose 74 = .ok (.aload_n 0, 1) := by decide +kernel
theorem dX6_choose_75 : decode cX6_choose 75 = .ok (.invokevirtual 134, 3) := by decide +kernel
theorem dX6_choose_78 : decode cX6_choose 78 = .ok (.iload_n 1, 1) := by decide +kernel
theorem dX6_choose_79 : decode cX6_choose 79 = .ok (.if_icmp .ne 5, 3) := by decide +kernel
theorem dX6_choose_82 : decode cX6_choose 82 = .ok (.iconst 1, 1) := by decide +kernel
theorem dX6_choose_83 : decode cX6_choose 83 = .ok (.ireturn, 1) := by decide +kernel
theorem dX6_choose_84 : decode cX6_choose 84 = .ok (.iload_n 2, 1) := by decide +kernel
theorem dX6_choose_85 : decode cX6_choose 85 = .ok (.iconst 1, 1) := by decide +kernel
theorem dX6_choose_86 : decode cX6_choose 86 = .ok (.isub, 1) := by decide +kernel
theorem dX6_choose_87 : decode cX6_choose 87 = .ok (.istore 4, 2) := by decide +kernel
theorem dX6_choose_89 : decode cX6_choose 89 = .ok (.iload 4, 2) := by decide +kernel
theorem dX6_choose_91 : decode cX6_choose 91 = .ok (.ifCond .lt 20, 3) := by decide +kernel
theorem dX6_choose_94 : decode cX6_choose 94 = .ok (.aload_n 0, 1) := by decide +kernel
theorem dX6_choose_95 : decode cX6_choose 95 = .ok (.getfield 38, 3) := by decide +kernel
theorem dX6_choose_98 : decode cX6_choose 98 = .ok (.iload 4, 2) := by decide +kernel
theorem dX6_choose_100 : decode cX6_choose 100 = .ok (.iaload, 1) := by decide +kernel
theorem dX6_choose_101 : decode cX6_choose 101 = .ok (.iconst 2, 1) := by decide +kernel
theorem dX6_choose_102 : decode cX6_choose 102 = .ok (.if_icmp .ne 9, 3) := by decide +kernel
theorem dX6_choose_105 : decode cX6_choose 105 = .ok (.iinc 4 (-1), 3) := by decide +kernel
theorem dX6_choose_108 : decode cX6_choose 108 = .ok (.goto (-19), 3) := by decide +kernel
theorem dX6_choose_111 : decode cX6_choose 111 = .ok (.iload 4, 2) := by decide +kernel
theorem dX6_choose_113 : decode cX6_choose 113 = .ok (.ifCond .lt 7, 3) := by decide +kernel
theorem dX6_choose_116 : decode cX6_choose 116 = .ok (.iconst 1, 1) := by decide +kernel
theorem dX6_choose_117 : decode cX6_choose 117 = .ok (.goto 4, 3) := by decide +kernel
theorem dX6_choose_120 : decode cX6_choose 120 = .ok (.iconst 0, 1) := by decide +kernel
theorem dX6_choose_121 : decode cX6_choose 121 = .ok (.istore_n 3, 1) := by decide +kernel
theorem dX6_choose_122 : decode cX6_choose 122 = .ok (.iload_n 3, 1) := by decide +kernel
theorem dX6_choose_123 : decode cX6_choose 123 = .ok (.ifCond .eq 15, 3) := by decide +kernel
theorem dX6_choose_126 : decode cX6_choose 126 = .ok (.aload_n 0, 1) := by decide +kernel
theorem dX6_choose_127 : decode cX6_choose 127 = .ok (.getfield 38, 3) := by decide +kernel
theorem dX6_choose_130 : decode cX6_choose 130 = .ok (.iload 4, 2) := by decide +kernel
theorem dX6_choose_132 : decode cX6_choose 132 = .ok (.iaload, 1) := by decide +kernel
theorem dX6_choose_133 : decode cX6_choose 133 = .ok (.iconst 1, 1) := by decide +kernel
theorem dX6_choose_134 : decode cX6_choose 134 = .ok (.iadd, 1) := by decide +kernel
theorem dX6_choose_135 : decode cX6_choose 135 = .ok (.goto 4, 3) := by decide +kernel
theorem dX6_choose_138 : decode cX6_choose 138 = .ok (.iconst 0, 1) := by decide +kernel
theorem dX6_choose_139 : decode cX6_choose 139 = .ok (.istore 5, 2) := by decide +kernel
theorem dX6_choose_141 : decode cX6_choose 141 = .ok (.iload 4, 2) := by decide +kernel
theorem dX6_choose_143 : decode cX6_choose 143 = .ok (.istore 6, 2) := by decide +kernel
theorem dX6_choose_145 : decode cX6_choose 145 = .ok (.iload 6, 2) := by decide +kernel
theorem dX6_choose_147 : decode cX6_choose 147 = .ok (.iload_n 2, 1) := by decide +kernel
theorem dX6_choose_148 : decode cX6_choose 148 = .ok (.if_icmp .ge 22, 3) := by decide +kernel
theorem dX6_choose_151 : decode cX6_choose 151 = .ok (.iload_n 3, 1) := by decide +kernel
theorem dX6_choose_152 : decode cX6_choose 152 = .ok (.ifCond .eq 18, 3) := by decide +kernel
theorem dX6_choose_155 : decode cX6_choose 155 = .ok (.aload_n 0, 1) := by decide +kernel
theorem dX6_choose_156 : decode cX6_choose 156 = .ok (.getfield 38, 3) := by decide +kernel
theorem dX6_choose_159 : decode cX6_choose 159 = .ok (.iload 6, 2) := by decide +kernel
theorem dX6_choose_161 : decode cX6_choose 161 = .ok (.iload 5, 2) := by decide +kernel
theorem dX6_choose_163 : decode cX6_choose 163 = .ok (.iastore, 1) := by decide +kernel
theorem dX6_choose_164 : decode cX6_choose 164 = .ok (.iinc 6 1, 3) := by decide +kernel
theorem dX6_choose_167 : decode cX6_choose 167 = .ok (.goto (-22), 3) := by decide +kernel
theorem dX6_choose_170 : decode cX6_choose 170 = .ok (.goto (-143), 3) := by decide +kernel
theorem dX6_choose_173 : decode cX6_choose 173 = .ok (.iconst 0, 1) := by decide +kernel
theorem dX6_choose_174 : decode cX6_choose 174 = .ok (.ireturn, 1) := by decide +kernel
theorem dX6_chosen_0 : decode cX6_chosen 0 = .ok (.iload_n 1, 1) := by decide +kernel
theorem dX6_chosen_1 : decode cX6_chosen 1 = .ok (.invokestatic 92, 3) := by decide +kernel
theorem dX6_chosen_4 : decode cX6_chosen 4 = .ok (.ifCond .ne 5, 3) := by decide +kernel
theorem dX6_chosen_7 : decode cX6_chosen 7 = .ok (.iconst (-1), 1) := by decide +kernel
theorem dX6_chosen_8 : decode cX6_chosen 8 = .ok (.ireturn, 1) := by decide +kernel
theorem dX6_chosen_9 : decode cX6_chosen 9 = .ok (.iconst 1, 1) := by decide +kernel
theorem dX6_chosen_10 : decode cX6_chosen 10 = .ok (.istore_n 3, 1) := by decide +kernel
theorem dX6_chosen_11 : decode cX6_chosen 11 = .ok (.iload_n 3, 1) := by decide +kernel
theorem dX6_chosen_12 : decode cX6_chosen 12 = .ok (.iconst 5, 1) := by decide +kernel
theorem dX6_chosen_13 : decode cX6_chosen 13 = .ok (.if_icmp .ge 18, 3) := by decide +kernel
theorem dX6_chosen_16 : decode cX6_chosen 16 = .ok (.aload_n 0, 1) := by decide +kernel
theorem dX6_chosen_17 : decode cX6_chosen 17 = .ok (.iload_n 1, 1) := by decide +kernel
theorem dX6_chosen_18 : decode cX6_chosen 18 = .ok (.iload_n 3, 1) := by decide +kernel
theorem dX6_chosen_19 : decode cX6_chosen 19 = .ok (.invokevirtual 176, 3) := by decide +kernel
theorem dX6_chosen_22 : decode cX6_chosen 22 = .ok (.ifCond .ne 9, 3) := by decide +kernel
theorem dX6_chosen_25 : decode cX6_chosen 25 = .ok (.iinc 3 1, 3) := by decide +kernel
theorem dX6_chosen_28 : decode cX6_chosen 28 = .ok (.goto (-17), 3) := by decide +kernel
theorem dX6_chosen_31 : decode cX6_chosen 31 = .ok (.iload_n 3, 1) := by decide +kernel
theorem dX6_chosen_32 : decode cX6_chosen 32 = .ok (.iconst 5, 1) := by decide +kernel
theorem dX6_chosen_33 : decode cX6_chosen 33 = .ok (.if_icmp .ne 6, 3) := by decide +kernel
theorem dX6_chosen_36 : decode cX6_chosen 36 = .ok (.bipush (-6), 2) := by decide +kernel
theorem dX6_chosen_38 : decode cX6_chosen 38 = .ok (.ireturn, 1) := by decide +kernel
theorem dX6_chosen_39 : decode cX6_chosen 39 = .ok (.iload_n 2, 1) := by decide +kernel
theorem dX6_chosen_40 : decode cX6_chosen 40 = .ok (.iconst (-1), 1) := by decide +kernel
theorem dX6_chosen_41 : decode cX6_chosen 41 = .ok (.if_icmp .ne 7, 3) := by decide +kernel
theorem dX6_chosen_44 : decode cX6_chosen 44 = .ok (.iload_n 3, 1) := by decide +kernel
theorem dX6_chosen_45 : decode cX6_chosen 45 = .ok (.goto 27, 3) := by decide +kernel
theorem dX6_chosen_48 : decode cX6_chosen 48 = .ok (.iload_n 2, 1) := by decide +kernel
theorem dX6_chosen_49 : decode cX6_chosen 49 = .ok (.i2l, 1) := by decide +kernel
theorem dX6_chosen_50 : decode cX6_chosen 50 = .ok (.lconst 0, 1) := by decide +kernel
theorem dX6_chosen_51 : decode cX6_chosen 51 = .ok (.iload_n 3, 1) := by decide +kernel
theorem dX6_chosen_52 : decode cX6_chosen 52 = .ok (.iconst 1, 1) := by decide +kernel
theorem dX6_chosen_53 : decode cX6_chosen 53 = .ok (.isub, 1) := by decide +kernel
theorem dX6_chosen_54 : decode cX6_chosen 54 = .ok (.i2l, 1) := by decide +kernel
theorem dX6_chosen_55 : decode cX6_chosen 55 = .ok (.invokestatic 53, 3) := by decide +kernel
theorem dX6_chosen_58 : decode cX6_chosen 58 = .ok (.ifCond .eq 12, 3) := by decide +kernel
theorem dX6_chosen_61 : decode cX6_chosen 61 = .ok (.aload_n 0, 1) := by decide +kernel
theorem dX6_chosen_62 : decode cX6_chosen 62 = .ok (.getfield 38, 3) := by decide +kernel
theorem dX6_chosen_65 : decode cX6_chosen 65 = .ok (.iload_n 2, 1) := by decide +kernel
theorem dX6_chosen_66 : decode cX6_chosen 66 = .ok (.iaload, 1) := by decide +kernel
theorem dX6_chosen_67 : decode cX6_chosen 67 = .ok (.goto 5, 3) := by decide +kernel
theorem dX6_chosen_70 : decode cX6_chosen 70 = .ok (.bipush (-6), 2) := by decide +kernel
theorem dX6_chosen_72 : decode cX6_chosen 72 = .ok (.ireturn, 1) := by decide +kernel
theorem dX6_findCame_0 : decode cX6_findCame 0 = .ok (.aload_n 0, 1) := by decide +kernel
theorem dX6_findCame_1 : decode cX6_findCame 1 = .ok (.iconst 0, 1) := by decide +kernel
theorem dX6_findCame_2 : decode cX6_findCame 2 = .ok (.iconst 0, 1) := by decide +kernel
theorem dX6_findCame_3 : decode cX6_findCame 3 = .ok (.invokevirtual 155, 3) := by decide +kernel
theorem dX6_findCame_6 : decode cX6_findCame 6 = .ok (.lconst 0, 1) := by decide +kernel
theorem dX6_findCame_7 : decode cX6_findCame 7 = .ok (.lstore_n 3, 1) := by decide +kernel
theorem dX6_findCame_8 : decode cX6_findCame 8 = .ok (.iconst 0, 1) := by decide +kernel
theorem dX6_findCame_9 : decode cX6_findCame 9 = .ok (.istore 5, 2) := by decide +kernel
theorem dX6_findCame_11 : decode cX6_findCame 11 = .ok (.iload 5, 2) := by decide +kernel
theorem dX6_findCame_13 : decode cX6_findCame 13 = .ok (.bipush 8, 2) := by decide +kernel
theorem dX6_findCame_15 : decode cX6_findCame 15 = .ok (.if_icmp .ge 39, 3) := by decide +kernel
theorem dX6_findCame_18 : decode cX6_findCame 18 = .ok (.aload_n 0, 1) := by decide +kernel
theorem dX6_findCame_19 : decode cX6_findCame 19 = .ok (.iload 5, 2) := by decide +kernel
theorem dX6_findCame_21 : decode cX6_findCame 21 = .ok (.iload_n 2, 1) := by decide +kernel
theorem dX6_findCame_22 : decode cX6_findCame 22 = .ok (.invokevirtual 167, 3) := by decide +kernel
theorem dX6_findCame_25 : decode cX6_findCame 25 = .ok (.aload_n 0, 1) := by decide +kernel
theorem dX6_findCame_26 : decode cX6_findCame 26 = .ok (.getfield 41, 3) := by decide +kernel
theorem dX6_findCame_29 : decode cX6_findCame 29 = .ok (.iload 5, 2) := by decide +kernel
theorem dX6_findCame_31 : decode cX6_findCame 31 = .ok (.aload_n 0, 1) := by decide +kernel
theorem dX6_findCame_32 : decode cX6_findCame 32 = .ok (.getfield 29, 3) := by decide +kernel
theorem dX6_findCame_35 : decode cX6_findCame 35 = .ok (.iload_n 1, 1) := by decide +kernel
theorem dX6_findCame_36 : decode cX6_findCame 36 = .ok (.laload, 1) := by decide +kernel
theorem dX6_findCame_37 : decode cX6_findCame 37 = .ok (.lastore, 1) := by decide +kernel
theorem dX6_findCame_38 : decode cX6_findCame 38 = .ok (.lload_n 3, 1) := by decide +kernel
theorem dX6_findCame_39 : decode cX6_findCame 39 = .ok (.aload_n 0, 1) := by decide +kernel
theorem dX6_findCame_40 : decode cX6_findCame 40 = .ok (.getfield 41, 3) := by decide +kernel
theorem dX6_findCame_43 : decode cX6_findCame 43 = .ok (.iload 5, 2) := by decide +kernel
theorem dX6_findCame_45 : decode cX6_findCame 45 = .ok (.laload, 1) := by decide +kernel
theorem dX6_findCame_46 : decode cX6_findCame 46 = .ok (.ladd, 1) := by decide +kernel
theorem dX6_findCame_47 : decode cX6_findCame 47 = .ok (.lstore_n 3, 1) := by decide +kernel
theorem dX6_findCame_48 : decode cX6_findCame 48 = .ok (.iinc 5 1, 3) := by decide +kernel
theorem dX6_findCame_51 : decode cX6_findCame 51 = .ok (.goto (-40), 3) := by decide +kernel
theorem dX6_findCame_54 : decode cX6_findCame 54 = .ok (.lload_n 3, 1) := by decide +kernel
theorem dX6_findCame_55 : decode cX6_findCame 55 = .ok (.lreturn, 1) := by decide +kernel
theorem dX6_back_0 : decode cX6_back 0 = .ok (.iload_n 1, 1) := by decide +kernel
theorem dX6_back_1 : decode cX6_back 1 = .ok (.invokestatic 92, 3) := by decide +kernel
theorem dX6_back_4 : decode cX6_back 4 = .ok (.ifCond .eq 10, 3) := by decide +kernel
theorem dX6_back_7 : decode cX6_back 7 = .ok (.iload_n 3, 1) := by decide +kernel
theorem dX6_back_8 : decode cX6_back 8 = .ok (.invokestatic 92, 3) := by decide +kernel
theorem dX6_back_11 : decode cX6_back 11 = .ok (.ifCond .ne 7, 3) := by decide +kernel
theorem dX6_back_14 : decode cX6_back 14 = .ok (.ldc2_w 117, 3) := by decide +kernel
theorem dX6_back_17 : decode cX6_back 17 = .ok (.lreturn, 1) := by decide +kernel
theorem dX6_back_18 : decode cX6_back 18 = .ok (.iload_n 2, 1) := by decide +kernel
theorem dX6_back_19 : decode cX6_back 19 = .ok (.invokestatic 162, 3) := by decide +kernel
theorem dX6_back_22 : decode cX6_back 22 = .ok (.ifCond .eq 11, 3) := by decide +kernel
theorem dX6_back_25 : decode cX6_back 25 = .ok (.iload 4, 2) := by decide +kernel
theorem dX6_back_27 : decode cX6_back 27 = .ok (.invokestatic 119, 3) := by decide +kernel
theorem dX6_back_30 : decode cX6_back 30 = .ok (.ifCond .ne 7, 3) := by decide +kernel
theorem dX6_back_33 : decode cX6_back 33 = .ok (.ldc2_w 122, 3) := by decide +kernel
theorem dX6_back_36 : decode cX6_back 36 = .ok (.lreturn, 1) := by decide +kernel
theorem dX6_back_37 : decode cX6_back 37 = .ok (.aload_n 0, 1) := by decide +kernel
theorem dX6_back_38 : decode cX6_back 38 = .ok (.getfield 48, 3) := by decide +kernel
theorem dX6_back_41 : decode cX6_back 41 = .ok (.iload_n 2, 1) := by decide +kernel
theorem dX6_back_42 : decode cX6_back 42 = .ok (.imul, 1) := by decide +kernel
theorem dX6_back_43 : decode cX6_back 43 = .ok (.bipush 8, 2) := by decide +kernel
theorem dX6_back_45 : decode cX6_back 45 = .ok (.if_icmp .le 7, 3) := by decide +kernel
theorem dX6_back_48 : decode cX6_back 48 = .ok (.ldc2_w 165, 3) := by decide +kernel
theorem dX6_back_51 : decode cX6_back 51 = .ok (.lreturn, 1) := by decide +kernel
theorem dX6_back_52 : decode cX6_back 52 = .ok (.aload_n 0, 1) := by decide +kernel
theorem dX6_back_53 : decode cX6_back 53 = .ok (.iload_n 1, 1) := by decide +kernel
theorem dX6_back_54 : decode cX6_back 54 = .ok (.iload_n 2, 1) := by decide +kernel
theorem dX6_back_55 : decode cX6_back 55 = .ok (.invokevirtual 179, 3) := by decide +kernel
theorem dX6_back_58 : decode cX6_back 58 = .ok (.lstore 5, 2) := by decide +kernel
theorem dX6_back_60 : decode cX6_back 60 = .ok (.aload_n 0, 1) := by decide +kernel
theorem dX6_back_61 : decode cX6_back 61 = .ok (.getfield 41, 3) := by decide +kernel
theorem dX6_back_64 : decode cX6_back 64 = .ok (.iload_n 3, 1) := by decide +kernel
theorem dX6_back_65 : decode cX6_back 65 = .ok (.laload, 1) := by decide +kernel
theorem dX6_back_66 : decode cX6_back 66 = .ok (.lload 5, 2) := by decide +kernel
theorem dX6_back_68 : decode cX6_back 68 = .ok (.iload 4, 2) := by decide +kernel
theorem dX6_back_70 : decode cX6_back 70 = .ok (.invokestatic 124, 3) := by decide +kernel
theorem dX6_back_73 : decode cX6_back 73 = .ok (.lreturn, 1) := by decide +kernel
theorem dX6_guess_0 : decode cX6_guess 0 = .ok (.iload_n 1, 1) := by decide +kernel
theorem dX6_guess_1 : decode cX6_guess 1 = .ok (.invokestatic 92, 3) := by decide +kernel
theorem dX6_guess_4 : decode cX6_guess 4 = .ok (.ifCond .ne 5, 3) := by decide +kernel
theorem dX6_guess_7 : decode cX6_guess 7 = .ok (.iconst (-1), 1) := by decide +kernel
theorem dX6_guess_8 : decode cX6_guess 8 = .ok (.ireturn, 1) := by decide +kernel
theorem dX6_guess_9 : decode cX6_guess 9 = .ok (.iload_n 2, 1) := by decide +kernel
theorem dX6_guess_10 : decode cX6_guess 10 = .ok (.invokestatic 162, 3) := by decide +kernel
theorem dX6_guess_13 : decode cX6_guess 13 = .ok (.ifCond .eq 13, 3) := by decide +kernel
theorem dX6_guess_16 : decode cX6_guess 16 = .ok (.iload_n 3, 1) := by decide +kernel
theorem dX6_guess_17 : decode cX6_guess 17 = .ok (.i2l, 1) := by decide +kernel
theorem dX6_guess_18 : decode cX6_guess 18 = .ok (.lconst 0, 1) := by decide +kernel
theorem dX6_guess_19 : decode cX6_guess 19 = .ok (.lconst 1, 1) := by decide +kernel
theorem dX6_guess_20 : decode cX6_guess 20 = .ok (.invokestatic 53, 3) := by decide +kernel
theorem dX6_guess_23 : decode cX6_guess 23 = .ok (.ifCond .ne 6, 3) := by decide +kernel
theorem dX6_guess_26 : decode cX6_guess 26 = .ok (.bipush (-2), 2) := by decide +kernel
theorem dX6_guess_28 : decode cX6_guess 28 = .ok (.ireturn, 1) := by decide +kernel
theorem dX6_guess_29 : decode cX6_guess 29 = .ok (.aload_n 0, 1) := by decide +kernel
theorem dX6_guess_30 : decode cX6_guess 30 = .ok (.getfield 48, 3) := by decide +kernel
theorem dX6_guess_33 : decode cX6_guess 33 = .ok (.iload_n 2, 1) := by decide +kernel
theorem dX6_guess_34 : decode cX6_guess 34 = .ok (.imul, 1) := by decide +kernel
theorem dX6_guess_35 : decode cX6_guess 35 = .ok (.bipush 8, 2) := by decide +kernel
theorem dX6_guess_37 : decode cX6_guess 37 = .ok (.if_icmp .le 6, 3) := by decide +kernel
theorem dX6_guess_40 : decode cX6_guess 40 = .ok (.bipush (-3), 2) := by decide +kernel
theorem dX6_guess_42 : decode cX6_guess 42 = .ok (.ireturn, 1) := by decide +kernel
theorem dX6_guess_43 : decode cX6_guess 43 = .ok (.aload_n 0, 1) := by decide +kernel
theorem dX6_guess_44 : decode cX6_guess 44 = .ok (.iload_n 1, 1) := by decide +kernel
theorem dX6_guess_45 : decode cX6_guess 45 = .ok (.iload_n 2, 1) := by decide +kernel
theorem dX6_guess_46 : decode cX6_guess 46 = .ok (.invokevirtual 179, 3) := by decide +kernel
theorem dX6_guess_49 : decode cX6_guess 49 = .ok (.lstore 4, 2) := by decide +kernel
theorem dX6_guess_51 : decode cX6_guess 51 = .ok (.iconst 0, 1) := by decide +kernel
theorem dX6_guess_52 : decode cX6_guess 52 = .ok (.istore 6, 2) := by decide +kernel
theorem dX6_guess_54 : decode cX6_guess 54 = .ok (.iconst 1, 1) := by decide +kernel
theorem dX6_guess_55 : decode cX6_guess 55 = .ok (.istore 7, 2) := by decide +kernel
theorem dX6_guess_57 : decode cX6_guess 57 = .ok (.iconst 1, 1) := by decide +kernel
theorem dX6_guess_58 : decode cX6_guess 58 = .ok (.istore 8, 2) := by decide +kernel
theorem dX6_guess_60 : decode cX6_guess 60 = .ok (.iload 8, 2) := by decide +kernel
theorem dX6_guess_62 : decode cX6_guess 62 = .ok (.bipush 8, 2) := by decide +kernel
theorem dX6_guess_64 : decode cX6_guess 64 = .ok (.if_icmp .ge 65, 3) := by decide +kernel
theorem dX6_guess_67 : decode cX6_guess 67 = .ok (.aload_n 0, 1) := by decide +kernel
theorem dX6_guess_68 : decode cX6_guess 68 = .ok (.getfield 41, 3) := by decide +kernel
theorem dX6_guess_71 : decode cX6_guess 71 = .ok (.iload 8, 2) := by decide +kernel
theorem dX6_guess_73 : decode cX6_guess 73 = .ok (.laload, 1) := by decide +kernel
theorem dX6_guess_74 : decode cX6_guess 74 = .ok (.aload_n 0, 1) := by decide +kernel
theorem dX6_guess_75 : decode cX6_guess 75 = .ok (.getfield 41, 3) := by decide +kernel
theorem dX6_guess_78 : decode cX6_guess 78 = .ok (.iload 6, 2) := by decide +kernel
theorem dX6_guess_80 : decode cX6_guess 80 = .ok (.laload, 1) := by decide +kernel
theorem dX6_guess_81 : decode cX6_guess 81 = .ok (.lcmp, 1) := by decide +kernel
theorem dX6_guess_82 : decode cX6_guess 82 = .ok (.ifCond .le 8, 3) := by decide +kernel
theorem dX6_guess_85 : decode cX6_guess 85 = .ok (.iload 8, 2) := by decide +kernel
theorem dX6_guess_87 : decode cX6_guess 87 = .ok (.goto 5, 3) := by decide +kernel
theorem dX6_guess_90 : decode cX6_guess 90 = .ok (.iload 6, 2) := by decide +kernel
theorem dX6_guess_92 : decode cX6_guess 92 = .ok (.istore 6, 2) := by decide +kernel
theorem dX6_guess_94 : decode cX6_guess 94 = .ok (.iload 7, 2) := by decide +kernel
theorem dX6_guess_96 : decode cX6_guess 96 = .ok (.ifCond .eq 24, 3) := by decide +kernel
theorem dX6_guess_99 : decode cX6_guess 99 = .ok (.aload_n 0, 1) := by decide +kernel
theorem dX6_guess_100 : decode cX6_guess 100 = .ok (.getfield 41, 3) := by decide +kernel
theorem dX6_guess_103 : decode cX6_guess 103 = .ok (.iload 8, 2) := by decide +kernel
theorem dX6_guess_105 : decode cX6_guess 105 = .ok (.laload, 1) := by decide +kernel
theorem dX6_guess_106 : decode cX6_guess 106 = .ok (.aload_n 0, 1) := by decide +kernel
theorem dX6_guess_107 : decode cX6_guess 107 = .ok (.getfield 41, 3) := by decide +kernel
theorem dX6_guess_110 : decode cX6_guess 110 = .ok (.iconst 0, 1) := by decide +kernel
theorem dX6_guess_111 : decode cX6_guess 111 = .ok (.laload, 1) := by decide +kernel
theorem dX6_guess_112 : decode cX6_guess 112 = .ok (.lcmp, 1) := by decide +kernel
theorem dX6_guess_113 : decode cX6_guess 113 = .ok (.ifCond .ne 7, 3) := by decide +kernel
theorem dX6_guess_116 : decode cX6_guess 116 = .ok (.iconst 1, 1) := by decide +kernel
theorem dX6_guess_117 : decode cX6_guess 117 = .ok (.goto 4, 3) := by decide +kernel
theorem dX6_guess_120 : decode cX6_guess 120 = .ok (.iconst 0, 1) := by decide +kernel
theorem dX6_guess_121 : decode cX6_guess 121 = .ok (.istore 7, 2) := by decide +kernel
theorem dX6_guess_123 : decode cX6_guess 123 = .ok (.iinc 8 1, 3) := by decide +kernel
theorem dX6_guess_126 : decode cX6_guess 126 = .ok (.goto (-66), 3) := by decide +kernel
theorem dX6_guess_129 : decode cX6_guess 129 = .ok (.iload_n 3, 1) := by decide +kernel
theorem dX6_guess_130 : decode cX6_guess 130 = .ok (.iconst 1, 1) := by decide +kernel
theorem dX6_guess_131 : decode cX6_guess 131 = .ok (.if_icmp .ne 16, 3) := by decide +kernel
theorem dX6_guess_134 : decode cX6_guess 134 = .ok (.iload 7, 2) := by decide +kernel
theorem dX6_guess_136 : decode cX6_guess 136 = .ok (.ifCond .eq 7, 3) := by decide +kernel
theorem dX6_guess_139 : decode cX6_guess 139 = .ok (.iconst 1, 1) := by decide +kernel
theorem dX6_guess_140 : decode cX6_guess 140 = .ok (.goto 21, 3) := by decide +kernel
theorem dX6_guess_143 : decode cX6_guess 143 = .ok (.iconst 0, 1) := by decide +kernel
theorem dX6_guess_144 : decode cX6_guess 144 = .ok (.goto 17, 3) := by decide +kernel
theorem dX6_guess_147 : decode cX6_guess 147 = .ok (.lload 4, 2) := by decide +kernel
theorem dX6_guess_149 : decode cX6_guess 149 = .ok (.lconst 0, 1) := by decide +kernel
theorem dX6_guess_150 : decode cX6_guess 150 = .ok (.lcmp, 1) := by decide +kernel
theorem dX6_guess_151 : decode cX6_guess 151 = .ok (.ifCond .ne 8, 3) := by decide +kernel
theorem dX6_guess_154 : decode cX6_guess 154 = .ok (.bipush (-6), 2) := by decide +kernel
theorem dX6_guess_156 : decode cX6_guess 156 = .ok (.goto 5, 3) := by decide +kernel
theorem dX6_guess_159 : decode cX6_guess 159 = .ok (.iload 6, 2) := by decide +kernel
theorem dX6_guess_161 : decode cX6_guess 161 = .ok (.ireturn, 1) := by decide +kernel
theorem dX6_told_0 : decode cX6_told 0 = .ok (.iload_n 1, 1) := by decide +kernel
theorem dX6_told_1 : decode cX6_told 1 = .ok (.i2l, 1) := by decide +kernel
theorem dX6_told_2 : decode cX6_told 2 = .ok (.ldc2_w 182, 3) := by decide +kernel
theorem dX6_told_5 : decode cX6_told 5 = .ok (.ldc2_w 137, 3) := by decide +kernel
theorem dX6_told_8 : decode cX6_told 8 = .ok (.invokestatic 53, 3) := by decide +kernel
theorem dX6_told_11 : decode cX6_told 11 = .ok (.ifCond .eq 13, 3) := by decide +kernel
theorem dX6_told_14 : decode cX6_told 14 = .ok (.aload_n 0, 1) := by decide +kernel
theorem dX6_told_15 : decode cX6_told 15 = .ok (.getfield 7, 3) := by decide +kernel
theorem dX6_told_18 : decode cX6_told 18 = .ok (.iload_n 1, 1) := by decide +kernel
theorem dX6_told_19 : decode cX6_told 19 = .ok (.bipush 10, 2) := by decide +kernel
theorem dX6_told_21 : decode cX6_told 21 = .ok (.isub, 1) := by decide +kernel
theorem dX6_told_22 : decode cX6_told 22 = .ok (.iaload, 1) := by decide +kernel
theorem dX6_told_23 : decode cX6_told 23 = .ok (.ireturn, 1) := by decide +kernel
theorem dX6_told_24 : decode cX6_told 24 = .ok (.iload_n 1, 1) := by decide +kernel
theorem dX6_told_25 : decode cX6_told 25 = .ok (.i2l, 1) := by decide +kernel
theorem dX6_told_26 : decode cX6_told 26 = .ok (.lconst 0, 1) := by decide +kernel
theorem dX6_told_27 : decode cX6_told 27 = .ok (.ldc2_w 51, 3) := by decide +kernel
theorem dX6_told_30 : decode cX6_told 30 = .ok (.invokestatic 53, 3) := by decide +kernel
theorem dX6_told_33 : decode cX6_told 33 = .ok (.ifCond .eq 11, 3) := by decide +kernel
theorem dX6_told_36 : decode cX6_told 36 = .ok (.aload_n 0, 1) := by decide +kernel
theorem dX6_told_37 : decode cX6_told 37 = .ok (.iload_n 1, 1) := by decide +kernel
theorem dX6_told_38 : decode cX6_told 38 = .ok (.invokevirtual 70, 3) := by decide +kernel
theorem dX6_told_41 : decode cX6_told 41 = .ok (.goto 29, 3) := by decide +kernel
theorem dX6_told_44 : decode cX6_told 44 = .ok (.iload_n 1, 1) := by decide +kernel
theorem dX6_told_45 : decode cX6_told 45 = .ok (.iconst 3, 1) := by decide +kernel
theorem dX6_told_46 : decode cX6_told 46 = .ok (.if_icmp .ne 10, 3) := by decide +kernel
theorem dX6_told_49 : decode cX6_told 49 = .ok (.aload_n 0, 1) := by decide +kernel
theorem dX6_told_50 : decode cX6_told 50 = .ok (.getfield 78, 3) := by decide +kernel
theorem dX6_told_53 : decode cX6_told 53 = .ok (.goto 17, 3) := by decide +kernel
theorem dX6_told_56 : decode cX6_told 56 = .ok (.iload_n 1, 1) := by decide +kernel
theorem dX6_told_57 : decode cX6_told 57 = .ok (.iconst 4, 1) := by decide +kernel
theorem dX6_told_58 : decode cX6_told 58 = .ok (.if_icmp .ne 10, 3) := by decide +kernel
theorem dX6_told_61 : decode cX6_told 61 = .ok (.aload_n 0, 1) := by decide +kernel
theorem dX6_told_62 : decode cX6_told 62 = .ok (.getfield 98, 3) := by decide +kernel
theorem dX6_told_65 : decode cX6_told 65 = .ok (.goto 5, 3) := by decide +kernel
theorem dX6_told_68 : decode cX6_told 68 = .ok (.bipush (-2), 2) := by decide +kernel
theorem dX6_told_70 : decode cX6_told 70 = .ok (.ireturn, 1) := by decide +kernel
theorem dJ6_bitCount_0f7a4_0 : decode cJ6_bitCount_0f7a4 0 = .ok (.iload_n 0, 1) := by decide +kernel
theorem dJ6_bitCount_0f7a4_1 : decode cJ6_bitCount_0f7a4 1 = .ok (.iload_n 0, 1) := by decide +kernel
theorem dJ6_bitCount_0f7a4_2 : decode cJ6_bitCount_0f7a4 2 = .ok (.iconst 1, 1) := by decide +kernel
theorem dJ6_bitCount_0f7a4_3 : decode cJ6_bitCount_0f7a4 3 = .ok (.iushr, 1) := by decide +kernel
theorem dJ6_bitCount_0f7a4_4 : decode cJ6_bitCount_0f7a4 4 = .ok (.ldc_w 265, 3) := by decide +kernel
theorem dJ6_bitCount_0f7a4_7 : decode cJ6_bitCount_0f7a4 7 = .ok (.iand, 1) := by decide +kernel
theorem dJ6_bitCount_0f7a4_8 : decode cJ6_bitCount_0f7a4 8 = .ok (.isub, 1) := by decide +kernel
theorem dJ6_bitCount_0f7a4_9 : decode cJ6_bitCount_0f7a4 9 = .ok (.istore_n 0, 1) := by decide +kernel
theorem dJ6_bitCount_0f7a4_10 : decode cJ6_bitCount_0f7a4 10 = .ok (.iload_n 0, 1) := by decide +kernel
theorem dJ6_bitCount_0f7a4_11 : decode cJ6_bitCount_0f7a4 11 = .ok (.ldc_w 266, 3) := by decide +kernel
theorem dJ6_bitCount_0f7a4_14 : decode cJ6_bitCount_0f7a4 14 = .ok (.iand, 1) := by decide +kernel
theorem dJ6_bitCount_0f7a4_15 : decode cJ6_bitCount_0f7a4 15 = .ok (.iload_n 0, 1) := by decide +kernel
theorem dJ6_bitCount_0f7a4_16 : decode cJ6_bitCount_0f7a4 16 = .ok (.iconst 2, 1) := by decide +kernel
theorem dJ6_bitCount_0f7a4_17 : decode cJ6_bitCount_0f7a4 17 = .ok (.iushr, 1) := by decide +kernel
theorem dJ6_bitCount_0f7a4_18 : decode cJ6_bitCount_0f7a4 18 = .ok (.ldc_w 266, 3) := by decide +kernel
theorem dJ6_bitCount_0f7a4_21 : decode cJ6_bitCount_0f7a4 21 = .ok (.iand, 1) := by decide +kernel
theorem dJ6_bitCount_0f7a4_22 : decode cJ6_bitCount_0f7a4 22 = .ok (.iadd, 1) := by decide +kernel
theorem dJ6_bitCount_0f7a4_23 : decode cJ6_bitCount_0f7a4 23 = .ok (.istore_n 0, 1) := by decide +kernel
theorem dJ6_bitCount_0f7a4_24 : decode cJ6_bitCount_0f7a4 24 = .ok (.iload_n 0, 1) := by decide +kernel
theorem dJ6_bitCount_0f7a4_25 : decode cJ6_bitCount_0f7a4 25 = .ok (.iload_n 0, 1) := by decide +kernel
theorem dJ6_bitCount_0f7a4_26 : decode cJ6_bitCount_0f7a4 26 = .ok (.iconst 4, 1) := by decide +kernel
theorem dJ6_bitCount_0f7a4_27 : decode cJ6_bitCount_0f7a4 27 = .ok (.iushr, 1) := by decide +kernel
theorem dJ6_bitCount_0f7a4_28 : decode cJ6_bitCount_0f7a4 28 = .ok (.iadd, 1) := by decide +kernel
theorem dJ6_bitCount_0f7a4_29 : decode cJ6_bitCount_0f7a4 29 = .ok (.ldc_w 267, 3) := by decide +kernel
theorem dJ6_bitCount_0f7a4_32 : decode cJ6_bitCount_0f7a4 32 = .ok (.iand, 1) := by decide +kernel
theorem dJ6_bitCount_0f7a4_33 : decode cJ6_bitCount_0f7a4 33 = .ok (.istore_n 0, 1) := by decide +kernel
theorem dJ6_bitCount_0f7a4_34 : decode cJ6_bitCount_0f7a4 34 = .ok (.iload_n 0, 1) := by decide +kernel
theorem dJ6_bitCount_0f7a4_35 : decode cJ6_bitCount_0f7a4 35 = .ok (.iload_n 0, 1) := by decide +kernel
theorem dJ6_bitCount_0f7a4_36 : decode cJ6_bitCount_0f7a4 36 = .ok (.bipush 8, 2) := by decide +kernel
theorem dJ6_bitCount_0f7a4_38 : decode cJ6_bitCount_0f7a4 38 = .ok (.iushr, 1) := by decide +kernel
theorem dJ6_bitCount_0f7a4_39 : decode cJ6_bitCount_0f7a4 39 = .ok (.iadd, 1) := by decide +kernel
theorem dJ6_bitCount_0f7a4_40 : decode cJ6_bitCount_0f7a4 40 = .ok (.istore_n 0, 1) := by decide +kernel
theorem dJ6_bitCount_0f7a4_41 : decode cJ6_bitCount_0f7a4 41 = .ok (.iload_n 0, 1) := by decide +kernel
theorem dJ6_bitCount_0f7a4_42 : decode cJ6_bitCount_0f7a4 42 = .ok (.iload_n 0, 1) := by decide +kernel
theorem dJ6_bitCount_0f7a4_43 : decode cJ6_bitCount_0f7a4 43 = .ok (.bipush 16, 2) := by decide +kernel
theorem dJ6_bitCount_0f7a4_45 : decode cJ6_bitCount_0f7a4 45 = .ok (.iushr, 1) := by decide +kernel
theorem dJ6_bitCount_0f7a4_46 : decode cJ6_bitCount_0f7a4 46 = .ok (.iadd, 1) := by decide +kernel
theorem dJ6_bitCount_0f7a4_47 : decode cJ6_bitCount_0f7a4 47 = .ok (.istore_n 0, 1) := by decide +kernel
theorem dJ6_bitCount_0f7a4_48 : decode cJ6_bitCount_0f7a4 48 = .ok (.iload_n 0, 1) := by decide +kernel
theorem dJ6_bitCount_0f7a4_49 : decode cJ6_bitCount_0f7a4 49 = .ok (.bipush 63, 2) := by decide +kernel
theorem dJ6_bitCount_0f7a4_51 : decode cJ6_bitCount_0f7a4 51 = .ok (.iand, 1) := by decide +kernel
theorem dJ6_bitCount_0f7a4_52 : decode cJ6_bitCount_0f7a4 52 = .ok (.ireturn, 1) := by decide +kernel
theorem dJ7_fill_d0a16_0 : decode cJ7_fill_d0a16 0 = .ok (.iconst 0, 1) := by decide +kernel
theorem dJ7_fill_d0a16_1 : decode cJ7_fill_d0a16 1 = .ok (.istore_n 3, 1) := by decide +kernel
theorem dJ7_fill_d0a16_2 : decode cJ7_fill_d0a16 2 = .ok (.aload_n 0, 1) := by decide +kernel
theorem dJ7_fill_d0a16_3 : decode cJ7_fill_d0a16 3 = .ok (.arraylength, 1) := by decide +kernel
theorem dJ7_fill_d0a16_4 : decode cJ7_fill_d0a16 4 = .ok (.istore 4, 2) := by decide +kernel
theorem dJ7_fill_d0a16_6 : decode cJ7_fill_d0a16 6 = .ok (.iload_n 3, 1) := by decide +kernel
theorem dJ7_fill_d0a16_7 : decode cJ7_fill_d0a16 7 = .ok (.iload 4, 2) := by decide +kernel
theorem dJ7_fill_d0a16_9 : decode cJ7_fill_d0a16 9 = .ok (.if_icmp .ge 13, 3) := by decide +kernel
theorem dJ7_fill_d0a16_12 : decode cJ7_fill_d0a16 12 = .ok (.aload_n 0, 1) := by decide +kernel
theorem dJ7_fill_d0a16_13 : decode cJ7_fill_d0a16 13 = .ok (.iload_n 3, 1) := by decide +kernel
theorem dJ7_fill_d0a16_14 : decode cJ7_fill_d0a16 14 = .ok (.lload_n 1, 1) := by decide +kernel
theorem dJ7_fill_d0a16_15 : decode cJ7_fill_d0a16 15 = .ok (.lastore, 1) := by decide +kernel
theorem dJ7_fill_d0a16_16 : decode cJ7_fill_d0a16 16 = .ok (.iinc 3 1, 3) := by decide +kernel
theorem dJ7_fill_d0a16_19 : decode cJ7_fill_d0a16 19 = .ok (.goto (-13), 3) := by decide +kernel
theorem dJ7_fill_d0a16_22 : decode cJ7_fill_d0a16 22 = .ok (.return_, 1) := by decide +kernel
theorem dJ7_fill_53178_0 : decode cJ7_fill_53178 0 = .ok (.iconst 0, 1) := by decide +kernel
theorem dJ7_fill_53178_1 : decode cJ7_fill_53178 1 = .ok (.istore_n 2, 1) := by decide +kernel
theorem dJ7_fill_53178_2 : decode cJ7_fill_53178 2 = .ok (.aload_n 0, 1) := by decide +kernel
theorem dJ7_fill_53178_3 : decode cJ7_fill_53178 3 = .ok (.arraylength, 1) := by decide +kernel
theorem dJ7_fill_53178_4 : decode cJ7_fill_53178 4 = .ok (.istore_n 3, 1) := by decide +kernel
theorem dJ7_fill_53178_5 : decode cJ7_fill_53178 5 = .ok (.iload_n 2, 1) := by decide +kernel
theorem dJ7_fill_53178_6 : decode cJ7_fill_53178 6 = .ok (.iload_n 3, 1) := by decide +kernel
theorem dJ7_fill_53178_7 : decode cJ7_fill_53178 7 = .ok (.if_icmp .ge 13, 3) := by decide +kernel
theorem dJ7_fill_53178_10 : decode cJ7_fill_53178 10 = .ok (.aload_n 0, 1) := by decide +kernel
theorem dJ7_fill_53178_11 : decode cJ7_fill_53178 11 = .ok (.iload_n 2, 1) := by decide +kernel
theorem dJ7_fill_53178_12 : decode cJ7_fill_53178 12 = .ok (.iload_n 1, 1) := by decide +kernel
theorem dJ7_fill_53178_13 : decode cJ7_fill_53178 13 = .ok (.iastore, 1) := by decide +kernel
theorem dJ7_fill_53178_14 : decode cJ7_fill_53178 14 = .ok (.iinc 2 1, 3) := by decide +kernel
theorem dJ7_fill_53178_17 : decode cJ7_fill_53178 17 = .ok (.goto (-12), 3) := by decide +kernel
theorem dJ7_fill_53178_20 : decode cJ7_fill_53178 20 = .ok (.return_, 1) := by decide +kernel
