theorem dX0_init_0 : decode cX0_init 0 = .ok (.aload_n 0, 1) := by decide +kernel
theorem dX0_init_1 : decode cX0_init 1 = .ok (.invokespecial 3, 3) := by decide +kernel
theorem dX0_init_4 : decode cX0_init 4 = .ok (.aload_n 0, 1) := by decide +kernel
theorem dX0_init_5 : decode cX0_init 5 = .ok (.bipush 6, 2) := by decide +kernel
theorem dX0_init_7 : decode cX0_init 7 = .ok (.newarray .int, 2) := by decide +kernel
theorem dX0_init_9 : decode cX0_init 9 = .ok (.putfield 9, 3) := by decide +kernel
theorem dX0_init_12 : decode cX0_init 12 = .ok (.aload_n 0, 1) := by decide +kernel
theorem dX0_init_13 : decode cX0_init 13 = .ok (.iconst 0, 1) := by decide +kernel
theorem dX0_init_14 : decode cX0_init 14 = .ok (.putfield 15, 3) := by decide +kernel
theorem dX0_init_17 : decode cX0_init 17 = .ok (.return_, 1) := by decide +kernel
theorem dX0_add_0 : decode cX0_add 0 = .ok (.aload_n 0, 1) := by decide +kernel
theorem dX0_add_1 : decode cX0_add 1 = .ok (.getfield 9, 3) := by decide +kernel
theorem dX0_add_4 : decode cX0_add 4 = .ok (.iload_n 1, 1) := by decide +kernel
theorem dX0_add_5 : decode cX0_add 5 = .ok (.dup2, 1) := by decide +kernel
theorem dX0_add_6 : decode cX0_add 6 = .ok (.iaload, 1) := by decide +kernel
theorem dX0_add_7 : decode cX0_add 7 = .ok (.iconst 1, 1) := by decide +kernel
theorem dX0_add_8 : decode cX0_add 8 = .ok (.iadd, 1) := by decide +kernel
theorem dX0_add_9 : decode cX0_add 9 = .ok (.iastore, 1) := by decide +kernel
theorem dX0_add_10 : decode cX0_add 10 = .ok (.aload_n 0, 1) := by decide +kernel
theorem dX0_add_11 : decode cX0_add 11 = .ok (.dup, 1) := by decide +kernel
theorem dX0_add_12 : decode cX0_add 12 = .ok (.getfield 15, 3) := by decide +kernel
theorem dX0_add_15 : decode cX0_add 15 = .ok (.iconst 1, 1) := by decide +kernel
theorem dX0_add_16 : decode cX0_add 16 = .ok (.iadd, 1) := by decide +kernel
theorem dX0_add_17 : decode cX0_add 17 = .ok (.putfield 15, 3) := by decide +kernel
theorem dX0_add_20 : decode cX0_add 20 = .ok (.return_, 1) := by decide +kernel
theorem dX0_clear_0 : decode cX0_clear 0 = .ok (.aload_n 0, 1) := by decide +kernel
theorem dX0_clear_1 : decode cX0_clear 1 = .ok (.getfield 9, 3) := by decide +kernel
theorem dX0_clear_4 : decode cX0_clear 4 = .ok (.iconst 0, 1) := by decide +kernel
theorem dX0_clear_5 : decode cX0_clear 5 = .ok (.invokestatic 19, 3) := by decide +kernel
theorem dX0_clear_8 : decode cX0_clear 8 = .ok (.aload_n 0, 1) := by decide +kernel
theorem dX0_clear_9 : decode cX0_clear 9 = .ok (.iconst 0, 1) := by decide +kernel
theorem dX0_clear_10 : decode cX0_clear 10 = .ok (.putfield 15, 3) := by decide +kernel
theorem dX0_clear_13 : decode cX0_clear 13 = .ok (.return_, 1) := by decide +kernel
theorem dX0_sharedWith_0 : decode cX0_sharedWith 0 = .ok (.iconst 0, 1) := by decide +kernel
theorem dX0_sharedWith_1 : decode cX0_sharedWith 1 = .ok (.istore_n 2, 1) := by decide +kernel
theorem dX0_sharedWith_2 : decode cX0_sharedWith 2 = .ok (.iconst 0, 1) := by decide +kernel
theorem dX0_sharedWith_3 : decode cX0_sharedWith 3 = .ok (.istore_n 3, 1) := by decide +kernel
theorem dX0_sharedWith_4 : decode cX0_sharedWith 4 = .ok (.iload_n 3, 1) := by decide +kernel
theorem dX0_sharedWith_5 : decode cX0_sharedWith 5 = .ok (.iconst 3, 1) := by decide +kernel
theorem dX0_sharedWith_6 : decode cX0_sharedWith 6 = .ok (.if_icmp .ge 26, 3) := by decide +kernel
theorem dX0_sharedWith_9 : decode cX0_sharedWith 9 = .ok (.iload_n 2, 1) := by decide +kernel
theorem dX0_sharedWith_10 : decode cX0_sharedWith 10 = .ok (.aload_n 0, 1) := by decide +kernel
theorem dX0_sharedWith_11 : decode cX0_sharedWith 11 = .ok (.getfield 9, 3) := by decide +kernel
theorem dX0_sharedWith_14 : decode cX0_sharedWith 14 = .ok (.iconst 2, 1) := by decide +kernel
theorem dX0_sharedWith_15 : decode cX0_sharedWith 15 = .ok (.iload_n 3, 1) := by decide +kernel
theorem dX0_sharedWith_16 : decode cX0_sharedWith 16 = .ok (.imul, 1) := by decide +kernel
theorem dX0_sharedWith_17 : decode cX0_sharedWith 17 = .ok (.iload_n 1, 1) := by decide +kernel
theorem dX0_sharedWith_18 : decode cX0_sharedWith 18 = .ok (.iload_n 3, 1) := by decide +kernel
theorem dX0_sharedWith_19 : decode cX0_sharedWith 19 = .ok (.invokestatic 25, 3) := by decide +kernel
theorem dX0_sharedWith_22 : decode cX0_sharedWith 22 = .ok (.iadd, 1) := by decide +kernel
theorem dX0_sharedWith_23 : decode cX0_sharedWith 23 = .ok (.iaload, 1) := by decide +kernel
theorem dX0_sharedWith_24 : decode cX0_sharedWith 24 = .ok (.iadd, 1) := by decide +kernel
theorem dX0_sharedWith_25 : decode cX0_sharedWith 25 = .ok (.istore_n 2, 1) := by decide +kernel
theorem dX0_sharedWith_26 : decode cX0_sharedWith 26 = .ok (.iinc 3 1, 3) := by decide +kernel
theorem dX0_sharedWith_29 : decode cX0_sharedWith 29 = .ok (.goto (-25), 3) := by decide +kernel
theorem dX0_sharedWith_32 : decode cX0_sharedWith 32 = .ok (.iload_n 2, 1) := by decide +kernel
theorem dX0_sharedWith_33 : decode cX0_sharedWith 33 = .ok (.ireturn, 1) := by decide +kernel
theorem dX1_init_0 : decode cX1_init 0 = .ok (.aload_n 0, 1) := by decide +kernel
theorem dX1_init_1 : decode cX1_init 1 = .ok (.invokespecial 3, 3) := by decide +kernel
theorem dX1_init_4 : decode cX1_init 4 = .ok (.aload_n 0, 1) := by decide +kernel
theorem dX1_init_5 : decode cX1_init 5 = .ok (.bipush 8, 2) := by decide +kernel
theorem dX1_init_7 : decode cX1_init 7 = .ok (.newarray .int, 2) := by decide +kernel
theorem dX1_init_9 : decode cX1_init 9 = .ok (.dup, 1) := by decide +kernel
theorem dX1_init_10 : decode cX1_init 10 = .ok (.iconst 0, 1) := by decide +kernel
theorem dX1_init_11 : decode cX1_init 11 = .ok (.iconst 1, 1) := by decide +kernel
theorem dX1_init_12 : decode cX1_init 12 = .ok (.iastore, 1) := by decide +kernel
theorem dX1_init_13 : decode cX1_init 13 = .ok (.dup, 1) := by decide +kernel
theorem dX1_init_14 : decode cX1_init 14 = .ok (.iconst 1, 1) := by decide +kernel
theorem dX1_init_15 : decode cX1_init 15 = .ok (.iconst 1, 1) := by decide +kernel
theorem dX1_init_16 : decode cX1_init 16 = .ok (.iastore, 1) := by decide +kernel
theorem dX1_init_17 : decode cX1_init 17 = .ok (.dup, 1) := by decide +kernel
theorem dX1_init_18 : decode cX1_init 18 = .ok (.iconst 2, 1) := by decide +kernel
theorem dX1_init_19 : decode cX1_init 19 = .ok (.iconst 1, 1) := by decide +kernel
theorem dX1_init_20 : decode cX1_init 20 = .ok (.iastore, 1) := by decide +kernel
theorem dX1_init_21 : decode cX1_init 21 = .ok (.dup, 1) := by decide +kernel
theorem dX1_init_22 : decode cX1_init 22 = .ok (.iconst 3, 1) := by decide +kernel
theorem dX1_init_23 : decode cX1_init 23 = .ok (.iconst 1, 1) := by decide +kernel
theorem dX1_init_24 : decode cX1_init 24 = .ok (.iastore, 1) := by decide +kernel
theorem dX1_init_25 : decode cX1_init 25 = .ok (.dup, 1) := by decide +kernel
theorem dX1_init_26 : decode cX1_init 26 = .ok (.iconst 4, 1) := by decide +kernel
theorem dX1_init_27 : decode cX1_init 27 = .ok (.iconst 1, 1) := by decide +kernel
theorem dX1_init_28 : decode cX1_init 28 = .ok (.iastore, 1) := by decide +kernel
theorem dX1_init_29 : decode cX1_init 29 = .ok (.dup, 1) := by decide +kernel
theorem dX1_init_30 : decode cX1_init 30 = .ok (.iconst 5, 1) := by decide +kernel
theorem dX1_init_31 : decode cX1_init 31 = .ok (.iconst 1, 1) := by decide +kernel
theorem dX1_init_32 : decode cX1_init 32 = .ok (.iastore, 1) := by decide +kernel
theorem dX1_init_33 : decode cX1_init 33 = .ok (.dup, 1) := by decide +kernel
theorem dX1_init_34 : decode cX1_init 34 = .ok (.bipush 6, 2) := by decide +kernel
theorem dX1_init_36 : decode cX1_init 36 = .ok (.iconst 1, 1) := by decide +kernel
theorem dX1_init_37 : decode cX1_init 37 = .ok (.iastore, 1) := by decide +kernel
theorem dX1_init_38 : decode cX1_init 38 = .ok (.dup, 1) := by decide +kernel
theorem dX1_init_39 : decode cX1_init 39 = .ok (.bipush 7, 2) := by decide +kernel
theorem dX1_init_41 : decode cX1_init 41 = .ok (.iconst 1, 1) := by decide +kernel
theorem dX1_init_42 : decode cX1_init 42 = .ok (.iastore, 1) := by decide +kernel
theorem dX1_init_43 : decode cX1_init 43 = .ok (.putfield 9, 3) := by decide +kernel
theorem dX1_init_46 : decode cX1_init 46 = .ok (.aload_n 0, 1) := by decide +kernel
theorem dX1_init_47 : decode cX1_init 47 = .ok (.iconst 1, 1) := by decide +kernel
theorem dX1_init_48 : decode cX1_init 48 = .ok (.putfield 15, 3) := by decide +kernel
theorem dX1_init_51 : decode cX1_init 51 = .ok (.aload_n 0, 1) := by decide +kernel
theorem dX1_init_52 : decode cX1_init 52 = .ok (.iconst 0, 1) := by decide +kernel
theorem dX1_init_53 : decode cX1_init 53 = .ok (.putfield 19, 3) := by decide +kernel
theorem dX1_init_56 : decode cX1_init 56 = .ok (.return_, 1) := by decide +kernel
theorem dX1_likenessOf_0 : decode cX1_likenessOf 0 = .ok (.aload_n 2, 1) := by decide +kernel
theorem dX1_likenessOf_1 : decode cX1_likenessOf 1 = .ok (.iload_n 1, 1) := by decide +kernel
theorem dX1_likenessOf_2 : decode cX1_likenessOf 2 = .ok (.invokevirtual 22, 3) := by decide +kernel
theorem dX1_likenessOf_5 : decode cX1_likenessOf 5 = .ok (.istore_n 3, 1) := by decide +kernel
theorem dX1_likenessOf_6 : decode cX1_likenessOf 6 = .ok (.aload_n 0, 1) := by decide +kernel
theorem dX1_likenessOf_7 : decode cX1_likenessOf 7 = .ok (.iload_n 1, 1) := by decide +kernel
theorem dX1_likenessOf_8 : decode cX1_likenessOf 8 = .ok (.iload_n 3, 1) := by decide +kernel
theorem dX1_likenessOf_9 : decode cX1_likenessOf 9 = .ok (.aload_n 2, 1) := by decide +kernel
theorem dX1_likenessOf_10 : decode cX1_likenessOf 10 = .ok (.getfield 28, 3) := by decide +kernel
theorem dX1_likenessOf_13 : decode cX1_likenessOf 13 = .ok (.iload_n 3, 1) := by decide +kernel
theorem dX1_likenessOf_14 : decode cX1_likenessOf 14 = .ok (.isub, 1) := by decide +kernel
theorem dX1_likenessOf_15 : decode cX1_likenessOf 15 = .ok (.invokevirtual 31, 3) := by decide +kernel
theorem dX1_likenessOf_18 : decode cX1_likenessOf 18 = .ok (.lreturn, 1) := by decide +kernel
theorem dX1_likenessBy_0 : decode cX1_likenessBy 0 = .ok (.aload_n 0, 1) := by decide +kernel
theorem dX1_likenessBy_1 : decode cX1_likenessBy 1 = .ok (.getfield 9, 3) := by decide +kernel
theorem dX1_likenessBy_4 : decode cX1_likenessBy 4 = .ok (.iload_n 1, 1) := by decide +kernel
theorem dX1_likenessBy_5 : decode cX1_likenessBy 5 = .ok (.iaload, 1) := by decide +kernel
theorem dX1_likenessBy_6 : decode cX1_likenessBy 6 = .ok (.i2l, 1) := by decide +kernel
theorem dX1_likenessBy_7 : decode cX1_likenessBy 7 = .ok (.bipush 12, 2) := by decide +kernel
theorem dX1_likenessBy_9 : decode cX1_likenessBy 9 = .ok (.aload_n 0, 1) := by decide +kernel
theorem dX1_likenessBy_10 : decode cX1_likenessBy 10 = .ok (.getfield 15, 3) := by decide +kernel
theorem dX1_likenessBy_13 : decode cX1_likenessBy 13 = .ok (.isub, 1) := by decide +kernel
theorem dX1_likenessBy_14 : decode cX1_likenessBy 14 = .ok (.i2l, 1) := by decide +kernel
theorem dX1_likenessBy_15 : decode cX1_likenessBy 15 = .ok (.iload_n 2, 1) := by decide +kernel
theorem dX1_likenessBy_16 : decode cX1_likenessBy 16 = .ok (.invokestatic 35, 3) := by decide +kernel
theorem dX1_likenessBy_19 : decode cX1_likenessBy 19 = .ok (.lmul, 1) := by decide +kernel
theorem dX1_likenessBy_20 : decode cX1_likenessBy 20 = .ok (.aload_n 0, 1) := by decide +kernel
theorem dX1_likenessBy_21 : decode cX1_likenessBy 21 = .ok (.getfield 15, 3) := by decide +kernel
theorem dX1_likenessBy_24 : decode cX1_likenessBy 24 = .ok (.i2l, 1) := by decide +kernel
theorem dX1_likenessBy_25 : decode cX1_likenessBy 25 = .ok (.iload_n 3, 1) := by decide +kernel
theorem dX1_likenessBy_26 : decode cX1_likenessBy 26 = .ok (.invokestatic 35, 3) := by decide +kernel
theorem dX1_likenessBy_29 : decode cX1_likenessBy 29 = .ok (.lmul, 1) := by decide +kernel
theorem dX1_likenessBy_30 : decode cX1_likenessBy 30 = .ok (.lreturn, 1) := by decide +kernel
theorem dX1_choice_0 : decode cX1_choice 0 = .ok (.iconst 0, 1) := by decide +kernel
theorem dX1_choice_1 : decode cX1_choice 1 = .ok (.istore_n 2, 1) := by decide +kernel
theorem dX1_choice_2 : decode cX1_choice 2 = .ok (.ldc2_w 39, 3) := by decide +kernel
theorem dX1_choice_5 : decode cX1_choice 5 = .ok (.lstore_n 3, 1) := by decide +kernel
theorem dX1_choice_6 : decode cX1_choice 6 = .ok (.iconst 0, 1) := by decide +kernel
theorem dX1_choice_7 : decode cX1_choice 7 = .ok (.istore 5, 2) := by decide +kernel
theorem dX1_choice_9 : decode cX1_choice 9 = .ok (.iload 5, 2) := by decide +kernel
theorem dX1_choice_11 : decode cX1_choice 11 = .ok (.bipush 8, 2) := by decide +kernel
theorem dX1_choice_13 : decode cX1_choice 13 = .ok (.if_icmp .ge 84, 3) := by decide +kernel
theorem dX1_choice_16 : decode cX1_choice 16 = .ok (.aload_n 1, 1) := by decide +kernel
theorem dX1_choice_17 : decode cX1_choice 17 = .ok (.iload 5, 2) := by decide +kernel
theorem dX1_choice_19 : decode cX1_choice 19 = .ok (.invokevirtual 22, 3) := by decide +kernel
theorem dX1_choice_22 : decode cX1_choice 22 = .ok (.istore 6, 2) := by decide +kernel
theorem dX1_choice_24 : decode cX1_choice 24 = .ok (.aload_n 0, 1) := by decide +kernel
theorem dX1_choice_25 : decode cX1_choice 25 = .ok (.getfield 19, 3) := by decide +kernel
theorem dX1_choice_28 : decode cX1_choice 28 = .ok (.iconst 1, 1) := by decide +kernel
theorem dX1_choice_29 : decode cX1_choice 29 = .ok (.if_icmp .ne 15, 3) := by decide +kernel
theorem dX1_choice_32 : decode cX1_choice 32 = .ok (.iload 6, 2) := by decide +kernel
theorem dX1_choice_34 : decode cX1_choice 34 = .ok (.aload_n 1, 1) := by decide +kernel
theorem dX1_choice_35 : decode cX1_choice 35 = .ok (.getfield 28, 3) := by decide +kernel
theorem dX1_choice_38 : decode cX1_choice 38 = .ok (.if_icmp .ne 6, 3) := by decide +kernel
theorem dX1_choice_41 : decode cX1_choice 41 = .ok (.iload 5, 2) := by decide +kernel
theorem dX1_choice_43 : decode cX1_choice 43 = .ok (.ireturn, 1) := by decide +kernel
theorem dX1_choice_44 : decode cX1_choice 44 = .ok (.aload_n 0, 1) := by decide +kernel
theorem dX1_choice_45 : decode cX1_choice 45 = .ok (.iload 5, 2) := by decide +kernel
theorem dX1_choice_47 : decode cX1_choice 47 = .ok (.iload 6, 2) := by decide +kernel
theorem dX1_choice_49 : decode cX1_choice 49 = .ok (.aload_n 1, 1) := by decide +kernel
theorem dX1_choice_50 : decode cX1_choice 50 = .ok (.getfield 28, 3) := by decide +kernel
theorem dX1_choice_53 : decode cX1_choice 53 = .ok (.iload 6, 2) := by decide +kernel
theorem dX1_choice_55 : decode cX1_choice 55 = .ok (.isub, 1) := by decide +kernel
theorem dX1_choice_56 : decode cX1_choice 56 = .ok (.invokevirtual 31, 3) := by decide +kernel
theorem dX1_choice_59 : decode cX1_choice 59 = .ok (.lstore 7, 2) := by decide +kernel
theorem dX1_choice_61 : decode cX1_choice 61 = .ok (.lload 7, 2) := by decide +kernel
theorem dX1_choice_63 : decode cX1_choice 63 = .ok (.lload_n 3, 1) := by decide +kernel
theorem dX1_choice_64 : decode cX1_choice 64 = .ok (.lcmp, 1) := by decide +kernel
theorem dX1_choice_65 : decode cX1_choice 65 = .ok (.ifCond .gt 20, 3) := by decide +kernel
theorem dX1_choice_68 : decode cX1_choice 68 = .ok (.lload 7, 2) := by decide +kernel
theorem dX1_choice_70 : decode cX1_choice 70 = .ok (.lload_n 3, 1) := by decide +kernel
theorem dX1_choice_71 : decode cX1_choice 71 = .ok (.lcmp, 1) := by decide +kernel
theorem dX1_choice_72 : decode cX1_choice 72 = .ok (.ifCond .ne 19, 3) := by decide +kernel
theorem dX1_choice_75 : decode cX1_choice 75 = .ok (.aload_n 0, 1) := by decide +kernel
theorem dX1_choice_76 : decode cX1_choice 76 = .ok (.iload 5, 2) := by decide +kernel
theorem dX1_choice_78 : decode cX1_choice 78 = .ok (.iload_n 2, 1) := by decide +kernel
theorem dX1_choice_79 : decode cX1_choice 79 = .ok (.invokevirtual 41, 3) := by decide +kernel
theorem dX1_choice_82 : decode cX1_choice 82 = .ok (.ifCond .eq 9, 3) := by decide +kernel
theorem dX1_choice_85 : decode cX1_choice 85 = .ok (.iload 5, 2) := by decide +kernel
theorem dX1_choice_87 : decode cX1_choice 87 = .ok (.istore_n 2, 1) := by decide +kernel
theorem dX1_choice_88 : decode cX1_choice 88 = .ok (.lload 7, 2) := by decide +kernel
theorem dX1_choice_90 : decode cX1_choice 90 = .ok (.lstore_n 3, 1) := by decide +kernel
theorem dX1_choice_91 : decode cX1_choice 91 = .ok (.iinc 5 1, 3) := by decide +kernel
theorem dX1_choice_94 : decode cX1_choice 94 = .ok (.goto (-85), 3) := by decide +kernel
theorem dX1_choice_97 : decode cX1_choice 97 = .ok (.iload_n 2, 1) := by decide +kernel
theorem dX1_choice_98 : decode cX1_choice 98 = .ok (.ireturn, 1) := by decide +kernel
theorem dX1_isRather_0 : decode cX1_isRather 0 = .ok (.aload_n 0, 1) := by decide +kernel
theorem dX1_isRather_1 : decode cX1_isRather 1 = .ok (.getfield 19, 3) := by decide +kernel
theorem dX1_isRather_4 : decode cX1_isRather 4 = .ok (.iconst 2, 1) := by decide +kernel
theorem dX1_isRather_5 : decode cX1_isRather 5 = .ok (.if_icmp .ne 18, 3) := by decide +kernel
theorem dX1_isRather_8 : decode cX1_isRather 8 = .ok (.iload_n 1, 1) := by decide +kernel
theorem dX1_isRather_9 : decode cX1_isRather 9 = .ok (.invokestatic 45, 3) := by decide +kernel
theorem dX1_isRather_12 : decode cX1_isRather 12 = .ok (.iload_n 2, 1) := by decide +kernel
theorem dX1_isRather_13 : decode cX1_isRather 13 = .ok (.invokestatic 45, 3) := by decide +kernel
theorem dX1_isRather_16 : decode cX1_isRather 16 = .ok (.if_icmp .ge 7, 3) := by decide +kernel
theorem dX1_isRather_19 : decode cX1_isRather 19 = .ok (.iconst 1, 1) := by decide +kernel
theorem dX1_isRather_20 : decode cX1_isRather 20 = .ok (.goto 4, 3) := by decide +kernel
theorem dX1_isRather_23 : decode cX1_isRather 23 = .ok (.iconst 0, 1) := by decide +kernel
theorem dX1_isRather_24 : decode cX1_isRather 24 = .ok (.ireturn, 1) := by decide +kernel
theorem dX2_init_0 : decode cX2_init 0 = .ok (.aload_n 0, 1) := by decide +kernel
theorem dX2_init_1 : decode cX2_init 1 = .ok (.invokespecial 3, 3) := by decide +kernel
theorem dX2_init_4 : decode cX2_init 4 = .ok (.aload_n 0, 1) := by decide +kernel
theorem dX2_init_5 : decode cX2_init 5 = .ok (.sipush 210, 3) := by decide +kernel
theorem dX2_init_8 : decode cX2_init 8 = .ok (.newarray .int, 2) := by decide +kernel
theorem dX2_init_10 : decode cX2_init 10 = .ok (.putfield 11, 3) := by decide +kernel
theorem dX2_init_13 : decode cX2_init 13 = .ok (.aload_n 0, 1) := by decide +kernel
theorem dX2_init_14 : decode cX2_init 14 = .ok (.sipush 210, 3) := by decide +kernel
theorem dX2_init_17 : decode cX2_init 17 = .ok (.newarray .int, 2) := by decide +kernel
theorem dX2_init_19 : decode cX2_init 19 = .ok (.putfield 15, 3) := by decide +kernel
theorem dX2_init_22 : decode cX2_init 22 = .ok (.aload_n 0, 1) := by decide +kernel
theorem dX2_init_23 : decode cX2_init 23 = .ok (.getstatic 18, 3) := by decide +kernel
theorem dX2_init_26 : decode cX2_init 26 = .ok (.iconst 4, 1) := by decide +kernel
theorem dX2_init_27 : decode cX2_init 27 = .ok (.iaload, 1) := by decide +kernel
theorem dX2_init_28 : decode cX2_init 28 = .ok (.bipush 6, 2) := by decide +kernel
theorem dX2_init_30 : decode cX2_init 30 = .ok (.imul, 1) := by decide +kernel
theorem dX2_init_31 : decode cX2_init 31 = .ok (.newarray .int, 2) := by decide +kernel
theorem dX2_init_33 : decode cX2_init 33 = .ok (.putfield 21, 3) := by decide +kernel
theorem dX2_init_36 : decode cX2_init 36 = .ok (.aload_n 0, 1) := by decide +kernel
theorem dX2_init_37 : decode cX2_init 37 = .ok (.sipush 210, 3) := by decide +kernel
theorem dX2_init_40 : decode cX2_init 40 = .ok (.newarray .int, 2) := by decide +kernel
theorem dX2_init_42 : decode cX2_init 42 = .ok (.putfield 24, 3) := by decide +kernel
theorem dX2_init_45 : decode cX2_init 45 = .ok (.aload_n 0, 1) := by decide +kernel
theorem dX2_init_46 : decode cX2_init 46 = .ok (.new 27, 3) := by decide +kernel
theorem dX2_init_49 : decode cX2_init 49 = .ok (.dup, 1) := by decide +kernel
theorem dX2_init_50 : decode cX2_init 50 = .ok (.invokespecial 29, 3) := by decide +kernel
theorem dX2_init_53 : decode cX2_init 53 = .ok (.putfield 30, 3) := by decide +kernel
theorem dX2_init_56 : decode cX2_init 56 = .ok (.aload_n 0, 1) := by decide +kernel
theorem dX2_init_57 : decode cX2_init 57 = .ok (.aload_n 1, 1) := by decide +kernel
theorem dX2_init_58 : decode cX2_init 58 = .ok (.putfield 34, 3) := by decide +kernel
theorem dX2_init_61 : decode cX2_init 61 = .ok (.iconst 0, 1) := by decide +kernel
theorem dX2_init_62 : decode cX2_init 62 = .ok (.istore_n 2, 1) := by decide +kernel
theorem dX2_init_63 : decode cX2_init 63 = .ok (.iload_n 2, 1) := by decide +kernel
theorem dX2_init_64 : decode cX2_init 64 = .ok (.iconst 4, 1) := by decide +kernel
theorem dX2_init_65 : decode cX2_init 65 = .ok (.if_icmp .ge 19, 3) := by decide +kernel
theorem dX2_init_68 : decode cX2_init 68 = .ok (.aload_n 0, 1) := by decide +kernel
theorem dX2_init_69 : decode cX2_init 69 = .ok (.iload_n 2, 1) := by decide +kernel
theorem dX2_init_70 : decode cX2_init 70 = .ok (.invokevirtual 38, 3) := by decide +kernel
theorem dX2_init_73 : decode cX2_init 73 = .ok (.aload_n 0, 1) := by decide +kernel
theorem dX2_init_74 : decode cX2_init 74 = .ok (.iload_n 2, 1) := by decide +kernel
theorem dX2_init_75 : decode cX2_init 75 = .ok (.invokevirtual 42, 3) := by decide +kernel
theorem dX2_init_78 : decode cX2_init 78 = .ok (.iinc 2 1, 3) := by decide +kernel
theorem dX2_init_81 : decode cX2_init 81 = .ok (.goto (-18), 3) := by decide +kernel
theorem dX2_init_84 : decode cX2_init 84 = .ok (.aload_n 0, 1) := by decide +kernel
theorem dX2_init_85 : decode cX2_init 85 = .ok (.invokevirtual 45, 3) := by decide +kernel
theorem dX2_init_88 : decode cX2_init 88 = .ok (.return_, 1) := by decide +kernel
theorem dX2_makeGreaterOnes_0 : decode cX2_makeGreaterOnes 0 = .ok (.getstatic 18, 3) := by decide +kernel
theorem dX2_makeGreaterOnes_3 : decode cX2_makeGreaterOnes 3 = .ok (.iload_n 1, 1) := by decide +kernel
theorem dX2_makeGreaterOnes_4 : decode cX2_makeGreaterOnes 4 = .ok (.iconst 1, 1) := by decide +kernel
theorem dX2_makeGreaterOnes_5 : decode cX2_makeGreaterOnes 5 = .ok (.iadd, 1) := by decide +kernel
theorem dX2_makeGreaterOnes_6 : decode cX2_makeGreaterOnes 6 = .ok (.iaload, 1) := by decide +kernel
theorem dX2_makeGreaterOnes_7 : decode cX2_makeGreaterOnes 7 = .ok (.istore_n 2, 1) := by decide +kernel
theorem dX2_makeGreaterOnes_8 : decode cX2_makeGreaterOnes 8 = .ok (.getstatic 18, 3) := by decide +kernel
theorem dX2_makeGreaterOnes_11 : decode cX2_makeGreaterOnes 11 = .ok (.iload_n 1, 1) := by decide +kernel
theorem dX2_makeGreaterOnes_12 : decode cX2_makeGreaterOnes 12 = .ok (.iaload, 1) := by decide +kernel
theorem dX2_makeGreaterOnes_13 : decode cX2_makeGreaterOnes 13 = .ok (.istore_n 3, 1) := by decide +kernel
theorem dX2_makeGreaterOnes_14 : decode cX2_makeGreaterOnes 14 = .ok (.iload_n 3, 1) := by decide +kernel
theorem dX2_makeGreaterOnes_15 : decode cX2_makeGreaterOnes 15 = .ok (.getstatic 18, 3) := by decide +kernel
theorem dX2_makeGreaterOnes_18 : decode cX2_makeGreaterOnes 18 = .ok (.iload_n 1, 1) := by decide +kernel
theorem dX2_makeGreaterOnes_19 : decode cX2_makeGreaterOnes 19 = .ok (.iconst 1, 1) := by decide +kernel
theorem dX2_makeGreaterOnes_20 : decode cX2_makeGreaterOnes 20 = .ok (.iadd, 1) := by decide +kernel
theorem dX2_makeGreaterOnes_21 : decode cX2_makeGreaterOnes 21 = .ok (.iaload, 1) := by decide +kernel
theorem dX2_makeGreaterOnes_22 : decode cX2_makeGreaterOnes 22 = .ok (.if_icmp .ge 61, 3) := by decide +kernel
theorem dX2_makeGreaterOnes_25 : decode cX2_makeGreaterOnes 25 = .ok (.aload_n 0, 1) := by decide +kernel
theorem dX2_makeGreaterOnes_26 : decode cX2_makeGreaterOnes 26 = .ok (.getfield 15, 3) := by decide +kernel
theorem dX2_makeGreaterOnes_29 : decode cX2_makeGreaterOnes 29 = .ok (.iload_n 3, 1) := by decide +kernel
theorem dX2_makeGreaterOnes_30 : decode cX2_makeGreaterOnes 30 = .ok (.iaload, 1) := by decide +kernel
theorem dX2_makeGreaterOnes_31 : decode cX2_makeGreaterOnes 31 = .ok (.istore 4, 2) := by decide +kernel
theorem dX2_makeGreaterOnes_33 : decode cX2_makeGreaterOnes 33 = .ok (.iload 4, 2) := by decide +kernel
theorem dX2_makeGreaterOnes_35 : decode cX2_makeGreaterOnes 35 = .ok (.bipush 6, 2) := by decide +kernel
theorem dX2_makeGreaterOnes_37 : decode cX2_makeGreaterOnes 37 = .ok (.if_icmp .ge 40, 3) := by decide +kernel
theorem dX2_makeGreaterOnes_40 : decode cX2_makeGreaterOnes 40 = .ok (.aload_n 0, 1) := by decide +kernel
theorem dX2_makeGreaterOnes_41 : decode cX2_makeGreaterOnes 41 = .ok (.getfield 21, 3) := by decide +kernel
theorem dX2_makeGreaterOnes_44 : decode cX2_makeGreaterOnes 44 = .ok (.iload_n 3, 1) := by decide +kernel
theorem dX2_makeGreaterOnes_45 : decode cX2_makeGreaterOnes 45 = .ok (.bipush 6, 2) := by decide +kernel
theorem dX2_makeGreaterOnes_47 : decode cX2_makeGreaterOnes 47 = .ok (.imul, 1) := by decide +kernel
theorem dX2_makeGreaterOnes_48 : decode cX2_makeGreaterOnes 48 = .ok (.iload 4, 2) := by decide +kernel
theorem dX2_makeGreaterOnes_50 : decode cX2_makeGreaterOnes 50 = .ok (.iadd, 1) := by decide +kernel
theorem dX2_makeGreaterOnes_51 : decode cX2_makeGreaterOnes 51 = .ok (.iload_n 2, 1) := by decide +kernel
theorem dX2_makeGreaterOnes_52 : decode cX2_makeGreaterOnes 52 = .ok (.iastore, 1) := by decide +kernel
theorem dX2_makeGreaterOnes_53 : decode cX2_makeGreaterOnes 53 = .ok (.aload_n 0, 1) := by decide +kernel
theorem dX2_makeGreaterOnes_54 : decode cX2_makeGreaterOnes 54 = .ok (.getfield 11, 3) := by decide +kernel
theorem dX2_makeGreaterOnes_57 : decode cX2_makeGreaterOnes 57 = .ok (.iload_n 2, 1) := by decide +kernel
theorem dX2_makeGreaterOnes_58 : decode cX2_makeGreaterOnes 58 = .ok (.iload_n 3, 1) := by decide +kernel
theorem dX2_makeGreaterOnes_59 : decode cX2_makeGreaterOnes 59 = .ok (.iastore, 1) := by decide +kernel
theorem dX2_makeGreaterOnes_60 : decode cX2_makeGreaterOnes 60 = .ok (.aload_n 0, 1) := by decide +kernel
theorem dX2_makeGreaterOnes_61 : decode cX2_makeGreaterOnes 61 = .ok (.getfield 15, 3) := by decide +kernel
theorem dX2_makeGreaterOnes_64 : decode cX2_makeGreaterOnes 64 = .ok (.iload_n 2, 1) := by decide +kernel
theorem dX2_makeGreaterOnes_65 : decode cX2_makeGreaterOnes 65 = .ok (.iload 4, 2) := by decide +kernel
theorem dX2_makeGreaterOnes_67 : decode cX2_makeGreaterOnes 67 = .ok (.iastore, 1) := by decide +kernel
theorem dX2_makeGreaterOnes_68 : decode cX2_makeGreaterOnes 68 = .ok (.iinc 2 1, 3) := by decide +kernel
theorem dX2_makeGreaterOnes_71 : decode cX2_makeGreaterOnes 71 = .ok (.iinc 4 1, 3) := by decide +kernel
theorem dX2_makeGreaterOnes_74 : decode cX2_makeGreaterOnes 74 = .ok (.goto (-41), 3) := by decide +kernel
theorem dX2_makeGreaterOnes_77 : decode cX2_makeGreaterOnes 77 = .ok (.iinc 3 1, 3) := by decide +kernel
theorem dX2_makeGreaterOnes_80 : decode cX2_makeGreaterOnes 80 = .ok (.goto (-66), 3) := by decide +kernel
theorem dX2_makeGreaterOnes_83 : decode cX2_makeGreaterOnes 83 = .ok (.return_, 1) := by decide +kernel
theorem dX2_joinGreaterOnes_0 : decode cX2_joinGreaterOnes 0 = .ok (.getstatic 18, 3) := by decide +kernel
theorem dX2_joinGreaterOnes_3 : decode cX2_joinGreaterOnes 3 = .ok (.iload_n 1, 1) := by decide +kernel
theorem dX2_joinGreaterOnes_4 : decode cX2_joinGreaterOnes 4 = .ok (.iaload, 1) := by decide +kernel
theorem dX2_joinGreaterOnes_5 : decode cX2_joinGreaterOnes 5 = .ok (.istore_n 2, 1) := by decide +kernel
theorem dX2_joinGreaterOnes_6 : decode cX2_joinGreaterOnes 6 = .ok (.iload_n 2, 1) := by decide +kernel
theorem dX2_joinGreaterOnes_7 : decode cX2_joinGreaterOnes 7 = .ok (.getstatic 18, 3) := by decide +kernel
theorem dX2_joinGreaterOnes_10 : decode cX2_joinGreaterOnes 10 = .ok (.iload_n 1, 1) := by decide +kernel
theorem dX2_joinGreaterOnes_11 : decode cX2_joinGreaterOnes 11 = .ok (.iconst 1, 1) := by decide +kernel
theorem dX2_joinGreaterOnes_12 : decode cX2_joinGreaterOnes 12 = .ok (.iadd, 1) := by decide +kernel
theorem dX2_joinGreaterOnes_13 : decode cX2_joinGreaterOnes 13 = .ok (.iaload, 1) := by decide +kernel
theorem dX2_joinGreaterOnes_14 : decode cX2_joinGreaterOnes 14 = .ok (.if_icmp .ge 73, 3) := by decide +kernel
theorem dX2_joinGreaterOnes_17 : decode cX2_joinGreaterOnes 17 = .ok (.iconst 0, 1) := by decide +kernel
theorem dX2_joinGreaterOnes_18 : decode cX2_joinGreaterOnes 18 = .ok (.istore_n 3, 1) := by decide +kernel
theorem dX2_joinGreaterOnes_19 : decode cX2_joinGreaterOnes 19 = .ok (.iload_n 3, 1) := by decide +kernel
theorem dX2_joinGreaterOnes_20 : decode cX2_joinGreaterOnes 20 = .ok (.aload_n 0, 1) := by decide +kernel
theorem dX2_joinGreaterOnes_21 : decode cX2_joinGreaterOnes 21 = .ok (.getfield 15, 3) := by decide +kernel
theorem dX2_joinGreaterOnes_24 : decode cX2_joinGreaterOnes 24 = .ok (.iload_n 2, 1) := by decide +kernel
theorem dX2_joinGreaterOnes_25 : decode cX2_joinGreaterOnes 25 = .ok (.iaload, 1) := by decide +kernel
theorem dX2_joinGreaterOnes_26 : decode cX2_joinGreaterOnes 26 = .ok (.if_icmp .ge 55, 3) := by decide +kernel
theorem dX2_joinGreaterOnes_29 : decode cX2_joinGreaterOnes 29 = .ok (.aload_n 0, 1) := by decide +kernel
theorem dX2_joinGreaterOnes_30 : decode cX2_joinGreaterOnes 30 = .ok (.getfield 21, 3) := by decide +kernel
theorem dX2_joinGreaterOnes_33 : decode cX2_joinGreaterOnes 33 = .ok (.aload_n 0, 1) := by decide +kernel
theorem dX2_joinGreaterOnes_34 : decode cX2_joinGreaterOnes 34 = .ok (.getfield 11, 3) := by decide +kernel
theorem dX2_joinGreaterOnes_37 : decode cX2_joinGreaterOnes 37 = .ok (.iload_n 2, 1) := by decide +kernel
theorem dX2_joinGreaterOnes_38 : decode cX2_joinGreaterOnes 38 = .ok (.iaload, 1) := by decide +kernel
theorem dX2_joinGreaterOnes_39 : decode cX2_joinGreaterOnes 39 = .ok (.bipush 6, 2) := by decide +kernel
theorem dX2_joinGreaterOnes_41 : decode cX2_joinGreaterOnes 41 = .ok (.imul, 1) := by decide +kernel
theorem dX2_joinGreaterOnes_42 : decode cX2_joinGreaterOnes 42 = .ok (.iload_n 3, 1) := by decide +kernel
theorem dX2_joinGreaterOnes_43 : decode cX2_joinGreaterOnes 43 = .ok (.iadd, 1) := by decide +kernel
theorem dX2_joinGreaterOnes_44 : decode cX2_joinGreaterOnes 44 = .ok (.iaload, 1) := by decide +kernel
theorem dX2_joinGreaterOnes_45 : decode cX2_joinGreaterOnes 45 = .ok (.istore 4, 2) := by decide +kernel
theorem dX2_joinGreaterOnes_47 : decode cX2_joinGreaterOnes 47 = .ok (.aload_n 0, 1) := by decide +kernel
theorem dX2_joinGreaterOnes_48 : decode cX2_joinGreaterOnes 48 = .ok (.getfield 21, 3) := by decide +kernel
theorem dX2_joinGreaterOnes_51 : decode cX2_joinGreaterOnes 51 = .ok (.iload_n 2, 1) := by decide +kernel
theorem dX2_joinGreaterOnes_52 : decode cX2_joinGreaterOnes 52 = .ok (.bipush 6, 2) := by decide +kernel
theorem dX2_joinGreaterOnes_54 : decode cX2_joinGreaterOnes 54 = .ok (.imul, 1) := by decide +kernel
theorem dX2_joinGreaterOnes_55 : decode cX2_joinGreaterOnes 55 = .ok (.iload_n 3, 1) := by decide +kernel
theorem dX2_joinGreaterOnes_56 : decode cX2_joinGreaterOnes 56 = .ok (.iadd, 1) := by decide +kernel
theorem dX2_joinGreaterOnes_57 : decode cX2_joinGreaterOnes 57 = .ok (.aload_n 0, 1) := by decide +kernel
theorem dX2_joinGreaterOnes_58 : decode cX2_joinGreaterOnes 58 = .ok (.getfield 21, 3) := by decide +kernel
theorem dX2_joinGreaterOnes_61 : decode cX2_joinGreaterOnes 61 = .ok (.iload 4, 2) := by decide +kernel
theorem dX2_joinGreaterOnes_63 : decode cX2_joinGreaterOnes 63 = .ok (.bipush 6, 2) := by decide +kernel
theorem dX2_joinGreaterOnes_65 : decode cX2_joinGreaterOnes 65 = .ok (.imul, 1) := by decide +kernel
theorem dX2_joinGreaterOnes_66 : decode cX2_joinGreaterOnes 66 = .ok (.aload_n 0, 1) := by decide +kernel
theorem dX2_joinGreaterOnes_67 : decode cX2_joinGreaterOnes 67 = .ok (.getfield 15, 3) := by decide +kernel
theorem dX2_joinGreaterOnes_70 : decode cX2_joinGreaterOnes 70 = .ok (.iload_n 2, 1) := by decide +kernel
theorem dX2_joinGreaterOnes_71 : decode cX2_joinGreaterOnes 71 = .ok (.iaload, 1) := by decide +kernel
theorem dX2_joinGreaterOnes_72 : decode cX2_joinGreaterOnes 72 = .ok (.iadd, 1) := by decide +kernel
theorem dX2_joinGreaterOnes_73 : decode cX2_joinGreaterOnes 73 = .ok (.iaload, 1) := by decide +kernel
theorem dX2_joinGreaterOnes_74 : decode cX2_joinGreaterOnes 74 = .ok (.iastore, 1) := by decide +kernel
theorem dX2_joinGreaterOnes_75 : decode cX2_joinGreaterOnes 75 = .ok (.iinc 3 1, 3) := by decide +kernel
theorem dX2_joinGreaterOnes_78 : decode cX2_joinGreaterOnes 78 = .ok (.goto (-59), 3) := by decide +kernel
theorem dX2_joinGreaterOnes_81 : decode cX2_joinGreaterOnes 81 = .ok (.iinc 2 1, 3) := by decide +kernel
theorem dX2_joinGreaterOnes_84 : decode cX2_joinGreaterOnes 84 = .ok (.goto (-78), 3) := by decide +kernel
theorem dX2_joinGreaterOnes_87 : decode cX2_joinGreaterOnes 87 = .ok (.return_, 1) := by decide +kernel
theorem dX2_forgetChoices_0 : decode cX2_forgetChoices 0 = .ok (.aload_n 0, 1) := by decide +kernel
theorem dX2_forgetChoices_1 : decode cX2_forgetChoices 1 = .ok (.getfield 24, 3) := by decide +kernel
theorem dX2_forgetChoices_4 : decode cX2_forgetChoices 4 = .ok (.iconst (-1), 1) := by decide +kernel
theorem dX2_forgetChoices_5 : decode cX2_forgetChoices 5 = .ok (.invokestatic 48, 3) := by decide +kernel
theorem dX2_forgetChoices_8 : decode cX2_forgetChoices 8 = .ok (.return_, 1) := by decide +kernel
theorem dX2_choiceBehind_0 : decode cX2_choiceBehind 0 = .ok (.aload_n 0, 1) := by decide +kernel
theorem dX2_choiceBehind_1 : decode cX2_choiceBehind 1 = .ok (.getfield 24, 3) := by decide +kernel
theorem dX2_choiceBehind_4 : decode cX2_choiceBehind 4 = .ok (.iload_n 1, 1) := by decide +kernel
theorem dX2_choiceBehind_5 : decode cX2_choiceBehind 5 = .ok (.iaload, 1) := by decide +kernel
theorem dX2_choiceBehind_6 : decode cX2_choiceBehind 6 = .ok (.iconst (-1), 1) := by decide +kernel
theorem dX2_choiceBehind_7 : decode cX2_choiceBehind 7 = .ok (.if_icmp .ne 25, 3) := by decide +kernel
theorem dX2_choiceBehind_10 : decode cX2_choiceBehind 10 = .ok (.aload_n 0, 1) := by decide +kernel
theorem dX2_choiceBehind_11 : decode cX2_choiceBehind 11 = .ok (.iload_n 1, 1) := by decide +kernel
theorem dX2_choiceBehind_12 : decode cX2_choiceBehind 12 = .ok (.invokevirtual 54, 3) := by decide +kernel
theorem dX2_choiceBehind_15 : decode cX2_choiceBehind 15 = .ok (.aload_n 0, 1) := by decide +kernel
theorem dX2_choiceBehind_16 : decode cX2_choiceBehind 16 = .ok (.getfield 24, 3) := by decide +kernel
theorem dX2_choiceBehind_19 : decode cX2_choiceBehind 19 = .ok (.iload_n 1, 1) := by decide +kernel
theorem dX2_choiceBehind_20 : decode cX2_choiceBehind 20 = .ok (.aload_n 0, 1) := by decide +kernel
theorem dX2_choiceBehind_21 : decode cX2_choiceBehind 21 = .ok (.getfield 34, 3) := by decide +kernel
theorem dX2_choiceBehind_24 : decode cX2_choiceBehind 24 = .ok (.aload_n 0, 1) := by decide +kernel
theorem dX2_choiceBehind_25 : decode cX2_choiceBehind 25 = .ok (.getfield 30, 3) := by decide +kernel
theorem dX2_choiceBehind_28 : decode cX2_choiceBehind 28 = .ok (.invokevirtual 57, 3) := by decide +kernel
theorem dX2_choiceBehind_31 : decode cX2_choiceBehind 31 = .ok (.iastore, 1) := by decide +kernel
theorem dX2_choiceBehind_32 : decode cX2_choiceBehind 32 = .ok (.aload_n 0, 1) := by decide +kernel
theorem dX2_choiceBehind_33 : decode cX2_choiceBehind 33 = .ok (.getfield 24, 3) := by decide +kernel
theorem dX2_choiceBehind_36 : decode cX2_choiceBehind 36 = .ok (.iload_n 1, 1) := by decide +kernel
theorem dX2_choiceBehind_37 : decode cX2_choiceBehind 37 = .ok (.iaload, 1) := by decide +kernel
theorem dX2_choiceBehind_38 : decode cX2_choiceBehind 38 = .ok (.ireturn, 1) := by decide +kernel
theorem dX2_countSayings_0 : decode cX2_countSayings 0 = .ok (.aload_n 0, 1) := by decide +kernel
theorem dX2_countSayings_1 : decode cX2_countSayings 1 = .ok (.getfield 30, 3) := by decide +kernel
theorem dX2_countSayings_4 : decode cX2_countSayings 4 = .ok (.invokevirtual 63, 3) := by decide +kernel
theorem dX2_countSayings_7 : decode cX2_countSayings 7 = .ok (.iload_n 1, 1) := by decide +kernel
theorem dX2_countSayings_8 : decode cX2_countSayings 8 = .ok (.istore_n 2, 1) := by decide +kernel
theorem dX2_countSayings_9 : decode cX2_countSayings 9 = .ok (.iconst 0, 1) := by decide +kernel
theorem dX2_countSayings_10 : decode cX2_countSayings 10 = .ok (.istore_n 3, 1) := by decide +kernel
theorem dX2_countSayings_11 : decode cX2_countSayings 11 = .ok (.iload_n 3, 1) := by decide +kernel
theorem dX2_countSayings_12 : decode cX2_countSayings 12 = .ok (.iconst 4, 1) := by decide +kernel
theorem dX2_countSayings_13 : decode cX2_countSayings 13 = .ok (.if_icmp .ge 33, 3) := by decide +kernel
theorem dX2_countSayings_16 : decode cX2_countSayings 16 = .ok (.iload_n 2, 1) := by decide +kernel
theorem dX2_countSayings_17 : decode cX2_countSayings 17 = .ok (.ifCond .le 29, 3) := by decide +kernel
theorem dX2_countSayings_20 : decode cX2_countSayings 20 = .ok (.aload_n 0, 1) := by decide +kernel
theorem dX2_countSayings_21 : decode cX2_countSayings 21 = .ok (.getfield 30, 3) := by decide +kernel
theorem dX2_countSayings_24 : decode cX2_countSayings 24 = .ok (.aload_n 0, 1) := by decide +kernel
theorem dX2_countSayings_25 : decode cX2_countSayings 25 = .ok (.getfield 15, 3) := by decide +kernel
theorem dX2_countSayings_28 : decode cX2_countSayings 28 = .ok (.iload_n 2, 1) := by decide +kernel
theorem dX2_countSayings_29 : decode cX2_countSayings 29 = .ok (.iaload, 1) := by decide +kernel
theorem dX2_countSayings_30 : decode cX2_countSayings 30 = .ok (.invokevirtual 66, 3) := by decide +kernel
theorem dX2_countSayings_33 : decode cX2_countSayings 33 = .ok (.aload_n 0, 1) := by decide +kernel
theorem dX2_countSayings_34 : decode cX2_countSayings 34 = .ok (.getfield 11, 3) := by decide +kernel
theorem dX2_countSayings_37 : decode cX2_countSayings 37 = .ok (.iload_n 2, 1) := by decide +kernel
theorem dX2_countSayings_38 : decode cX2_countSayings 38 = .ok (.iaload, 1) := by decide +kernel
theorem dX2_countSayings_39 : decode cX2_countSayings 39 = .ok (.istore_n 2, 1) := by decide +kernel
theorem dX2_countSayings_40 : decode cX2_countSayings 40 = .ok (.iinc 3 1, 3) := by decide +kernel
theorem dX2_countSayings_43 : decode cX2_countSayings 43 = .ok (.goto (-32), 3) := by decide +kernel
theorem dX2_countSayings_46 : decode cX2_countSayings 46 = .ok (.return_, 1) := by decide +kernel
theorem dX2_sizeOf_0 : decode cX2_sizeOf 0 = .ok (.iconst 0, 1) := by decide +kernel
theorem dX2_sizeOf_1 : decode cX2_sizeOf 1 = .ok (.istore_n 2, 1) := by decide +kernel
theorem dX2_sizeOf_2 : decode cX2_sizeOf 2 = .ok (.iload_n 2, 1) := by decide +kernel
theorem dX2_sizeOf_3 : decode cX2_sizeOf 3 = .ok (.iconst 4, 1) := by decide +kernel
theorem dX2_sizeOf_4 : decode cX2_sizeOf 4 = .ok (.if_icmp .ge 20, 3) := by decide +kernel
theorem dX2_sizeOf_7 : decode cX2_sizeOf 7 = .ok (.iload_n 1, 1) := by decide +kernel
theorem dX2_sizeOf_8 : decode cX2_sizeOf 8 = .ok (.getstatic 18, 3) := by decide +kernel
theorem dX2_sizeOf_11 : decode cX2_sizeOf 11 = .ok (.iload_n 2, 1) := by decide +kernel
theorem dX2_sizeOf_12 : decode cX2_sizeOf 12 = .ok (.iconst 1, 1) := by decide +kernel
theorem dX2_sizeOf_13 : decode cX2_sizeOf 13 = .ok (.iadd, 1) := by decide +kernel
theorem dX2_sizeOf_14 : decode cX2_sizeOf 14 = .ok (.iaload, 1) := by decide +kernel
theorem dX2_sizeOf_15 : decode cX2_sizeOf 15 = .ok (.if_icmp .lt 9, 3) := by decide +kernel
theorem dX2_sizeOf_18 : decode cX2_sizeOf 18 = .ok (.iinc 2 1, 3) := by decide +kernel
theorem dX2_sizeOf_21 : decode cX2_sizeOf 21 = .ok (.goto (-19), 3) := by decide +kernel
theorem dX2_sizeOf_24 : decode cX2_sizeOf 24 = .ok (.iload_n 2, 1) := by decide +kernel
theorem dX2_sizeOf_25 : decode cX2_sizeOf 25 = .ok (.ireturn, 1) := by decide +kernel
theorem dX2_sayingOf_0 : decode cX2_sayingOf 0 = .ok (.iload_n 1, 1) := by decide +kernel
theorem dX2_sayingOf_1 : decode cX2_sayingOf 1 = .ok (.istore_n 3, 1) := by decide +kernel
theorem dX2_sayingOf_2 : decode cX2_sayingOf 2 = .ok (.iconst 0, 1) := by decide +kernel
theorem dX2_sayingOf_3 : decode cX2_sayingOf 3 = .ok (.istore 4, 2) := by decide +kernel
theorem dX2_sayingOf_5 : decode cX2_sayingOf 5 = .ok (.iload 4, 2) := by decide +kernel
theorem dX2_sayingOf_7 : decode cX2_sayingOf 7 = .ok (.iload_n 2, 1) := by decide +kernel
theorem dX2_sayingOf_8 : decode cX2_sayingOf 8 = .ok (.if_icmp .ge 22, 3) := by decide +kernel
theorem dX2_sayingOf_11 : decode cX2_sayingOf 11 = .ok (.iload 4, 2) := by decide +kernel
theorem dX2_sayingOf_13 : decode cX2_sayingOf 13 = .ok (.iconst 4, 1) := by decide +kernel
theorem dX2_sayingOf_14 : decode cX2_sayingOf 14 = .ok (.if_icmp .ge 16, 3) := by decide +kernel
theorem dX2_sayingOf_17 : decode cX2_sayingOf 17 = .ok (.aload_n 0, 1) := by decide +kernel
theorem dX2_sayingOf_18 : decode cX2_sayingOf 18 = .ok (.getfield 11, 3) := by decide +kernel
theorem dX2_sayingOf_21 : decode cX2_sayingOf 21 = .ok (.iload_n 3, 1) := by decide +kernel
theorem dX2_sayingOf_22 : decode cX2_sayingOf 22 = .ok (.iaload, 1) := by decide +kernel
theorem dX2_sayingOf_23 : decode cX2_sayingOf 23 = .ok (.istore_n 3, 1) := by decide +kernel
theorem dX2_sayingOf_24 : decode cX2_sayingOf 24 = .ok (.iinc 4 1, 3) := by decide +kernel
theorem dX2_sayingOf_27 : decode cX2_sayingOf 27 = .ok (.goto (-22), 3) := by decide +kernel
theorem dX2_sayingOf_30 : decode cX2_sayingOf 30 = .ok (.aload_n 0, 1) := by decide +kernel
theorem dX2_sayingOf_31 : decode cX2_sayingOf 31 = .ok (.getfield 15, 3) := by decide +kernel
theorem dX2_sayingOf_34 : decode cX2_sayingOf 34 = .ok (.iload_n 3, 1) := by decide +kernel
theorem dX2_sayingOf_35 : decode cX2_sayingOf 35 = .ok (.iaload, 1) := by decide +kernel
theorem dX2_sayingOf_36 : decode cX2_sayingOf 36 = .ok (.ireturn, 1) := by decide +kernel
theorem dX2_firstThatTeaches_0 : decode cX2_firstThatTeaches 0 = .ok (.iconst 1, 1) := by decide +kernel
theorem dX2_firstThatTeaches_1 : decode cX2_firstThatTeaches 1 = .ok (.istore_n 2, 1) := by decide +kernel
theorem dX2_firstThatTeaches_2 : decode cX2_firstThatTeaches 2 = .ok (.iload_n 2, 1) := by decide +kernel
theorem dX2_firstThatTeaches_3 : decode cX2_firstThatTeaches 3 = .ok (.sipush 210, 3) := by decide +kernel
theorem dX2_firstThatTeaches_6 : decode cX2_firstThatTeaches 6 = .ok (.if_icmp .ge 43, 3) := by decide +kernel
theorem dX2_firstThatTeaches_9 : decode cX2_firstThatTeaches 9 = .ok (.aload_n 0, 1) := by decide +kernel
theorem dX2_firstThatTeaches_10 : decode cX2_firstThatTeaches 10 = .ok (.iload_n 2, 1) := by decide +kernel
theorem dX2_firstThatTeaches_11 : decode cX2_firstThatTeaches 11 = .ok (.invokevirtual 54, 3) := by decide +kernel
theorem dX2_firstThatTeaches_14 : decode cX2_firstThatTeaches 14 = .ok (.aload_n 0, 1) := by decide +kernel
theorem dX2_firstThatTeaches_15 : decode cX2_firstThatTeaches 15 = .ok (.getfield 30, 3) := by decide +kernel
theorem dX2_firstThatTeaches_18 : decode cX2_firstThatTeaches 18 = .ok (.iload_n 1, 1) := by decide +kernel
theorem dX2_firstThatTeaches_19 : decode cX2_firstThatTeaches 19 = .ok (.invokevirtual 69, 3) := by decide +kernel
theorem dX2_firstThatTeaches_22 : decode cX2_firstThatTeaches 22 = .ok (.aload_n 0, 1) := by decide +kernel
theorem dX2_firstThatTeaches_23 : decode cX2_firstThatTeaches 23 = .ok (.getfield 30, 3) := by decide +kernel
theorem dX2_firstThatTeaches_26 : decode cX2_firstThatTeaches 26 = .ok (.getfield 73, 3) := by decide +kernel
theorem dX2_firstThatTeaches_29 : decode cX2_firstThatTeaches 29 = .ok (.if_icmp .ne 14, 3) := by decide +kernel
theorem dX2_firstThatTeaches_32 : decode cX2_firstThatTeaches 32 = .ok (.aload_n 0, 1) := by decide +kernel
theorem dX2_firstThatTeaches_33 : decode cX2_firstThatTeaches 33 = .ok (.iload_n 2, 1) := by decide +kernel
theorem dX2_firstThatTeaches_34 : decode cX2_firstThatTeaches 34 = .ok (.invokevirtual 77, 3) := by decide +kernel
theorem dX2_firstThatTeaches_37 : decode cX2_firstThatTeaches 37 = .ok (.iload_n 1, 1) := by decide +kernel
theorem dX2_firstThatTeaches_38 : decode cX2_firstThatTeaches 38 = .ok (.if_icmp .ne 5, 3) := by decide +kernel
theorem dX2_firstThatTeaches_41 : decode cX2_firstThatTeaches 41 = .ok (.iload_n 2, 1) := by decide +kernel
theorem dX2_firstThatTeaches_42 : decode cX2_firstThatTeaches 42 = .ok (.ireturn, 1) := by decide +kernel
theorem dX2_firstThatTeaches_43 : decode cX2_firstThatTeaches 43 = .ok (.iinc 2 1, 3) := by decide +kernel
theorem dX2_firstThatTeaches_46 : decode cX2_firstThatTeaches 46 = .ok (.goto (-44), 3) := by decide +kernel
theorem dX2_firstThatTeaches_49 : decode cX2_firstThatTeaches 49 = .ok (.bipush (-6), 2) := by decide +kernel
theorem dX2_firstThatTeaches_51 : decode cX2_firstThatTeaches 51 = .ok (.ireturn, 1) := by decide +kernel
theorem dX3_init_0 : decode cX3_init 0 = .ok (.aload_n 0, 1) := by decide +kernel
theorem dX3_init_1 : decode cX3_init 1 = .ok (.invokespecial 3, 3) := by decide +kernel
theorem dX3_init_4 : decode cX3_init 4 = .ok (.aload_n 0, 1) := by decide +kernel
theorem dX3_init_5 : decode cX3_init 5 = .ok (.bipush 40, 2) := by decide +kernel
theorem dX3_init_7 : decode cX3_init 7 = .ok (.newarray .int, 2) := by decide +kernel
theorem dX3_init_9 : decode cX3_init 9 = .ok (.putfield 11, 3) := by decide +kernel
theorem dX3_init_12 : decode cX3_init 12 = .ok (.aload_n 0, 1) := by decide +kernel
theorem dX3_init_13 : decode cX3_init 13 = .ok (.iconst 0, 1) := by decide +kernel
theorem dX3_init_14 : decode cX3_init 14 = .ok (.putfield 15, 3) := by decide +kernel
theorem dX3_init_17 : decode cX3_init 17 = .ok (.return_, 1) := by decide +kernel
theorem dX3_add_0 : decode cX3_add 0 = .ok (.aload_n 0, 1) := by decide +kernel
theorem dX3_add_1 : decode cX3_add 1 = .ok (.getfield 15, 3) := by decide +kernel
theorem dX3_add_4 : decode cX3_add 4 = .ok (.bipush 40, 2) := by decide +kernel
theorem dX3_add_6 : decode cX3_add 6 = .ok (.if_icmp .lt 5, 3) := by decide +kernel
theorem dX3_add_9 : decode cX3_add 9 = .ok (.iconst 0, 1) := by decide +kernel
theorem dX3_add_10 : decode cX3_add 10 = .ok (.ireturn, 1) := by decide +kernel
theorem dX3_add_11 : decode cX3_add 11 = .ok (.aload_n 0, 1) := by decide +kernel
theorem dX3_add_12 : decode cX3_add 12 = .ok (.getfield 11, 3) := by decide +kernel
theorem dX3_add_15 : decode cX3_add 15 = .ok (.aload_n 0, 1) := by decide +kernel
theorem dX3_add_16 : decode cX3_add 16 = .ok (.getfield 15, 3) := by decide +kernel
theorem dX3_add_19 : decode cX3_add 19 = .ok (.iload_n 1, 1) := by decide +kernel
theorem dX3_add_20 : decode cX3_add 20 = .ok (.iastore, 1) := by decide +kernel
theorem dX3_add_21 : decode cX3_add 21 = .ok (.aload_n 0, 1) := by decide +kernel
theorem dX3_add_22 : decode cX3_add 22 = .ok (.dup, 1) := by decide +kernel
theorem dX3_add_23 : decode cX3_add 23 = .ok (.getfield 15, 3) := by decide +kernel
theorem dX3_add_26 : decode cX3_add 26 = .ok (.iconst 1, 1) := by decide +kernel
theorem dX3_add_27 : decode cX3_add 27 = .ok (.iadd, 1) := by decide +kernel
theorem dX3_add_28 : decode cX3_add 28 = .ok (.putfield 15, 3) := by decide +kernel
theorem dX3_add_31 : decode cX3_add 31 = .ok (.iconst 1, 1) := by decide +kernel
theorem dX3_add_32 : decode cX3_add 32 = .ok (.ireturn, 1) := by decide +kernel
theorem dX3_clear_0 : decode cX3_clear 0 = .ok (.aload_n 0, 1) := by decide +kernel
theorem dX3_clear_1 : decode cX3_clear 1 = .ok (.getfield 15, 3) := by decide +kernel
theorem dX3_clear_4 : decode cX3_clear 4 = .ok (.istore_n 1, 1) := by decide +kernel
theorem dX3_clear_5 : decode cX3_clear 5 = .ok (.aload_n 0, 1) := by decide +kernel
theorem dX3_clear_6 : decode cX3_clear 6 = .ok (.iconst 0, 1) := by decide +kernel
theorem dX3_clear_7 : decode cX3_clear 7 = .ok (.putfield 15, 3) := by decide +kernel
theorem dX3_clear_10 : decode cX3_clear 10 = .ok (.iload_n 1, 1) := by decide +kernel
theorem dX3_clear_11 : decode cX3_clear 11 = .ok (.ireturn, 1) := by decide +kernel
theorem dX3_firstFault_0 : decode cX3_firstFault 0 = .ok (.iconst 0, 1) := by decide +kernel
theorem dX3_firstFault_1 : decode cX3_firstFault 1 = .ok (.istore_n 1, 1) := by decide +kernel
theorem dX3_firstFault_2 : decode cX3_firstFault 2 = .ok (.iload_n 1, 1) := by decide +kernel
theorem dX3_firstFault_3 : decode cX3_firstFault 3 = .ok (.aload_n 0, 1) := by decide +kernel
theorem dX3_firstFault_4 : decode cX3_firstFault 4 = .ok (.getfield 15, 3) := by decide +kernel
theorem dX3_firstFault_7 : decode cX3_firstFault 7 = .ok (.if_icmp .ge 27, 3) := by decide +kernel
theorem dX3_firstFault_10 : decode cX3_firstFault 10 = .ok (.aload_n 0, 1) := by decide +kernel
theorem dX3_firstFault_11 : decode cX3_firstFault 11 = .ok (.getfield 11, 3) := by decide +kernel
theorem dX3_firstFault_14 : decode cX3_firstFault 14 = .ok (.iload_n 1, 1) := by decide +kernel
theorem dX3_firstFault_15 : decode cX3_firstFault 15 = .ok (.iaload, 1) := by decide +kernel
theorem dX3_firstFault_16 : decode cX3_firstFault 16 = .ok (.iload_n 1, 1) := by decide +kernel
theorem dX3_firstFault_17 : decode cX3_firstFault 17 = .ok (.bipush 6, 2) := by decide +kernel
theorem dX3_firstFault_19 : decode cX3_firstFault 19 = .ok (.irem, 1) := by decide +kernel
theorem dX3_firstFault_20 : decode cX3_firstFault 20 = .ok (.invokestatic 19, 3) := by decide +kernel
theorem dX3_firstFault_23 : decode cX3_firstFault 23 = .ok (.ifCond .ne 5, 3) := by decide +kernel
theorem dX3_firstFault_26 : decode cX3_firstFault 26 = .ok (.iload_n 1, 1) := by decide +kernel
theorem dX3_firstFault_27 : decode cX3_firstFault 27 = .ok (.ireturn, 1) := by decide +kernel
theorem dX3_firstFault_28 : decode cX3_firstFault 28 = .ok (.iinc 1 1, 3) := by decide +kernel
theorem dX3_firstFault_31 : decode cX3_firstFault 31 = .ok (.goto (-29), 3) := by decide +kernel
theorem dX3_firstFault_34 : decode cX3_firstFault 34 = .ok (.aload_n 0, 1) := by decide +kernel
theorem dX3_firstFault_35 : decode cX3_firstFault 35 = .ok (.getfield 15, 3) := by decide +kernel
theorem dX3_firstFault_38 : decode cX3_firstFault 38 = .ok (.bipush 6, 2) := by decide +kernel
theorem dX3_firstFault_40 : decode cX3_firstFault 40 = .ok (.irem, 1) := by decide +kernel
theorem dX3_firstFault_41 : decode cX3_firstFault 41 = .ok (.iconst 5, 1) := by decide +kernel
theorem dX3_firstFault_42 : decode cX3_firstFault 42 = .ok (.if_icmp .ne 8, 3) := by decide +kernel
theorem dX3_firstFault_45 : decode cX3_firstFault 45 = .ok (.bipush (-6), 2) := by decide +kernel
theorem dX3_firstFault_47 : decode cX3_firstFault 47 = .ok (.goto 7, 3) := by decide +kernel
theorem dX3_firstFault_50 : decode cX3_firstFault 50 = .ok (.aload_n 0, 1) := by decide +kernel
theorem dX3_firstFault_51 : decode cX3_firstFault 51 = .ok (.getfield 15, 3) := by decide +kernel
theorem dX3_firstFault_54 : decode cX3_firstFault 54 = .ok (.ireturn, 1) := by decide +kernel
theorem dX3_canStand_0 : decode cX3_canStand 0 = .ok (.iload_n 1, 1) := by decide +kernel
theorem dX3_canStand_1 : decode cX3_canStand 1 = .ok (.iconst 3, 1) := by decide +kernel
theorem dX3_canStand_2 : decode cX3_canStand 2 = .ok (.if_icmp .ge 27, 3) := by decide +kernel
theorem dX3_canStand_5 : decode cX3_canStand 5 = .ok (.iload_n 0, 1) := by decide +kernel
theorem dX3_canStand_6 : decode cX3_canStand 6 = .ok (.bipush 48, 2) := by decide +kernel
theorem dX3_canStand_8 : decode cX3_canStand 8 = .ok (.if_icmp .eq 15, 3) := by decide +kernel
theorem dX3_canStand_11 : decode cX3_canStand 11 = .ok (.iload_n 0, 1) := by decide +kernel
theorem dX3_canStand_12 : decode cX3_canStand 12 = .ok (.bipush 49, 2) := by decide +kernel
theorem dX3_canStand_14 : decode cX3_canStand 14 = .ok (.if_icmp .eq 9, 3) := by decide +kernel
theorem dX3_canStand_17 : decode cX3_canStand 17 = .ok (.iload_n 0, 1) := by decide +kernel
theorem dX3_canStand_18 : decode cX3_canStand 18 = .ok (.bipush 42, 2) := by decide +kernel
theorem dX3_canStand_20 : decode cX3_canStand 20 = .ok (.if_icmp .ne 7, 3) := by decide +kernel
theorem dX3_canStand_23 : decode cX3_canStand 23 = .ok (.iconst 1, 1) := by decide +kernel
theorem dX3_canStand_24 : decode cX3_canStand 24 = .ok (.goto 4, 3) := by decide +kernel
theorem dX3_canStand_27 : decode cX3_canStand 27 = .ok (.iconst 0, 1) := by decide +kernel
theorem dX3_canStand_28 : decode cX3_canStand 28 = .ok (.ireturn, 1) := by decide +kernel
theorem dX3_canStand_29 : decode cX3_canStand 29 = .ok (.iload_n 1, 1) := by decide +kernel
theorem dX3_canStand_30 : decode cX3_canStand 30 = .ok (.iconst 3, 1) := by decide +kernel
theorem dX3_canStand_31 : decode cX3_canStand 31 = .ok (.if_icmp .ne 15, 3) := by decide +kernel
theorem dX3_canStand_34 : decode cX3_canStand 34 = .ok (.iload_n 0, 1) := by decide +kernel
theorem dX3_canStand_35 : decode cX3_canStand 35 = .ok (.bipush 58, 2) := by decide +kernel
theorem dX3_canStand_37 : decode cX3_canStand 37 = .ok (.if_icmp .ne 7, 3) := by decide +kernel
theorem dX3_canStand_40 : decode cX3_canStand 40 = .ok (.iconst 1, 1) := by decide +kernel
theorem dX3_canStand_41 : decode cX3_canStand 41 = .ok (.goto 4, 3) := by decide +kernel
theorem dX3_canStand_44 : decode cX3_canStand 44 = .ok (.iconst 0, 1) := by decide +kernel
theorem dX3_canStand_45 : decode cX3_canStand 45 = .ok (.ireturn, 1) := by decide +kernel
theorem dX3_canStand_46 : decode cX3_canStand 46 = .ok (.iload_n 1, 1) := by decide +kernel
theorem dX3_canStand_47 : decode cX3_canStand 47 = .ok (.iconst 4, 1) := by decide +kernel
theorem dX3_canStand_48 : decode cX3_canStand 48 = .ok (.if_icmp .ne 21, 3) := by decide +kernel
theorem dX3_canStand_51 : decode cX3_canStand 51 = .ok (.iload_n 0, 1) := by decide +kernel
theorem dX3_canStand_52 : decode cX3_canStand 52 = .ok (.bipush 49, 2) := by decide +kernel
theorem dX3_canStand_54 : decode cX3_canStand 54 = .ok (.if_icmp .lt 13, 3) := by decide +kernel
theorem dX3_canStand_57 : decode cX3_canStand 57 = .ok (.iload_n 0, 1) := by decide +kernel
theorem dX3_canStand_58 : decode cX3_canStand 58 = .ok (.bipush 57, 2) := by decide +kernel
theorem dX3_canStand_60 : decode cX3_canStand 60 = .ok (.if_icmp .gt 7, 3) := by decide +kernel
theorem dX3_canStand_63 : decode cX3_canStand 63 = .ok (.iconst 1, 1) := by decide +kernel
theorem dX3_canStand_64 : decode cX3_canStand 64 = .ok (.goto 4, 3) := by decide +kernel
theorem dX3_canStand_67 : decode cX3_canStand 67 = .ok (.iconst 0, 1) := by decide +kernel
theorem dX3_canStand_68 : decode cX3_canStand 68 = .ok (.ireturn, 1) := by decide +kernel
theorem dX3_canStand_69 : decode cX3_canStand 69 = .ok (.iload_n 0, 1) := by decide +kernel
theorem dX3_canStand_70 : decode cX3_canStand 70 = .ok (.bipush 59, 2) := by decide +kernel
theorem dX3_canStand_72 : decode cX3_canStand 72 = .ok (.if_icmp .ne 7, 3) := by decide +kernel
theorem dX3_canStand_75 : decode cX3_canStand 75 = .ok (.iconst 1, 1) := by decide +kernel
theorem dX3_canStand_76 : decode cX3_canStand 76 = .ok (.goto 4, 3) := by decide +kernel
theorem dX3_canStand_79 : decode cX3_canStand 79 = .ok (.iconst 0, 1) := by decide +kernel
theorem dX3_canStand_80 : decode cX3_canStand 80 = .ok (.ireturn, 1) := by decide +kernel
theorem dX3_lines_0 : decode cX3_lines 0 = .ok (.aload_n 0, 1) := by decide +kernel
theorem dX3_lines_1 : decode cX3_lines 1 = .ok (.getfield 15, 3) := by decide +kernel
theorem dX3_lines_4 : decode cX3_lines 4 = .ok (.iconst 1, 1) := by decide +kernel
theorem dX3_lines_5 : decode cX3_lines 5 = .ok (.iadd, 1) := by decide +kernel
theorem dX3_lines_6 : decode cX3_lines 6 = .ok (.bipush 6, 2) := by decide +kernel
theorem dX3_lines_8 : decode cX3_lines 8 = .ok (.idiv, 1) := by decide +kernel
theorem dX3_lines_9 : decode cX3_lines 9 = .ok (.ireturn, 1) := by decide +kernel
theorem dX3_numberFor_0 : decode cX3_numberFor 0 = .ok (.iconst 0, 1) := by decide +kernel
theorem dX3_numberFor_1 : decode cX3_numberFor 1 = .ok (.istore_n 2, 1) := by decide +kernel
theorem dX3_numberFor_2 : decode cX3_numberFor 2 = .ok (.iload_n 2, 1) := by decide +kernel
theorem dX3_numberFor_3 : decode cX3_numberFor 3 = .ok (.iconst 4, 1) := by decide +kernel
theorem dX3_numberFor_4 : decode cX3_numberFor 4 = .ok (.iadd, 1) := by decide +kernel
theorem dX3_numberFor_5 : decode cX3_numberFor 5 = .ok (.aload_n 0, 1) := by decide +kernel
theorem dX3_numberFor_6 : decode cX3_numberFor 6 = .ok (.getfield 15, 3) := by decide +kernel
theorem dX3_numberFor_9 : decode cX3_numberFor 9 = .ok (.if_icmp .ge 30, 3) := by decide +kernel
theorem dX3_numberFor_12 : decode cX3_numberFor 12 = .ok (.aload_n 0, 1) := by decide +kernel
theorem dX3_numberFor_13 : decode cX3_numberFor 13 = .ok (.iload_n 2, 1) := by decide +kernel
theorem dX3_numberFor_14 : decode cX3_numberFor 14 = .ok (.iload_n 1, 1) := by decide +kernel
theorem dX3_numberFor_15 : decode cX3_numberFor 15 = .ok (.invokevirtual 23, 3) := by decide +kernel
theorem dX3_numberFor_18 : decode cX3_numberFor 18 = .ok (.ifCond .eq 15, 3) := by decide +kernel
theorem dX3_numberFor_21 : decode cX3_numberFor 21 = .ok (.aload_n 0, 1) := by decide +kernel
theorem dX3_numberFor_22 : decode cX3_numberFor 22 = .ok (.getfield 11, 3) := by decide +kernel
theorem dX3_numberFor_25 : decode cX3_numberFor 25 = .ok (.iload_n 2, 1) := by decide +kernel
theorem dX3_numberFor_26 : decode cX3_numberFor 26 = .ok (.iconst 4, 1) := by decide +kernel
theorem dX3_numberFor_27 : decode cX3_numberFor 27 = .ok (.iadd, 1) := by decide +kernel
theorem dX3_numberFor_28 : decode cX3_numberFor 28 = .ok (.iaload, 1) := by decide +kernel
theorem dX3_numberFor_29 : decode cX3_numberFor 29 = .ok (.bipush 48, 2) := by decide +kernel
theorem dX3_numberFor_31 : decode cX3_numberFor 31 = .ok (.isub, 1) := by decide +kernel
theorem dX3_numberFor_32 : decode cX3_numberFor 32 = .ok (.ireturn, 1) := by decide +kernel
theorem dX3_numberFor_33 : decode cX3_numberFor 33 = .ok (.iinc 2 6, 3) := by decide +kernel
theorem dX3_numberFor_36 : decode cX3_numberFor 36 = .ok (.goto (-34), 3) := by decide +kernel
theorem dX3_numberFor_39 : decode cX3_numberFor 39 = .ok (.iconst 1, 1) := by decide +kernel
theorem dX3_numberFor_40 : decode cX3_numberFor 40 = .ok (.ireturn, 1) := by decide +kernel
theorem dX3_lineFits_0 : decode cX3_lineFits 0 = .ok (.iconst 0, 1) := by decide +kernel
theorem dX3_lineFits_1 : decode cX3_lineFits 1 = .ok (.istore_n 3, 1) := by decide +kernel
theorem dX3_lineFits_2 : decode cX3_lineFits 2 = .ok (.iload_n 3, 1) := by decide +kernel
theorem dX3_lineFits_3 : decode cX3_lineFits 3 = .ok (.iconst 3, 1) := by decide +kernel
theorem dX3_lineFits_4 : decode cX3_lineFits 4 = .ok (.if_icmp .ge 41, 3) := by decide +kernel
theorem dX3_lineFits_7 : decode cX3_lineFits 7 = .ok (.aload_n 0, 1) := by decide +kernel
theorem dX3_lineFits_8 : decode cX3_lineFits 8 = .ok (.getfield 11, 3) := by decide +kernel
theorem dX3_lineFits_11 : decode cX3_lineFits 11 = .ok (.iload_n 1, 1) := by decide +kernel
theorem dX3_lineFits_12 : decode cX3_lineFits 12 = .ok (.iload_n 3, 1) := by decide +kernel
theorem dX3_lineFits_13 : decode cX3_lineFits 13 = .ok (.iadd, 1) := by decide +kernel
theorem dX3_lineFits_14 : decode cX3_lineFits 14 = .ok (.iaload, 1) := by decide +kernel
theorem dX3_lineFits_15 : decode cX3_lineFits 15 = .ok (.istore 4, 2) := by decide +kernel
theorem dX3_lineFits_17 : decode cX3_lineFits 17 = .ok (.iload 4, 2) := by decide +kernel
theorem dX3_lineFits_19 : decode cX3_lineFits 19 = .ok (.bipush 42, 2) := by decide +kernel
theorem dX3_lineFits_21 : decode cX3_lineFits 21 = .ok (.if_icmp .eq 18, 3) := by decide +kernel
theorem dX3_lineFits_24 : decode cX3_lineFits 24 = .ok (.iload 4, 2) := by decide +kernel
theorem dX3_lineFits_26 : decode cX3_lineFits 26 = .ok (.bipush 48, 2) := by decide +kernel
theorem dX3_lineFits_28 : decode cX3_lineFits 28 = .ok (.isub, 1) := by decide +kernel
theorem dX3_lineFits_29 : decode cX3_lineFits 29 = .ok (.iload_n 2, 1) := by decide +kernel
theorem dX3_lineFits_30 : decode cX3_lineFits 30 = .ok (.iload_n 3, 1) := by decide +kernel
theorem dX3_lineFits_31 : decode cX3_lineFits 31 = .ok (.invokestatic 26, 3) := by decide +kernel
theorem dX3_lineFits_34 : decode cX3_lineFits 34 = .ok (.if_icmp .eq 5, 3) := by decide +kernel
theorem dX3_lineFits_37 : decode cX3_lineFits 37 = .ok (.iconst 0, 1) := by decide +kernel
theorem dX3_lineFits_38 : decode cX3_lineFits 38 = .ok (.ireturn, 1) := by decide +kernel
theorem dX3_lineFits_39 : decode cX3_lineFits 39 = .ok (.iinc 3 1, 3) := by decide +kernel
theorem dX3_lineFits_42 : decode cX3_lineFits 42 = .ok (.goto (-40), 3) := by decide +kernel
theorem dX3_lineFits_45 : decode cX3_lineFits 45 = .ok (.iconst 1, 1) := by decide +kernel
theorem dX3_lineFits_46 : decode cX3_lineFits 46 = .ok (.ireturn, 1) := by decide +kernel
theorem dX4_init_0 : decode cX4_init 0 = .ok (.aload_n 0, 1) := by decide +kernel
theorem dX4_init_1 : decode cX4_init 1 = .ok (.invokespecial 3, 3) := by decide +kernel
theorem dX4_init_4 : decode cX4_init 4 = .ok (.aload_n 0, 1) := by decide +kernel
theorem dX4_init_5 : decode cX4_init 5 = .ok (.iconst 3, 1) := by decide +kernel
theorem dX4_init_6 : decode cX4_init 6 = .ok (.newarray .int, 2) := by decide +kernel
theorem dX4_init_8 : decode cX4_init 8 = .ok (.dup, 1) := by decide +kernel
theorem dX4_init_9 : decode cX4_init 9 = .ok (.iconst 0, 1) := by decide +kernel
theorem dX4_init_10 : decode cX4_init 10 = .ok (.iconst 1, 1) := by decide +kernel
theorem dX4_init_11 : decode cX4_init 11 = .ok (.iastore, 1) := by decide +kernel
theorem dX4_init_12 : decode cX4_init 12 = .ok (.dup, 1) := by decide +kernel
theorem dX4_init_13 : decode cX4_init 13 = .ok (.iconst 1, 1) := by decide +kernel
theorem dX4_init_14 : decode cX4_init 14 = .ok (.iconst 1, 1) := by decide +kernel
theorem dX4_init_15 : decode cX4_init 15 = .ok (.iastore, 1) := by decide +kernel
theorem dX4_init_16 : decode cX4_init 16 = .ok (.dup, 1) := by decide +kernel
theorem dX4_init_17 : decode cX4_init 17 = .ok (.iconst 2, 1) := by decide +kernel
theorem dX4_init_18 : decode cX4_init 18 = .ok (.iconst 1, 1) := by decide +kernel
theorem dX4_init_19 : decode cX4_init 19 = .ok (.iastore, 1) := by decide +kernel
theorem dX4_init_20 : decode cX4_init 20 = .ok (.putfield 9, 3) := by decide +kernel
theorem dX4_init_23 : decode cX4_init 23 = .ok (.aload_n 0, 1) := by decide +kernel
theorem dX4_init_24 : decode cX4_init 24 = .ok (.iconst 2, 1) := by decide +kernel
theorem dX4_init_25 : decode cX4_init 25 = .ok (.putfield 15, 3) := by decide +kernel
theorem dX4_init_28 : decode cX4_init 28 = .ok (.aload_n 0, 1) := by decide +kernel
theorem dX4_init_29 : decode cX4_init 29 = .ok (.bipush 6, 2) := by decide +kernel
theorem dX4_init_31 : decode cX4_init 31 = .ok (.newarray .long, 2) := by decide +kernel
theorem dX4_init_33 : decode cX4_init 33 = .ok (.putfield 19, 3) := by decide +kernel
theorem dX4_init_36 : decode cX4_init 36 = .ok (.aload_n 0, 1) := by decide +kernel
theorem dX4_init_37 : decode cX4_init 37 = .ok (.bipush 6, 2) := by decide +kernel
theorem dX4_init_39 : decode cX4_init 39 = .ok (.newarray .long, 2) := by decide +kernel
theorem dX4_init_41 : decode cX4_init 41 = .ok (.putfield 23, 3) := by decide +kernel
theorem dX4_init_44 : decode cX4_init 44 = .ok (.aload_n 0, 1) := by decide +kernel
theorem dX4_init_45 : decode cX4_init 45 = .ok (.sipush 210, 3) := by decide +kernel
theorem dX4_init_48 : decode cX4_init 48 = .ok (.newarray .long, 2) := by decide +kernel
theorem dX4_init_50 : decode cX4_init 50 = .ok (.putfield 28, 3) := by decide +kernel
theorem dX4_init_53 : decode cX4_init 53 = .ok (.aload_n 0, 1) := by decide +kernel
theorem dX4_init_54 : decode cX4_init 54 = .ok (.bipush 8, 2) := by decide +kernel
theorem dX4_init_56 : decode cX4_init 56 = .ok (.newarray .long, 2) := by decide +kernel
theorem dX4_init_58 : decode cX4_init 58 = .ok (.putfield 31, 3) := by decide +kernel
theorem dX4_init_61 : decode cX4_init 61 = .ok (.aload_n 0, 1) := by decide +kernel
theorem dX4_init_62 : decode cX4_init 62 = .ok (.bipush 64, 2) := by decide +kernel
theorem dX4_init_64 : decode cX4_init 64 = .ok (.newarray .long, 2) := by decide +kernel
theorem dX4_init_66 : decode cX4_init 66 = .ok (.putfield 34, 3) := by decide +kernel
theorem dX4_init_69 : decode cX4_init 69 = .ok (.aload_n 0, 1) := by decide +kernel
theorem dX4_init_70 : decode cX4_init 70 = .ok (.iconst 0, 1) := by decide +kernel
theorem dX4_init_71 : decode cX4_init 71 = .ok (.putfield 37, 3) := by decide +kernel
theorem dX4_init_74 : decode cX4_init 74 = .ok (.aload_n 0, 1) := by decide +kernel
theorem dX4_init_75 : decode cX4_init 75 = .ok (.bipush 8, 2) := by decide +kernel
theorem dX4_init_77 : decode cX4_init 77 = .ok (.newarray .long, 2) := by decide +kernel
theorem dX4_init_79 : decode cX4_init 79 = .ok (.putfield 41, 3) := by decide +kernel
theorem dX4_init_82 : decode cX4_init 82 = .ok (.aload_n 0, 1) := by decide +kernel
theorem dX4_init_83 : decode cX4_init 83 = .ok (.bipush 8, 2) := by decide +kernel
theorem dX4_init_85 : decode cX4_init 85 = .ok (.newarray .long, 2) := by decide +kernel
theorem dX4_init_87 : decode cX4_init 87 = .ok (.putfield 44, 3) := by decide +kernel
theorem dX4_init_90 : decode cX4_init 90 = .ok (.aload_n 0, 1) := by decide +kernel
theorem dX4_init_91 : decode cX4_init 91 = .ok (.aload_n 1, 1) := by decide +kernel
theorem dX4_init_92 : decode cX4_init 92 = .ok (.putfield 47, 3) := by decide +kernel
theorem dX4_init_95 : decode cX4_init 95 = .ok (.aload_n 0, 1) := by decide +kernel
theorem dX4_init_96 : decode cX4_init 96 = .ok (.aload_n 2, 1) := by decide +kernel
theorem dX4_init_97 : decode cX4_init 97 = .ok (.putfield 51, 3) := by decide +kernel
theorem dX4_init_100 : decode cX4_init 100 = .ok (.return_, 1) := by decide +kernel
theorem dX4_whole_0 : decode cX4_whole 0 = .ok (.bipush 12, 2) := by decide +kernel
theorem dX4_whole_2 : decode cX4_whole 2 = .ok (.aload_n 0, 1) := by decide +kernel
theorem dX4_whole_3 : decode cX4_whole 3 = .ok (.getfield 9, 3) := by decide +kernel
theorem dX4_whole_6 : decode cX4_whole 6 = .ok (.iconst 0, 1) := by decide +kernel
theorem dX4_whole_7 : decode cX4_whole 7 = .ok (.iaload, 1) := by decide +kernel
theorem dX4_whole_8 : decode cX4_whole 8 = .ok (.aload_n 0, 1) := by decide +kernel
theorem dX4_whole_9 : decode cX4_whole 9 = .ok (.getfield 9, 3) := by decide +kernel
theorem dX4_whole_12 : decode cX4_whole 12 = .ok (.iconst 1, 1) := by decide +kernel
theorem dX4_whole_13 : decode cX4_whole 13 = .ok (.iaload, 1) := by decide +kernel
theorem dX4_whole_14 : decode cX4_whole 14 = .ok (.iadd, 1) := by decide +kernel
theorem dX4_whole_15 : decode cX4_whole 15 = .ok (.aload_n 0, 1) := by decide +kernel
theorem dX4_whole_16 : decode cX4_whole 16 = .ok (.getfield 9, 3) := by decide +kernel
theorem dX4_whole_19 : decode cX4_whole 19 = .ok (.iconst 2, 1) := by decide +kernel
theorem dX4_whole_20 : decode cX4_whole 20 = .ok (.iaload, 1) := by decide +kernel
theorem dX4_whole_21 : decode cX4_whole 21 = .ok (.iadd, 1) := by decide +kernel
theorem dX4_whole_22 : decode cX4_whole 22 = .ok (.imul, 1) := by decide +kernel
theorem dX4_whole_23 : decode cX4_whole 23 = .ok (.i2l, 1) := by decide +kernel
theorem dX4_whole_24 : decode cX4_whole 24 = .ok (.aload_n 0, 1) := by decide +kernel
theorem dX4_whole_25 : decode cX4_whole 25 = .ok (.getfield 15, 3) := by decide +kernel
theorem dX4_whole_28 : decode cX4_whole 28 = .ok (.iload_n 1, 1) := by decide +kernel
theorem dX4_whole_29 : decode cX4_whole 29 = .ok (.imul, 1) := by decide +kernel
theorem dX4_whole_30 : decode cX4_whole 30 = .ok (.invokestatic 55, 3) := by decide +kernel
theorem dX4_whole_33 : decode cX4_whole 33 = .ok (.lreturn, 1) := by decide +kernel
theorem dX4_rowOf_0 : decode cX4_rowOf 0 = .ok (.aload_n 0, 1) := by decide +kernel
theorem dX4_rowOf_1 : decode cX4_rowOf 1 = .ok (.iload_n 2, 1) := by decide +kernel
theorem dX4_rowOf_2 : decode cX4_rowOf 2 = .ok (.aload_n 0, 1) := by decide +kernel
theorem dX4_rowOf_3 : decode cX4_rowOf 3 = .ok (.getfield 19, 3) := by decide +kernel
theorem dX4_rowOf_6 : decode cX4_rowOf 6 = .ok (.invokevirtual 59, 3) := by decide +kernel
theorem dX4_rowOf_9 : decode cX4_rowOf 9 = .ok (.aload_n 0, 1) := by decide +kernel
theorem dX4_rowOf_10 : decode cX4_rowOf 10 = .ok (.iload_n 1, 1) := by decide +kernel
theorem dX4_rowOf_11 : decode cX4_rowOf 11 = .ok (.aload_n 0, 1) := by decide +kernel
theorem dX4_rowOf_12 : decode cX4_rowOf 12 = .ok (.getfield 23, 3) := by decide +kernel
theorem dX4_rowOf_15 : decode cX4_rowOf 15 = .ok (.invokevirtual 59, 3) := by decide +kernel
theorem dX4_rowOf_18 : decode cX4_rowOf 18 = .ok (.aload_n 0, 1) := by decide +kernel
theorem dX4_rowOf_19 : decode cX4_rowOf 19 = .ok (.getfield 28, 3) := by decide +kernel
theorem dX4_rowOf_22 : decode cX4_rowOf 22 = .ok (.lconst 0, 1) := by decide +kernel
theorem dX4_rowOf_23 : decode cX4_rowOf 23 = .ok (.invokestatic 63, 3) := by decide +kernel
theorem dX4_rowOf_26 : decode cX4_rowOf 26 = .ok (.aload_n 0, 1) := by decide +kernel
theorem dX4_rowOf_27 : decode cX4_rowOf 27 = .ok (.getfield 28, 3) := by decide +kernel
theorem dX4_rowOf_30 : decode cX4_rowOf 30 = .ok (.iconst 0, 1) := by decide +kernel
theorem dX4_rowOf_31 : decode cX4_rowOf 31 = .ok (.lconst 1, 1) := by decide +kernel
theorem dX4_rowOf_32 : decode cX4_rowOf 32 = .ok (.lastore, 1) := by decide +kernel
theorem dX4_rowOf_33 : decode cX4_rowOf 33 = .ok (.iconst 0, 1) := by decide +kernel
theorem dX4_rowOf_34 : decode cX4_rowOf 34 = .ok (.istore 4, 2) := by decide +kernel
theorem dX4_rowOf_36 : decode cX4_rowOf 36 = .ok (.iload 4, 2) := by decide +kernel
theorem dX4_rowOf_38 : decode cX4_rowOf 38 = .ok (.aload_n 0, 1) := by decide +kernel
theorem dX4_rowOf_39 : decode cX4_rowOf 39 = .ok (.getfield 15, 3) := by decide +kernel
theorem dX4_rowOf_42 : decode cX4_rowOf 42 = .ok (.if_icmp .ge 38, 3) := by decide +kernel
theorem dX4_rowOf_45 : decode cX4_rowOf 45 = .ok (.iload 4, 2) := by decide +kernel
theorem dX4_rowOf_47 : decode cX4_rowOf 47 = .ok (.iconst 4, 1) := by decide +kernel
theorem dX4_rowOf_48 : decode cX4_rowOf 48 = .ok (.if_icmp .ge 32, 3) := by decide +kernel
theorem dX4_rowOf_51 : decode cX4_rowOf 51 = .ok (.aload_n 0, 1) := by decide +kernel
theorem dX4_rowOf_52 : decode cX4_rowOf 52 = .ok (.iload 4, 2) := by decide +kernel
theorem dX4_rowOf_54 : decode cX4_rowOf 54 = .ok (.iload 4, 2) := by decide +kernel
theorem dX4_rowOf_56 : decode cX4_rowOf 56 = .ok (.iload_n 3, 1) := by decide +kernel
theorem dX4_rowOf_57 : decode cX4_rowOf 57 = .ok (.if_icmp .ge 10, 3) := by decide +kernel
theorem dX4_rowOf_60 : decode cX4_rowOf 60 = .ok (.aload_n 0, 1) := by decide +kernel
theorem dX4_rowOf_61 : decode cX4_rowOf 61 = .ok (.getfield 19, 3) := by decide +kernel
theorem dX4_rowOf_64 : decode cX4_rowOf 64 = .ok (.goto 7, 3) := by decide +kernel
theorem dX4_rowOf_67 : decode cX4_rowOf 67 = .ok (.aload_n 0, 1) := by decide +kernel
theorem dX4_rowOf_68 : decode cX4_rowOf 68 = .ok (.getfield 23, 3) := by decide +kernel
theorem dX4_rowOf_71 : decode cX4_rowOf 71 = .ok (.invokevirtual 69, 3) := by decide +kernel
theorem dX4_rowOf_74 : decode cX4_rowOf 74 = .ok (.iinc 4 1, 3) := by decide +kernel
theorem dX4_rowOf_77 : decode cX4_rowOf 77 = .ok (.goto (-41), 3) := by decide +kernel
theorem dX4_rowOf_80 : decode cX4_rowOf 80 = .ok (.aload_n 0, 1) := by decide +kernel
theorem dX4_rowOf_81 : decode cX4_rowOf 81 = .ok (.getfield 31, 3) := by decide +kernel
theorem dX4_rowOf_84 : decode cX4_rowOf 84 = .ok (.lconst 0, 1) := by decide +kernel
theorem dX4_rowOf_85 : decode cX4_rowOf 85 = .ok (.invokestatic 63, 3) := by decide +kernel
theorem dX4_rowOf_88 : decode cX4_rowOf 88 = .ok (.getstatic 72, 3) := by decide +kernel
theorem dX4_rowOf_91 : decode cX4_rowOf 91 = .ok (.aload_n 0, 1) := by decide +kernel
theorem dX4_rowOf_92 : decode cX4_rowOf 92 = .ok (.getfield 15, 3) := by decide +kernel
theorem dX4_rowOf_95 : decode cX4_rowOf 95 = .ok (.iaload, 1) := by decide +kernel
theorem dX4_rowOf_96 : decode cX4_rowOf 96 = .ok (.istore 4, 2) := by decide +kernel
theorem dX4_rowOf_98 : decode cX4_rowOf 98 = .ok (.iload 4, 2) := by decide +kernel
theorem dX4_rowOf_100 : decode cX4_rowOf 100 = .ok (.getstatic 72, 3) := by decide +kernel
theorem dX4_rowOf_103 : decode cX4_rowOf 103 = .ok (.aload_n 0, 1) := by decide +kernel
theorem dX4_rowOf_104 : decode cX4_rowOf 104 = .ok (.getfield 15, 3) := by decide +kernel
theorem dX4_rowOf_107 : decode cX4_rowOf 107 = .ok (.iconst 1, 1) := by decide +kernel
theorem dX4_rowOf_108 : decode cX4_rowOf 108 = .ok (.iadd, 1) := by decide +kernel
theorem dX4_rowOf_109 : decode cX4_rowOf 109 = .ok (.iaload, 1) := by decide +kernel
theorem dX4_rowOf_110 : decode cX4_rowOf 110 = .ok (.if_icmp .ge 45, 3) := by decide +kernel
theorem dX4_rowOf_113 : decode cX4_rowOf 113 = .ok (.aload_n 0, 1) := by decide +kernel
theorem dX4_rowOf_114 : decode cX4_rowOf 114 = .ok (.getfield 28, 3) := by decide +kernel
theorem dX4_rowOf_117 : decode cX4_rowOf 117 = .ok (.iload 4, 2) := by decide +kernel
theorem dX4_rowOf_119 : decode cX4_rowOf 119 = .ok (.laload, 1) := by decide +kernel
theorem dX4_rowOf_120 : decode cX4_rowOf 120 = .ok (.lconst 0, 1) := by decide +kernel
theorem dX4_rowOf_121 : decode cX4_rowOf 121 = .ok (.lcmp, 1) := by decide +kernel
theorem dX4_rowOf_122 : decode cX4_rowOf 122 = .ok (.ifCond .eq 27, 3) := by decide +kernel
theorem dX4_rowOf_125 : decode cX4_rowOf 125 = .ok (.aload_n 0, 1) := by decide +kernel
theorem dX4_rowOf_126 : decode cX4_rowOf 126 = .ok (.getfield 31, 3) := by decide +kernel
theorem dX4_rowOf_129 : decode cX4_rowOf 129 = .ok (.aload_n 0, 1) := by decide +kernel
theorem dX4_rowOf_130 : decode cX4_rowOf 130 = .ok (.getfield 51, 3) := by decide +kernel
theorem dX4_rowOf_133 : decode cX4_rowOf 133 = .ok (.iload 4, 2) := by decide +kernel
theorem dX4_rowOf_135 : decode cX4_rowOf 135 = .ok (.invokevirtual 75, 3) := by decide +kernel
theorem dX4_rowOf_138 : decode cX4_rowOf 138 = .ok (.dup2, 1) := by decide +kernel
theorem dX4_rowOf_139 : decode cX4_rowOf 139 = .ok (.laload, 1) := by decide +kernel
theorem dX4_rowOf_140 : decode cX4_rowOf 140 = .ok (.aload_n 0, 1) := by decide +kernel
theorem dX4_rowOf_141 : decode cX4_rowOf 141 = .ok (.getfield 28, 3) := by decide +kernel
theorem dX4_rowOf_144 : decode cX4_rowOf 144 = .ok (.iload 4, 2) := by decide +kernel
theorem dX4_rowOf_146 : decode cX4_rowOf 146 = .ok (.laload, 1) := by decide +kernel
theorem dX4_rowOf_147 : decode cX4_rowOf 147 = .ok (.ladd, 1) := by decide +kernel
theorem dX4_rowOf_148 : decode cX4_rowOf 148 = .ok (.lastore, 1) := by decide +kernel
theorem dX4_rowOf_149 : decode cX4_rowOf 149 = .ok (.iinc 4 1, 3) := by decide +kernel
theorem dX4_rowOf_152 : decode cX4_rowOf 152 = .ok (.goto (-54), 3) := by decide +kernel
theorem dX4_rowOf_155 : decode cX4_rowOf 155 = .ok (.aload_n 0, 1) := by decide +kernel
theorem dX4_rowOf_156 : decode cX4_rowOf 156 = .ok (.getfield 31, 3) := by decide +kernel
theorem dX4_rowOf_159 : decode cX4_rowOf 159 = .ok (.areturn, 1) := by decide +kernel
theorem dX4_listSayings_0 : decode cX4_listSayings 0 = .ok (.iconst 0, 1) := by decide +kernel
theorem dX4_listSayings_1 : decode cX4_listSayings 1 = .ok (.istore_n 3, 1) := by decide +kernel
theorem dX4_listSayings_2 : decode cX4_listSayings 2 = .ok (.iload_n 3, 1) := by decide +kernel
theorem dX4_listSayings_3 : decode cX4_listSayings 3 = .ok (.bipush 6, 2) := by decide +kernel
theorem dX4_listSayings_5 : decode cX4_listSayings 5 = .ok (.if_icmp .ge 70, 3) := by decide +kernel
theorem dX4_listSayings_8 : decode cX4_listSayings 8 = .ok (.iload_n 3, 1) := by decide +kernel
theorem dX4_listSayings_9 : decode cX4_listSayings 9 = .ok (.iconst 2, 1) := by decide +kernel
theorem dX4_listSayings_10 : decode cX4_listSayings 10 = .ok (.idiv, 1) := by decide +kernel
theorem dX4_listSayings_11 : decode cX4_listSayings 11 = .ok (.istore 4, 2) := by decide +kernel
theorem dX4_listSayings_13 : decode cX4_listSayings 13 = .ok (.iload_n 1, 1) := by decide +kernel
theorem dX4_listSayings_14 : decode cX4_listSayings 14 = .ok (.iload 4, 2) := by decide +kernel
theorem dX4_listSayings_16 : decode cX4_listSayings 16 = .ok (.invokestatic 79, 3) := by decide +kernel
theorem dX4_listSayings_19 : decode cX4_listSayings 19 = .ok (.iload_n 3, 1) := by decide +kernel
theorem dX4_listSayings_20 : decode cX4_listSayings 20 = .ok (.iconst 2, 1) := by decide +kernel
theorem dX4_listSayings_21 : decode cX4_listSayings 21 = .ok (.irem, 1) := by decide +kernel
theorem dX4_listSayings_22 : decode cX4_listSayings 22 = .ok (.if_icmp .ne 7, 3) := by decide +kernel
theorem dX4_listSayings_25 : decode cX4_listSayings 25 = .ok (.iconst 1, 1) := by decide +kernel
theorem dX4_listSayings_26 : decode cX4_listSayings 26 = .ok (.goto 4, 3) := by decide +kernel
theorem dX4_listSayings_29 : decode cX4_listSayings 29 = .ok (.iconst 0, 1) := by decide +kernel
theorem dX4_listSayings_30 : decode cX4_listSayings 30 = .ok (.istore 5, 2) := by decide +kernel
theorem dX4_listSayings_32 : decode cX4_listSayings 32 = .ok (.aload_n 2, 1) := by decide +kernel
theorem dX4_listSayings_33 : decode cX4_listSayings 33 = .ok (.iload_n 3, 1) := by decide +kernel
theorem dX4_listSayings_34 : decode cX4_listSayings 34 = .ok (.aload_n 0, 1) := by decide +kernel
theorem dX4_listSayings_35 : decode cX4_listSayings 35 = .ok (.getfield 9, 3) := by decide +kernel
theorem dX4_listSayings_38 : decode cX4_listSayings 38 = .ok (.iload 4, 2) := by decide +kernel
theorem dX4_listSayings_40 : decode cX4_listSayings 40 = .ok (.iaload, 1) := by decide +kernel
theorem dX4_listSayings_41 : decode cX4_listSayings 41 = .ok (.iload 5, 2) := by decide +kernel
theorem dX4_listSayings_43 : decode cX4_listSayings 43 = .ok (.ifCond .eq 16, 3) := by decide +kernel
theorem dX4_listSayings_46 : decode cX4_listSayings 46 = .ok (.bipush 12, 2) := by decide +kernel
theorem dX4_listSayings_48 : decode cX4_listSayings 48 = .ok (.aload_n 0, 1) := by decide +kernel
theorem dX4_listSayings_49 : decode cX4_listSayings 49 = .ok (.getfield 47, 3) := by decide +kernel
theorem dX4_listSayings_52 : decode cX4_listSayings 52 = .ok (.getfield 83, 3) := by decide +kernel
theorem dX4_listSayings_55 : decode cX4_listSayings 55 = .ok (.isub, 1) := by decide +kernel
theorem dX4_listSayings_56 : decode cX4_listSayings 56 = .ok (.goto 10, 3) := by decide +kernel
theorem dX4_listSayings_59 : decode cX4_listSayings 59 = .ok (.aload_n 0, 1) := by decide +kernel
theorem dX4_listSayings_60 : decode cX4_listSayings 60 = .ok (.getfield 47, 3) := by decide +kernel
theorem dX4_listSayings_63 : decode cX4_listSayings 63 = .ok (.getfield 83, 3) := by decide +kernel
theorem dX4_listSayings_66 : decode cX4_listSayings 66 = .ok (.imul, 1) := by decide +kernel
theorem dX4_listSayings_67 : decode cX4_listSayings 67 = .ok (.i2l, 1) := by decide +kernel
theorem dX4_listSayings_68 : decode cX4_listSayings 68 = .ok (.lastore, 1) := by decide +kernel
theorem dX4_listSayings_69 : decode cX4_listSayings 69 = .ok (.iinc 3 1, 3) := by decide +kernel
theorem dX4_listSayings_72 : decode cX4_listSayings 72 = .ok (.goto (-70), 3) := by decide +kernel
theorem dX4_listSayings_75 : decode cX4_listSayings 75 = .ok (.return_, 1) := by decide +kernel
theorem dX4_hearOneMore_0 : decode cX4_hearOneMore 0 = .ok (.getstatic 72, 3) := by decide +kernel
theorem dX4_hearOneMore_3 : decode cX4_hearOneMore 3 = .ok (.iload_n 1, 1) := by decide +kernel
theorem dX4_hearOneMore_4 : decode cX4_hearOneMore 4 = .ok (.iaload, 1) := by decide +kernel
theorem dX4_hearOneMore_5 : decode cX4_hearOneMore 5 = .ok (.istore_n 3, 1) := by decide +kernel
theorem dX4_hearOneMore_6 : decode cX4_hearOneMore 6 = .ok (.iload_n 3, 1) := by decide +kernel
theorem dX4_hearOneMore_7 : decode cX4_hearOneMore 7 = .ok (.getstatic 72, 3) := by decide +kernel
theorem dX4_hearOneMore_10 : decode cX4_hearOneMore 10 = .ok (.iload_n 1, 1) := by decide +kernel
theorem dX4_hearOneMore_11 : decode cX4_hearOneMore 11 = .ok (.iconst 1, 1) := by decide +kernel
theorem dX4_hearOneMore_12 : decode cX4_hearOneMore 12 = .ok (.iadd, 1) := by decide +kernel
theorem dX4_hearOneMore_13 : decode cX4_hearOneMore 13 = .ok (.iaload, 1) := by decide +kernel
theorem dX4_hearOneMore_14 : decode cX4_hearOneMore 14 = .ok (.if_icmp .ge 73, 3) := by decide +kernel
theorem dX4_hearOneMore_17 : decode cX4_hearOneMore 17 = .ok (.aload_n 0, 1) := by decide +kernel
theorem dX4_hearOneMore_18 : decode cX4_hearOneMore 18 = .ok (.getfield 28, 3) := by decide +kernel
theorem dX4_hearOneMore_21 : decode cX4_hearOneMore 21 = .ok (.iload_n 3, 1) := by decide +kernel
theorem dX4_hearOneMore_22 : decode cX4_hearOneMore 22 = .ok (.laload, 1) := by decide +kernel
theorem dX4_hearOneMore_23 : decode cX4_hearOneMore 23 = .ok (.lconst 0, 1) := by decide +kernel
theorem dX4_hearOneMore_24 : decode cX4_hearOneMore 24 = .ok (.lcmp, 1) := by decide +kernel
theorem dX4_hearOneMore_25 : decode cX4_hearOneMore 25 = .ok (.ifCond .ne 6, 3) := by decide +kernel
theorem dX4_hearOneMore_28 : decode cX4_hearOneMore 28 = .ok (.goto 53, 3) := by decide +kernel
theorem dX4_hearOneMore_31 : decode cX4_hearOneMore 31 = .ok (.iconst 0, 1) := by decide +kernel
theorem dX4_hearOneMore_32 : decode cX4_hearOneMore 32 = .ok (.istore 4, 2) := by decide +kernel
theorem dX4_hearOneMore_34 : decode cX4_hearOneMore 34 = .ok (.iload 4, 2) := by decide +kernel
theorem dX4_hearOneMore_36 : decode cX4_hearOneMore 36 = .ok (.bipush 6, 2) := by decide +kernel
theorem dX4_hearOneMore_38 : decode cX4_hearOneMore 38 = .ok (.if_icmp .ge 43, 3) := by decide +kernel
theorem dX4_hearOneMore_41 : decode cX4_hearOneMore 41 = .ok (.aload_n 0, 1) := by decide +kernel
theorem dX4_hearOneMore_42 : decode cX4_hearOneMore 42 = .ok (.getfield 28, 3) := by decide +kernel
theorem dX4_hearOneMore_45 : decode cX4_hearOneMore 45 = .ok (.aload_n 0, 1) := by decide +kernel
theorem dX4_hearOneMore_46 : decode cX4_hearOneMore 46 = .ok (.getfield 51, 3) := by decide +kernel
theorem dX4_hearOneMore_49 : decode cX4_hearOneMore 49 = .ok (.getfield 88, 3) := by decide +kernel
theorem dX4_hearOneMore_52 : decode cX4_hearOneMore 52 = .ok (.iload_n 3, 1) := by decide +kernel
theorem dX4_hearOneMore_53 : decode cX4_hearOneMore 53 = .ok (.bipush 6, 2) := by decide +kernel
theorem dX4_hearOneMore_55 : decode cX4_hearOneMore 55 = .ok (.imul, 1) := by decide +kernel
theorem dX4_hearOneMore_56 : decode cX4_hearOneMore 56 = .ok (.iload 4, 2) := by decide +kernel
theorem dX4_hearOneMore_58 : decode cX4_hearOneMore 58 = .ok (.iadd, 1) := by decide +kernel
theorem dX4_hearOneMore_59 : decode cX4_hearOneMore 59 = .ok (.iaload, 1) := by decide +kernel
theorem dX4_hearOneMore_60 : decode cX4_hearOneMore 60 = .ok (.dup2, 1) := by decide +kernel
theorem dX4_hearOneMore_61 : decode cX4_hearOneMore 61 = .ok (.laload, 1) := by decide +kernel
theorem dX4_hearOneMore_62 : decode cX4_hearOneMore 62 = .ok (.aload_n 0, 1) := by decide +kernel
theorem dX4_hearOneMore_63 : decode cX4_hearOneMore 63 = .ok (.getfield 28, 3) := by decide +kernel
theorem dX4_hearOneMore_66 : decode cX4_hearOneMore 66 = .ok (.iload_n 3, 1) := by decide +kernel
theorem dX4_hearOneMore_67 : decode cX4_hearOneMore 67 = .ok (.laload, 1) := by decide +kernel
theorem dX4_hearOneMore_68 : decode cX4_hearOneMore 68 = .ok (.aload_n 2, 1) := by decide +kernel
theorem dX4_hearOneMore_69 : decode cX4_hearOneMore 69 = .ok (.iload 4, 2) := by decide +kernel
theorem dX4_hearOneMore_71 : decode cX4_hearOneMore 71 = .ok (.laload, 1) := by decide +kernel
