theorem dX6_beforehand_85 : decode cX6_beforehand 85 = .ok (.ireturn, 1) := by decide +kernel
theorem dX6_beforehand_86 : decode cX6_beforehand 86 = .ok (.iinc 2 1, 3) := by decide +kernel
theorem dX6_beforehand_89 : decode cX6_beforehand 89 = .ok (.goto (-87), 3) := by decide +kernel
theorem dX6_beforehand_92 : decode cX6_beforehand 92 = .ok (.iconst 1, 1) := by decide +kernel
theorem dX6_beforehand_93 : decode cX6_beforehand 93 = .ok (.ireturn, 1) := by decide +kernel
theorem dX6_number_0 : decode cX6_number 0 = .ok (.iload_n 1, 1) := by decide +kernel
theorem dX6_number_1 : decode cX6_number 1 = .ok (.invokestatic 92, 3) := by decide +kernel
theorem dX6_number_4 : decode cX6_number 4 = .ok (.ifCond .eq 11, 3) := by decide +kernel
theorem dX6_number_7 : decode cX6_number 7 = .ok (.aload_n 0, 1) := by decide +kernel
theorem dX6_number_8 : decode cX6_number 8 = .ok (.iload_n 1, 1) := by decide +kernel
theorem dX6_number_9 : decode cX6_number 9 = .ok (.invokevirtual 95, 3) := by decide +kernel
theorem dX6_number_12 : decode cX6_number 12 = .ok (.goto 4, 3) := by decide +kernel
theorem dX6_number_15 : decode cX6_number 15 = .ok (.iconst (-1), 1) := by decide +kernel
theorem dX6_number_16 : decode cX6_number 16 = .ok (.ireturn, 1) := by decide +kernel
theorem dX6_hear_0 : decode cX6_hear 0 = .ok (.iload_n 1, 1) := by decide +kernel
theorem dX6_hear_1 : decode cX6_hear 1 = .ok (.invokestatic 59, 3) := by decide +kernel
theorem dX6_hear_4 : decode cX6_hear 4 = .ok (.ifCond .ne 5, 3) := by decide +kernel
theorem dX6_hear_7 : decode cX6_hear 7 = .ok (.iconst (-1), 1) := by decide +kernel
theorem dX6_hear_8 : decode cX6_hear 8 = .ok (.ireturn, 1) := by decide +kernel
theorem dX6_hear_9 : decode cX6_hear 9 = .ok (.iload_n 2, 1) := by decide +kernel
theorem dX6_hear_10 : decode cX6_hear 10 = .ok (.i2l, 1) := by decide +kernel
theorem dX6_hear_11 : decode cX6_hear 11 = .ok (.lconst 0, 1) := by decide +kernel
theorem dX6_hear_12 : decode cX6_hear 12 = .ok (.lconst 1, 1) := by decide +kernel
theorem dX6_hear_13 : decode cX6_hear 13 = .ok (.invokestatic 53, 3) := by decide +kernel
theorem dX6_hear_16 : decode cX6_hear 16 = .ok (.ifCond .ne 6, 3) := by decide +kernel
theorem dX6_hear_19 : decode cX6_hear 19 = .ok (.bipush (-2), 2) := by decide +kernel
theorem dX6_hear_21 : decode cX6_hear 21 = .ok (.ireturn, 1) := by decide +kernel
theorem dX6_hear_22 : decode cX6_hear 22 = .ok (.aload_n 0, 1) := by decide +kernel
theorem dX6_hear_23 : decode cX6_hear 23 = .ok (.getfield 98, 3) := by decide +kernel
theorem dX6_hear_26 : decode cX6_hear 26 = .ok (.bipush 6, 2) := by decide +kernel
theorem dX6_hear_28 : decode cX6_hear 28 = .ok (.if_icmp .ne 6, 3) := by decide +kernel
theorem dX6_hear_31 : decode cX6_hear 31 = .ok (.bipush (-4), 2) := by decide +kernel
theorem dX6_hear_33 : decode cX6_hear 33 = .ok (.ireturn, 1) := by decide +kernel
theorem dX6_hear_34 : decode cX6_hear 34 = .ok (.aload_n 0, 1) := by decide +kernel
theorem dX6_hear_35 : decode cX6_hear 35 = .ok (.getfield 19, 3) := by decide +kernel
theorem dX6_hear_38 : decode cX6_hear 38 = .ok (.aload_n 0, 1) := by decide +kernel
theorem dX6_hear_39 : decode cX6_hear 39 = .ok (.getfield 98, 3) := by decide +kernel
theorem dX6_hear_42 : decode cX6_hear 42 = .ok (.iconst 2, 1) := by decide +kernel
theorem dX6_hear_43 : decode cX6_hear 43 = .ok (.iload_n 1, 1) := by decide +kernel
theorem dX6_hear_44 : decode cX6_hear 44 = .ok (.imul, 1) := by decide +kernel
theorem dX6_hear_45 : decode cX6_hear 45 = .ok (.iload_n 2, 1) := by decide +kernel
theorem dX6_hear_46 : decode cX6_hear 46 = .ok (.iadd, 1) := by decide +kernel
theorem dX6_hear_47 : decode cX6_hear 47 = .ok (.iastore, 1) := by decide +kernel
theorem dX6_hear_48 : decode cX6_hear 48 = .ok (.aload_n 0, 1) := by decide +kernel
theorem dX6_hear_49 : decode cX6_hear 49 = .ok (.dup, 1) := by decide +kernel
theorem dX6_hear_50 : decode cX6_hear 50 = .ok (.getfield 98, 3) := by decide +kernel
theorem dX6_hear_53 : decode cX6_hear 53 = .ok (.iconst 1, 1) := by decide +kernel
theorem dX6_hear_54 : decode cX6_hear 54 = .ok (.iadd, 1) := by decide +kernel
theorem dX6_hear_55 : decode cX6_hear 55 = .ok (.putfield 98, 3) := by decide +kernel
theorem dX6_hear_58 : decode cX6_hear 58 = .ok (.aload_n 0, 1) := by decide +kernel
theorem dX6_hear_59 : decode cX6_hear 59 = .ok (.getfield 98, 3) := by decide +kernel
theorem dX6_hear_62 : decode cX6_hear 62 = .ok (.ireturn, 1) := by decide +kernel
theorem dX6_forget_0 : decode cX6_forget 0 = .ok (.aload_n 0, 1) := by decide +kernel
theorem dX6_forget_1 : decode cX6_forget 1 = .ok (.getfield 98, 3) := by decide +kernel
theorem dX6_forget_4 : decode cX6_forget 4 = .ok (.istore_n 1, 1) := by decide +kernel
theorem dX6_forget_5 : decode cX6_forget 5 = .ok (.aload_n 0, 1) := by decide +kernel
theorem dX6_forget_6 : decode cX6_forget 6 = .ok (.iconst 0, 1) := by decide +kernel
theorem dX6_forget_7 : decode cX6_forget 7 = .ok (.putfield 98, 3) := by decide +kernel
theorem dX6_forget_10 : decode cX6_forget 10 = .ok (.iload_n 1, 1) := by decide +kernel
theorem dX6_forget_11 : decode cX6_forget 11 = .ok (.ireturn, 1) := by decide +kernel
theorem dX6_layHeard_0 : decode cX6_layHeard 0 = .ok (.iconst 0, 1) := by decide +kernel
theorem dX6_layHeard_1 : decode cX6_layHeard 1 = .ok (.istore_n 1, 1) := by decide +kernel
theorem dX6_layHeard_2 : decode cX6_layHeard 2 = .ok (.iload_n 1, 1) := by decide +kernel
theorem dX6_layHeard_3 : decode cX6_layHeard 3 = .ok (.bipush 6, 2) := by decide +kernel
theorem dX6_layHeard_5 : decode cX6_layHeard 5 = .ok (.if_icmp .ge 21, 3) := by decide +kernel
theorem dX6_layHeard_8 : decode cX6_layHeard 8 = .ok (.aload_n 0, 1) := by decide +kernel
theorem dX6_layHeard_9 : decode cX6_layHeard 9 = .ok (.getfield 22, 3) := by decide +kernel
theorem dX6_layHeard_12 : decode cX6_layHeard 12 = .ok (.iload_n 1, 1) := by decide +kernel
theorem dX6_layHeard_13 : decode cX6_layHeard 13 = .ok (.aload_n 0, 1) := by decide +kernel
theorem dX6_layHeard_14 : decode cX6_layHeard 14 = .ok (.getfield 19, 3) := by decide +kernel
theorem dX6_layHeard_17 : decode cX6_layHeard 17 = .ok (.iload_n 1, 1) := by decide +kernel
theorem dX6_layHeard_18 : decode cX6_layHeard 18 = .ok (.iaload, 1) := by decide +kernel
theorem dX6_layHeard_19 : decode cX6_layHeard 19 = .ok (.iastore, 1) := by decide +kernel
theorem dX6_layHeard_20 : decode cX6_layHeard 20 = .ok (.iinc 1 1, 3) := by decide +kernel
theorem dX6_layHeard_23 : decode cX6_layHeard 23 = .ok (.goto (-21), 3) := by decide +kernel
theorem dX6_layHeard_26 : decode cX6_layHeard 26 = .ok (.aload_n 0, 1) := by decide +kernel
theorem dX6_layHeard_27 : decode cX6_layHeard 27 = .ok (.aload_n 0, 1) := by decide +kernel
theorem dX6_layHeard_28 : decode cX6_layHeard 28 = .ok (.getfield 98, 3) := by decide +kernel
theorem dX6_layHeard_31 : decode cX6_layHeard 31 = .ok (.putfield 101, 3) := by decide +kernel
theorem dX6_layHeard_34 : decode cX6_layHeard 34 = .ok (.return_, 1) := by decide +kernel
theorem dX6_hasForm_0 : decode cX6_hasForm 0 = .ok (.iload_n 0, 1) := by decide +kernel
theorem dX6_hasForm_1 : decode cX6_hasForm 1 = .ok (.iload_n 1, 1) := by decide +kernel
theorem dX6_hasForm_2 : decode cX6_hasForm 2 = .ok (.iconst 2, 1) := by decide +kernel
theorem dX6_hasForm_3 : decode cX6_hasForm 3 = .ok (.idiv, 1) := by decide +kernel
theorem dX6_hasForm_4 : decode cX6_hasForm 4 = .ok (.ishr, 1) := by decide +kernel
theorem dX6_hasForm_5 : decode cX6_hasForm 5 = .ok (.iconst 1, 1) := by decide +kernel
theorem dX6_hasForm_6 : decode cX6_hasForm 6 = .ok (.iand, 1) := by decide +kernel
theorem dX6_hasForm_7 : decode cX6_hasForm 7 = .ok (.iload_n 1, 1) := by decide +kernel
theorem dX6_hasForm_8 : decode cX6_hasForm 8 = .ok (.iconst 2, 1) := by decide +kernel
theorem dX6_hasForm_9 : decode cX6_hasForm 9 = .ok (.irem, 1) := by decide +kernel
theorem dX6_hasForm_10 : decode cX6_hasForm 10 = .ok (.if_icmp .ne 7, 3) := by decide +kernel
theorem dX6_hasForm_13 : decode cX6_hasForm 13 = .ok (.iconst 1, 1) := by decide +kernel
theorem dX6_hasForm_14 : decode cX6_hasForm 14 = .ok (.goto 4, 3) := by decide +kernel
theorem dX6_hasForm_17 : decode cX6_hasForm 17 = .ok (.iconst 0, 1) := by decide +kernel
theorem dX6_hasForm_18 : decode cX6_hasForm 18 = .ok (.ireturn, 1) := by decide +kernel
theorem dX6_likenessOf_0 : decode cX6_likenessOf 0 = .ok (.aload_n 0, 1) := by decide +kernel
theorem dX6_likenessOf_1 : decode cX6_likenessOf 1 = .ok (.iload_n 1, 1) := by decide +kernel
theorem dX6_likenessOf_2 : decode cX6_likenessOf 2 = .ok (.invokevirtual 95, 3) := by decide +kernel
theorem dX6_likenessOf_5 : decode cX6_likenessOf 5 = .ok (.i2l, 1) := by decide +kernel
theorem dX6_likenessOf_6 : decode cX6_likenessOf 6 = .ok (.lstore_n 2, 1) := by decide +kernel
theorem dX6_likenessOf_7 : decode cX6_likenessOf 7 = .ok (.iconst 0, 1) := by decide +kernel
theorem dX6_likenessOf_8 : decode cX6_likenessOf 8 = .ok (.istore 4, 2) := by decide +kernel
theorem dX6_likenessOf_10 : decode cX6_likenessOf 10 = .ok (.iload 4, 2) := by decide +kernel
theorem dX6_likenessOf_12 : decode cX6_likenessOf 12 = .ok (.aload_n 0, 1) := by decide +kernel
theorem dX6_likenessOf_13 : decode cX6_likenessOf 13 = .ok (.getfield 101, 3) := by decide +kernel
theorem dX6_likenessOf_16 : decode cX6_likenessOf 16 = .ok (.if_icmp .ge 42, 3) := by decide +kernel
theorem dX6_likenessOf_19 : decode cX6_likenessOf 19 = .ok (.lload_n 2, 1) := by decide +kernel
theorem dX6_likenessOf_20 : decode cX6_likenessOf 20 = .ok (.iload_n 1, 1) := by decide +kernel
theorem dX6_likenessOf_21 : decode cX6_likenessOf 21 = .ok (.aload_n 0, 1) := by decide +kernel
theorem dX6_likenessOf_22 : decode cX6_likenessOf 22 = .ok (.getfield 22, 3) := by decide +kernel
theorem dX6_likenessOf_25 : decode cX6_likenessOf 25 = .ok (.iload 4, 2) := by decide +kernel
theorem dX6_likenessOf_27 : decode cX6_likenessOf 27 = .ok (.iaload, 1) := by decide +kernel
theorem dX6_likenessOf_28 : decode cX6_likenessOf 28 = .ok (.invokestatic 104, 3) := by decide +kernel
theorem dX6_likenessOf_31 : decode cX6_likenessOf 31 = .ok (.ifCond .eq 14, 3) := by decide +kernel
theorem dX6_likenessOf_34 : decode cX6_likenessOf 34 = .ok (.bipush 12, 2) := by decide +kernel
theorem dX6_likenessOf_36 : decode cX6_likenessOf 36 = .ok (.aload_n 0, 1) := by decide +kernel
theorem dX6_likenessOf_37 : decode cX6_likenessOf 37 = .ok (.getfield 44, 3) := by decide +kernel
theorem dX6_likenessOf_40 : decode cX6_likenessOf 40 = .ok (.isub, 1) := by decide +kernel
theorem dX6_likenessOf_41 : decode cX6_likenessOf 41 = .ok (.i2l, 1) := by decide +kernel
theorem dX6_likenessOf_42 : decode cX6_likenessOf 42 = .ok (.goto 8, 3) := by decide +kernel
theorem dX6_likenessOf_45 : decode cX6_likenessOf 45 = .ok (.aload_n 0, 1) := by decide +kernel
theorem dX6_likenessOf_46 : decode cX6_likenessOf 46 = .ok (.getfield 44, 3) := by decide +kernel
theorem dX6_likenessOf_49 : decode cX6_likenessOf 49 = .ok (.i2l, 1) := by decide +kernel
theorem dX6_likenessOf_50 : decode cX6_likenessOf 50 = .ok (.lmul, 1) := by decide +kernel
theorem dX6_likenessOf_51 : decode cX6_likenessOf 51 = .ok (.lstore_n 2, 1) := by decide +kernel
theorem dX6_likenessOf_52 : decode cX6_likenessOf 52 = .ok (.iinc 4 1, 3) := by decide +kernel
theorem dX6_likenessOf_55 : decode cX6_likenessOf 55 = .ok (.goto (-45), 3) := by decide +kernel
theorem dX6_likenessOf_58 : decode cX6_likenessOf 58 = .ok (.lload_n 2, 1) := by decide +kernel
theorem dX6_likenessOf_59 : decode cX6_likenessOf 59 = .ok (.lreturn, 1) := by decide +kernel
theorem dX6_likeness_0 : decode cX6_likeness 0 = .ok (.iload_n 1, 1) := by decide +kernel
theorem dX6_likeness_1 : decode cX6_likeness 1 = .ok (.invokestatic 92, 3) := by decide +kernel
theorem dX6_likeness_4 : decode cX6_likeness 4 = .ok (.ifCond .ne 7, 3) := by decide +kernel
theorem dX6_likeness_7 : decode cX6_likeness 7 = .ok (.ldc2_w 108, 3) := by decide +kernel
theorem dX6_likeness_10 : decode cX6_likeness 10 = .ok (.lreturn, 1) := by decide +kernel
theorem dX6_likeness_11 : decode cX6_likeness 11 = .ok (.aload_n 0, 1) := by decide +kernel
theorem dX6_likeness_12 : decode cX6_likeness 12 = .ok (.invokevirtual 110, 3) := by decide +kernel
theorem dX6_likeness_15 : decode cX6_likeness 15 = .ok (.aload_n 0, 1) := by decide +kernel
theorem dX6_likeness_16 : decode cX6_likeness 16 = .ok (.iload_n 1, 1) := by decide +kernel
theorem dX6_likeness_17 : decode cX6_likeness 17 = .ok (.invokevirtual 113, 3) := by decide +kernel
theorem dX6_likeness_20 : decode cX6_likeness 20 = .ok (.lreturn, 1) := by decide +kernel
theorem dX6_thinks_0 : decode cX6_thinks 0 = .ok (.iload_n 1, 1) := by decide +kernel
theorem dX6_thinks_1 : decode cX6_thinks 1 = .ok (.invokestatic 92, 3) := by decide +kernel
theorem dX6_thinks_4 : decode cX6_thinks 4 = .ok (.ifCond .ne 7, 3) := by decide +kernel
theorem dX6_thinks_7 : decode cX6_thinks 7 = .ok (.ldc2_w 117, 3) := by decide +kernel
theorem dX6_thinks_10 : decode cX6_thinks 10 = .ok (.lreturn, 1) := by decide +kernel
theorem dX6_thinks_11 : decode cX6_thinks 11 = .ok (.iload_n 2, 1) := by decide +kernel
theorem dX6_thinks_12 : decode cX6_thinks 12 = .ok (.invokestatic 119, 3) := by decide +kernel
theorem dX6_thinks_15 : decode cX6_thinks 15 = .ok (.ifCond .ne 7, 3) := by decide +kernel
theorem dX6_thinks_18 : decode cX6_thinks 18 = .ok (.ldc2_w 122, 3) := by decide +kernel
theorem dX6_thinks_21 : decode cX6_thinks 21 = .ok (.lreturn, 1) := by decide +kernel
theorem dX6_thinks_22 : decode cX6_thinks 22 = .ok (.aload_n 0, 1) := by decide +kernel
theorem dX6_thinks_23 : decode cX6_thinks 23 = .ok (.invokevirtual 110, 3) := by decide +kernel
theorem dX6_thinks_26 : decode cX6_thinks 26 = .ok (.lconst 0, 1) := by decide +kernel
theorem dX6_thinks_27 : decode cX6_thinks 27 = .ok (.lstore_n 3, 1) := by decide +kernel
theorem dX6_thinks_28 : decode cX6_thinks 28 = .ok (.iconst 0, 1) := by decide +kernel
theorem dX6_thinks_29 : decode cX6_thinks 29 = .ok (.istore 5, 2) := by decide +kernel
theorem dX6_thinks_31 : decode cX6_thinks 31 = .ok (.iload 5, 2) := by decide +kernel
theorem dX6_thinks_33 : decode cX6_thinks 33 = .ok (.bipush 8, 2) := by decide +kernel
theorem dX6_thinks_35 : decode cX6_thinks 35 = .ok (.if_icmp .ge 18, 3) := by decide +kernel
theorem dX6_thinks_38 : decode cX6_thinks 38 = .ok (.lload_n 3, 1) := by decide +kernel
theorem dX6_thinks_39 : decode cX6_thinks 39 = .ok (.aload_n 0, 1) := by decide +kernel
theorem dX6_thinks_40 : decode cX6_thinks 40 = .ok (.iload 5, 2) := by decide +kernel
theorem dX6_thinks_42 : decode cX6_thinks 42 = .ok (.invokevirtual 113, 3) := by decide +kernel
theorem dX6_thinks_45 : decode cX6_thinks 45 = .ok (.ladd, 1) := by decide +kernel
theorem dX6_thinks_46 : decode cX6_thinks 46 = .ok (.lstore_n 3, 1) := by decide +kernel
theorem dX6_thinks_47 : decode cX6_thinks 47 = .ok (.iinc 5 1, 3) := by decide +kernel
theorem dX6_thinks_50 : decode cX6_thinks 50 = .ok (.goto (-19), 3) := by decide +kernel
theorem dX6_thinks_53 : decode cX6_thinks 53 = .ok (.aload_n 0, 1) := by decide +kernel
theorem dX6_thinks_54 : decode cX6_thinks 54 = .ok (.iload_n 1, 1) := by decide +kernel
theorem dX6_thinks_55 : decode cX6_thinks 55 = .ok (.invokevirtual 113, 3) := by decide +kernel
theorem dX6_thinks_58 : decode cX6_thinks 58 = .ok (.lload_n 3, 1) := by decide +kernel
theorem dX6_thinks_59 : decode cX6_thinks 59 = .ok (.iload_n 2, 1) := by decide +kernel
theorem dX6_thinks_60 : decode cX6_thinks 60 = .ok (.invokestatic 124, 3) := by decide +kernel
theorem dX6_thinks_63 : decode cX6_thinks 63 = .ok (.lreturn, 1) := by decide +kernel
theorem dX6_hasAll_0 : decode cX6_hasAll 0 = .ok (.iconst 1, 1) := by decide +kernel
theorem dX6_hasAll_1 : decode cX6_hasAll 1 = .ok (.istore_n 2, 1) := by decide +kernel
theorem dX6_hasAll_2 : decode cX6_hasAll 2 = .ok (.iconst 0, 1) := by decide +kernel
theorem dX6_hasAll_3 : decode cX6_hasAll 3 = .ok (.istore_n 3, 1) := by decide +kernel
theorem dX6_hasAll_4 : decode cX6_hasAll 4 = .ok (.iload_n 3, 1) := by decide +kernel
theorem dX6_hasAll_5 : decode cX6_hasAll 5 = .ok (.aload_n 0, 1) := by decide +kernel
theorem dX6_hasAll_6 : decode cX6_hasAll 6 = .ok (.getfield 101, 3) := by decide +kernel
theorem dX6_hasAll_9 : decode cX6_hasAll 9 = .ok (.if_icmp .ge 32, 3) := by decide +kernel
theorem dX6_hasAll_12 : decode cX6_hasAll 12 = .ok (.iload_n 2, 1) := by decide +kernel
theorem dX6_hasAll_13 : decode cX6_hasAll 13 = .ok (.ifCond .eq 20, 3) := by decide +kernel
theorem dX6_hasAll_16 : decode cX6_hasAll 16 = .ok (.iload_n 1, 1) := by decide +kernel
theorem dX6_hasAll_17 : decode cX6_hasAll 17 = .ok (.aload_n 0, 1) := by decide +kernel
theorem dX6_hasAll_18 : decode cX6_hasAll 18 = .ok (.getfield 22, 3) := by decide +kernel
theorem dX6_hasAll_21 : decode cX6_hasAll 21 = .ok (.iload_n 3, 1) := by decide +kernel
theorem dX6_hasAll_22 : decode cX6_hasAll 22 = .ok (.iaload, 1) := by decide +kernel
theorem dX6_hasAll_23 : decode cX6_hasAll 23 = .ok (.invokestatic 104, 3) := by decide +kernel
theorem dX6_hasAll_26 : decode cX6_hasAll 26 = .ok (.ifCond .eq 7, 3) := by decide +kernel
theorem dX6_hasAll_29 : decode cX6_hasAll 29 = .ok (.iconst 1, 1) := by decide +kernel
theorem dX6_hasAll_30 : decode cX6_hasAll 30 = .ok (.goto 4, 3) := by decide +kernel
theorem dX6_hasAll_33 : decode cX6_hasAll 33 = .ok (.iconst 0, 1) := by decide +kernel
theorem dX6_hasAll_34 : decode cX6_hasAll 34 = .ok (.istore_n 2, 1) := by decide +kernel
theorem dX6_hasAll_35 : decode cX6_hasAll 35 = .ok (.iinc 3 1, 3) := by decide +kernel
theorem dX6_hasAll_38 : decode cX6_hasAll 38 = .ok (.goto (-34), 3) := by decide +kernel
theorem dX6_hasAll_41 : decode cX6_hasAll 41 = .ok (.iload_n 2, 1) := by decide +kernel
theorem dX6_hasAll_42 : decode cX6_hasAll 42 = .ok (.ireturn, 1) := by decide +kernel
theorem dX6_taken_0 : decode cX6_taken 0 = .ok (.aload_n 0, 1) := by decide +kernel
theorem dX6_taken_1 : decode cX6_taken 1 = .ok (.getfield 65, 3) := by decide +kernel
theorem dX6_taken_4 : decode cX6_taken 4 = .ok (.iconst 1, 1) := by decide +kernel
theorem dX6_taken_5 : decode cX6_taken 5 = .ok (.if_icmp .ne 27, 3) := by decide +kernel
theorem dX6_taken_8 : decode cX6_taken 8 = .ok (.iconst 0, 1) := by decide +kernel
theorem dX6_taken_9 : decode cX6_taken 9 = .ok (.istore_n 1, 1) := by decide +kernel
theorem dX6_taken_10 : decode cX6_taken 10 = .ok (.iload_n 1, 1) := by decide +kernel
theorem dX6_taken_11 : decode cX6_taken 11 = .ok (.bipush 8, 2) := by decide +kernel
theorem dX6_taken_13 : decode cX6_taken 13 = .ok (.if_icmp .ge 19, 3) := by decide +kernel
theorem dX6_taken_16 : decode cX6_taken 16 = .ok (.aload_n 0, 1) := by decide +kernel
theorem dX6_taken_17 : decode cX6_taken 17 = .ok (.iload_n 1, 1) := by decide +kernel
theorem dX6_taken_18 : decode cX6_taken 18 = .ok (.invokevirtual 128, 3) := by decide +kernel
theorem dX6_taken_21 : decode cX6_taken 21 = .ok (.ifCond .eq 5, 3) := by decide +kernel
theorem dX6_taken_24 : decode cX6_taken 24 = .ok (.iload_n 1, 1) := by decide +kernel
theorem dX6_taken_25 : decode cX6_taken 25 = .ok (.ireturn, 1) := by decide +kernel
theorem dX6_taken_26 : decode cX6_taken 26 = .ok (.iinc 1 1, 3) := by decide +kernel
theorem dX6_taken_29 : decode cX6_taken 29 = .ok (.goto (-19), 3) := by decide +kernel
theorem dX6_taken_32 : decode cX6_taken 32 = .ok (.iconst 0, 1) := by decide +kernel
theorem dX6_taken_33 : decode cX6_taken 33 = .ok (.istore_n 1, 1) := by decide +kernel
theorem dX6_taken_34 : decode cX6_taken 34 = .ok (.aload_n 0, 1) := by decide +kernel
theorem dX6_taken_35 : decode cX6_taken 35 = .ok (.iconst 0, 1) := by decide +kernel
theorem dX6_taken_36 : decode cX6_taken 36 = .ok (.invokevirtual 113, 3) := by decide +kernel
theorem dX6_taken_39 : decode cX6_taken 39 = .ok (.lstore_n 2, 1) := by decide +kernel
theorem dX6_taken_40 : decode cX6_taken 40 = .ok (.iconst 1, 1) := by decide +kernel
theorem dX6_taken_41 : decode cX6_taken 41 = .ok (.istore 4, 2) := by decide +kernel
theorem dX6_taken_43 : decode cX6_taken 43 = .ok (.iload 4, 2) := by decide +kernel
theorem dX6_taken_45 : decode cX6_taken 45 = .ok (.bipush 8, 2) := by decide +kernel
theorem dX6_taken_47 : decode cX6_taken 47 = .ok (.if_icmp .ge 57, 3) := by decide +kernel
theorem dX6_taken_50 : decode cX6_taken 50 = .ok (.aload_n 0, 1) := by decide +kernel
theorem dX6_taken_51 : decode cX6_taken 51 = .ok (.iload 4, 2) := by decide +kernel
theorem dX6_taken_53 : decode cX6_taken 53 = .ok (.invokevirtual 113, 3) := by decide +kernel
theorem dX6_taken_56 : decode cX6_taken 56 = .ok (.lstore 5, 2) := by decide +kernel
theorem dX6_taken_58 : decode cX6_taken 58 = .ok (.lload 5, 2) := by decide +kernel
theorem dX6_taken_60 : decode cX6_taken 60 = .ok (.lload_n 2, 1) := by decide +kernel
theorem dX6_taken_61 : decode cX6_taken 61 = .ok (.lcmp, 1) := by decide +kernel
theorem dX6_taken_62 : decode cX6_taken 62 = .ok (.ifCond .gt 30, 3) := by decide +kernel
theorem dX6_taken_65 : decode cX6_taken 65 = .ok (.lload 5, 2) := by decide +kernel
theorem dX6_taken_67 : decode cX6_taken 67 = .ok (.lload_n 2, 1) := by decide +kernel
theorem dX6_taken_68 : decode cX6_taken 68 = .ok (.lcmp, 1) := by decide +kernel
theorem dX6_taken_69 : decode cX6_taken 69 = .ok (.ifCond .ne 29, 3) := by decide +kernel
theorem dX6_taken_72 : decode cX6_taken 72 = .ok (.aload_n 0, 1) := by decide +kernel
theorem dX6_taken_73 : decode cX6_taken 73 = .ok (.getfield 65, 3) := by decide +kernel
theorem dX6_taken_76 : decode cX6_taken 76 = .ok (.iconst 2, 1) := by decide +kernel
theorem dX6_taken_77 : decode cX6_taken 77 = .ok (.if_icmp .ne 21, 3) := by decide +kernel
theorem dX6_taken_80 : decode cX6_taken 80 = .ok (.iload 4, 2) := by decide +kernel
theorem dX6_taken_82 : decode cX6_taken 82 = .ok (.invokestatic 131, 3) := by decide +kernel
theorem dX6_taken_85 : decode cX6_taken 85 = .ok (.iload_n 1, 1) := by decide +kernel
theorem dX6_taken_86 : decode cX6_taken 86 = .ok (.invokestatic 131, 3) := by decide +kernel
theorem dX6_taken_89 : decode cX6_taken 89 = .ok (.if_icmp .ge 9, 3) := by decide +kernel
theorem dX6_taken_92 : decode cX6_taken 92 = .ok (.lload 5, 2) := by decide +kernel
theorem dX6_taken_94 : decode cX6_taken 94 = .ok (.lstore_n 2, 1) := by decide +kernel
theorem dX6_taken_95 : decode cX6_taken 95 = .ok (.iload 4, 2) := by decide +kernel
theorem dX6_taken_97 : decode cX6_taken 97 = .ok (.istore_n 1, 1) := by decide +kernel
theorem dX6_taken_98 : decode cX6_taken 98 = .ok (.iinc 4 1, 3) := by decide +kernel
theorem dX6_taken_101 : decode cX6_taken 101 = .ok (.goto (-58), 3) := by decide +kernel
theorem dX6_taken_104 : decode cX6_taken 104 = .ok (.iload_n 1, 1) := by decide +kernel
theorem dX6_taken_105 : decode cX6_taken 105 = .ok (.ireturn, 1) := by decide +kernel
theorem dX6_takes_0 : decode cX6_takes 0 = .ok (.aload_n 0, 1) := by decide +kernel
theorem dX6_takes_1 : decode cX6_takes 1 = .ok (.invokevirtual 110, 3) := by decide +kernel
theorem dX6_takes_4 : decode cX6_takes 4 = .ok (.aload_n 0, 1) := by decide +kernel
theorem dX6_takes_5 : decode cX6_takes 5 = .ok (.invokevirtual 134, 3) := by decide +kernel
theorem dX6_takes_8 : decode cX6_takes 8 = .ok (.ireturn, 1) := by decide +kernel
theorem dX6_lowerOf_0 : decode cX6_lowerOf 0 = .ok (.ldc2_w 137, 3) := by decide +kernel
theorem dX6_lowerOf_3 : decode cX6_lowerOf 3 = .ok (.aload_n 0, 1) := by decide +kernel
theorem dX6_lowerOf_4 : decode cX6_lowerOf 4 = .ok (.getfield 7, 3) := by decide +kernel
theorem dX6_lowerOf_7 : decode cX6_lowerOf 7 = .ok (.iconst 0, 1) := by decide +kernel
theorem dX6_lowerOf_8 : decode cX6_lowerOf 8 = .ok (.iaload, 1) := by decide +kernel
theorem dX6_lowerOf_9 : decode cX6_lowerOf 9 = .ok (.aload_n 0, 1) := by decide +kernel
theorem dX6_lowerOf_10 : decode cX6_lowerOf 10 = .ok (.getfield 7, 3) := by decide +kernel
theorem dX6_lowerOf_13 : decode cX6_lowerOf 13 = .ok (.iconst 1, 1) := by decide +kernel
theorem dX6_lowerOf_14 : decode cX6_lowerOf 14 = .ok (.iaload, 1) := by decide +kernel
theorem dX6_lowerOf_15 : decode cX6_lowerOf 15 = .ok (.iadd, 1) := by decide +kernel
theorem dX6_lowerOf_16 : decode cX6_lowerOf 16 = .ok (.aload_n 0, 1) := by decide +kernel
theorem dX6_lowerOf_17 : decode cX6_lowerOf 17 = .ok (.getfield 7, 3) := by decide +kernel
theorem dX6_lowerOf_20 : decode cX6_lowerOf 20 = .ok (.iconst 2, 1) := by decide +kernel
theorem dX6_lowerOf_21 : decode cX6_lowerOf 21 = .ok (.iaload, 1) := by decide +kernel
theorem dX6_lowerOf_22 : decode cX6_lowerOf 22 = .ok (.iadd, 1) := by decide +kernel
theorem dX6_lowerOf_23 : decode cX6_lowerOf 23 = .ok (.i2l, 1) := by decide +kernel
theorem dX6_lowerOf_24 : decode cX6_lowerOf 24 = .ok (.lmul, 1) := by decide +kernel
theorem dX6_lowerOf_25 : decode cX6_lowerOf 25 = .ok (.lstore_n 1, 1) := by decide +kernel
theorem dX6_lowerOf_26 : decode cX6_lowerOf 26 = .ok (.lconst 1, 1) := by decide +kernel
theorem dX6_lowerOf_27 : decode cX6_lowerOf 27 = .ok (.lstore_n 3, 1) := by decide +kernel
theorem dX6_lowerOf_28 : decode cX6_lowerOf 28 = .ok (.iconst 0, 1) := by decide +kernel
theorem dX6_lowerOf_29 : decode cX6_lowerOf 29 = .ok (.istore 5, 2) := by decide +kernel
theorem dX6_lowerOf_31 : decode cX6_lowerOf 31 = .ok (.iload 5, 2) := by decide +kernel
theorem dX6_lowerOf_33 : decode cX6_lowerOf 33 = .ok (.aload_n 0, 1) := by decide +kernel
theorem dX6_lowerOf_34 : decode cX6_lowerOf 34 = .ok (.getfield 48, 3) := by decide +kernel
theorem dX6_lowerOf_37 : decode cX6_lowerOf 37 = .ok (.if_icmp .ge 13, 3) := by decide +kernel
theorem dX6_lowerOf_40 : decode cX6_lowerOf 40 = .ok (.lload_n 3, 1) := by decide +kernel
theorem dX6_lowerOf_41 : decode cX6_lowerOf 41 = .ok (.lload_n 1, 1) := by decide +kernel
theorem dX6_lowerOf_42 : decode cX6_lowerOf 42 = .ok (.lmul, 1) := by decide +kernel
theorem dX6_lowerOf_43 : decode cX6_lowerOf 43 = .ok (.lstore_n 3, 1) := by decide +kernel
theorem dX6_lowerOf_44 : decode cX6_lowerOf 44 = .ok (.iinc 5 1, 3) := by decide +kernel
theorem dX6_lowerOf_47 : decode cX6_lowerOf 47 = .ok (.goto (-16), 3) := by decide +kernel
theorem dX6_lowerOf_50 : decode cX6_lowerOf 50 = .ok (.lload_n 3, 1) := by decide +kernel
theorem dX6_lowerOf_51 : decode cX6_lowerOf 51 = .ok (.lreturn, 1) := by decide +kernel
theorem dX6_oddsOf_0 : decode cX6_oddsOf 0 = .ok (.aload_n 0, 1) := by decide +kernel
theorem dX6_oddsOf_1 : decode cX6_oddsOf 1 = .ok (.getfield 7, 3) := by decide +kernel
theorem dX6_oddsOf_4 : decode cX6_oddsOf 4 = .ok (.iload_n 2, 1) := by decide +kernel
theorem dX6_oddsOf_5 : decode cX6_oddsOf 5 = .ok (.iconst 2, 1) := by decide +kernel
theorem dX6_oddsOf_6 : decode cX6_oddsOf 6 = .ok (.idiv, 1) := by decide +kernel
theorem dX6_oddsOf_7 : decode cX6_oddsOf 7 = .ok (.iaload, 1) := by decide +kernel
theorem dX6_oddsOf_8 : decode cX6_oddsOf 8 = .ok (.i2l, 1) := by decide +kernel
theorem dX6_oddsOf_9 : decode cX6_oddsOf 9 = .ok (.iload_n 1, 1) := by decide +kernel
theorem dX6_oddsOf_10 : decode cX6_oddsOf 10 = .ok (.iload_n 2, 1) := by decide +kernel
theorem dX6_oddsOf_11 : decode cX6_oddsOf 11 = .ok (.invokestatic 104, 3) := by decide +kernel
theorem dX6_oddsOf_14 : decode cX6_oddsOf 14 = .ok (.ifCond .eq 15, 3) := by decide +kernel
theorem dX6_oddsOf_17 : decode cX6_oddsOf 17 = .ok (.ldc2_w 137, 3) := by decide +kernel
theorem dX6_oddsOf_20 : decode cX6_oddsOf 20 = .ok (.aload_n 0, 1) := by decide +kernel
theorem dX6_oddsOf_21 : decode cX6_oddsOf 21 = .ok (.getfield 44, 3) := by decide +kernel
theorem dX6_oddsOf_24 : decode cX6_oddsOf 24 = .ok (.i2l, 1) := by decide +kernel
theorem dX6_oddsOf_25 : decode cX6_oddsOf 25 = .ok (.lsub, 1) := by decide +kernel
theorem dX6_oddsOf_26 : decode cX6_oddsOf 26 = .ok (.goto 8, 3) := by decide +kernel
theorem dX6_oddsOf_29 : decode cX6_oddsOf 29 = .ok (.aload_n 0, 1) := by decide +kernel
theorem dX6_oddsOf_30 : decode cX6_oddsOf 30 = .ok (.getfield 44, 3) := by decide +kernel
theorem dX6_oddsOf_33 : decode cX6_oddsOf 33 = .ok (.i2l, 1) := by decide +kernel
theorem dX6_oddsOf_34 : decode cX6_oddsOf 34 = .ok (.lmul, 1) := by decide +kernel
theorem dX6_oddsOf_35 : decode cX6_oddsOf 35 = .ok (.lreturn, 1) := by decide +kernel
theorem dX6_findSteps_0 : decode cX6_findSteps 0 = .ok (.aload_n 0, 1) := by decide +kernel
theorem dX6_findSteps_1 : decode cX6_findSteps 1 = .ok (.aload_n 0, 1) := by decide +kernel
theorem dX6_findSteps_2 : decode cX6_findSteps 2 = .ok (.invokevirtual 139, 3) := by decide +kernel
theorem dX6_findSteps_5 : decode cX6_findSteps 5 = .ok (.putfield 143, 3) := by decide +kernel
theorem dX6_findSteps_8 : decode cX6_findSteps 8 = .ok (.iconst 0, 1) := by decide +kernel
theorem dX6_findSteps_9 : decode cX6_findSteps 9 = .ok (.istore_n 3, 1) := by decide +kernel
theorem dX6_findSteps_10 : decode cX6_findSteps 10 = .ok (.iload_n 3, 1) := by decide +kernel
theorem dX6_findSteps_11 : decode cX6_findSteps 11 = .ok (.bipush 64, 2) := by decide +kernel
theorem dX6_findSteps_13 : decode cX6_findSteps 13 = .ok (.if_icmp .ge 16, 3) := by decide +kernel
theorem dX6_findSteps_16 : decode cX6_findSteps 16 = .ok (.aload_n 0, 1) := by decide +kernel
theorem dX6_findSteps_17 : decode cX6_findSteps 17 = .ok (.getfield 25, 3) := by decide +kernel
theorem dX6_findSteps_20 : decode cX6_findSteps 20 = .ok (.iload_n 3, 1) := by decide +kernel
theorem dX6_findSteps_21 : decode cX6_findSteps 21 = .ok (.lconst 0, 1) := by decide +kernel
theorem dX6_findSteps_22 : decode cX6_findSteps 22 = .ok (.lastore, 1) := by decide +kernel
theorem dX6_findSteps_23 : decode cX6_findSteps 23 = .ok (.iinc 3 1, 3) := by decide +kernel
theorem dX6_findSteps_26 : decode cX6_findSteps 26 = .ok (.goto (-16), 3) := by decide +kernel
theorem dX6_findSteps_29 : decode cX6_findSteps 29 = .ok (.iconst 1, 1) := by decide +kernel
theorem dX6_findSteps_30 : decode cX6_findSteps 30 = .ok (.istore_n 3, 1) := by decide +kernel
theorem dX6_findSteps_31 : decode cX6_findSteps 31 = .ok (.iconst 0, 1) := by decide +kernel
theorem dX6_findSteps_32 : decode cX6_findSteps 32 = .ok (.istore 4, 2) := by decide +kernel
theorem dX6_findSteps_34 : decode cX6_findSteps 34 = .ok (.iload 4, 2) := by decide +kernel
theorem dX6_findSteps_36 : decode cX6_findSteps 36 = .ok (.aload_n 0, 1) := by decide +kernel
theorem dX6_findSteps_37 : decode cX6_findSteps 37 = .ok (.getfield 48, 3) := by decide +kernel
theorem dX6_findSteps_40 : decode cX6_findSteps 40 = .ok (.if_icmp .ge 14, 3) := by decide +kernel
theorem dX6_findSteps_43 : decode cX6_findSteps 43 = .ok (.iload_n 3, 1) := by decide +kernel
theorem dX6_findSteps_44 : decode cX6_findSteps 44 = .ok (.bipush 6, 2) := by decide +kernel
theorem dX6_findSteps_46 : decode cX6_findSteps 46 = .ok (.imul, 1) := by decide +kernel
theorem dX6_findSteps_47 : decode cX6_findSteps 47 = .ok (.istore_n 3, 1) := by decide +kernel
theorem dX6_findSteps_48 : decode cX6_findSteps 48 = .ok (.iinc 4 1, 3) := by decide +kernel
theorem dX6_findSteps_51 : decode cX6_findSteps 51 = .ok (.goto (-17), 3) := by decide +kernel
theorem dX6_findSteps_54 : decode cX6_findSteps 54 = .ok (.aload_n 0, 1) := by decide +kernel
theorem dX6_findSteps_55 : decode cX6_findSteps 55 = .ok (.aload_n 0, 1) := by decide +kernel
theorem dX6_findSteps_56 : decode cX6_findSteps 56 = .ok (.getfield 48, 3) := by decide +kernel
theorem dX6_findSteps_59 : decode cX6_findSteps 59 = .ok (.putfield 101, 3) := by decide +kernel
theorem dX6_findSteps_62 : decode cX6_findSteps 62 = .ok (.iconst 0, 1) := by decide +kernel
theorem dX6_findSteps_63 : decode cX6_findSteps 63 = .ok (.istore 4, 2) := by decide +kernel
theorem dX6_findSteps_65 : decode cX6_findSteps 65 = .ok (.iload 4, 2) := by decide +kernel
theorem dX6_findSteps_67 : decode cX6_findSteps 67 = .ok (.iload_n 3, 1) := by decide +kernel
theorem dX6_findSteps_68 : decode cX6_findSteps 68 = .ok (.if_icmp .ge 140, 3) := by decide +kernel
theorem dX6_findSteps_71 : decode cX6_findSteps 71 = .ok (.iload 4, 2) := by decide +kernel
theorem dX6_findSteps_73 : decode cX6_findSteps 73 = .ok (.istore 5, 2) := by decide +kernel
theorem dX6_findSteps_75 : decode cX6_findSteps 75 = .ok (.aload_n 0, 1) := by decide +kernel
theorem dX6_findSteps_76 : decode cX6_findSteps 76 = .ok (.getfield 48, 3) := by decide +kernel
theorem dX6_findSteps_79 : decode cX6_findSteps 79 = .ok (.iconst 1, 1) := by decide +kernel
theorem dX6_findSteps_80 : decode cX6_findSteps 80 = .ok (.isub, 1) := by decide +kernel
theorem dX6_findSteps_81 : decode cX6_findSteps 81 = .ok (.istore 6, 2) := by decide +kernel
theorem dX6_findSteps_83 : decode cX6_findSteps 83 = .ok (.iload 6, 2) := by decide +kernel
theorem dX6_findSteps_85 : decode cX6_findSteps 85 = .ok (.ifCond .lt 28, 3) := by decide +kernel
theorem dX6_findSteps_88 : decode cX6_findSteps 88 = .ok (.aload_n 0, 1) := by decide +kernel
theorem dX6_findSteps_89 : decode cX6_findSteps 89 = .ok (.getfield 22, 3) := by decide +kernel
theorem dX6_findSteps_92 : decode cX6_findSteps 92 = .ok (.iload 6, 2) := by decide +kernel
theorem dX6_findSteps_94 : decode cX6_findSteps 94 = .ok (.iload 5, 2) := by decide +kernel
theorem dX6_findSteps_96 : decode cX6_findSteps 96 = .ok (.bipush 6, 2) := by decide +kernel
theorem dX6_findSteps_98 : decode cX6_findSteps 98 = .ok (.irem, 1) := by decide +kernel
theorem dX6_findSteps_99 : decode cX6_findSteps 99 = .ok (.iastore, 1) := by decide +kernel
theorem dX6_findSteps_100 : decode cX6_findSteps 100 = .ok (.iload 5, 2) := by decide +kernel
theorem dX6_findSteps_102 : decode cX6_findSteps 102 = .ok (.bipush 6, 2) := by decide +kernel
theorem dX6_findSteps_104 : decode cX6_findSteps 104 = .ok (.idiv, 1) := by decide +kernel
theorem dX6_findSteps_105 : decode cX6_findSteps 105 = .ok (.istore 5, 2) := by decide +kernel
theorem dX6_findSteps_107 : decode cX6_findSteps 107 = .ok (.iinc 6 (-1), 3) := by decide +kernel
theorem dX6_findSteps_110 : decode cX6_findSteps 110 = .ok (.goto (-27), 3) := by decide +kernel
theorem dX6_findSteps_113 : decode cX6_findSteps 113 = .ok (.aload_n 0, 1) := by decide +kernel
theorem dX6_findSteps_114 : decode cX6_findSteps 114 = .ok (.invokevirtual 134, 3) := by decide +kernel
theorem dX6_findSteps_117 : decode cX6_findSteps 117 = .ok (.istore 6, 2) := by decide +kernel
theorem dX6_findSteps_119 : decode cX6_findSteps 119 = .ok (.iconst 0, 1) := by decide +kernel
theorem dX6_findSteps_120 : decode cX6_findSteps 120 = .ok (.istore 7, 2) := by decide +kernel
theorem dX6_findSteps_122 : decode cX6_findSteps 122 = .ok (.iload 7, 2) := by decide +kernel
theorem dX6_findSteps_124 : decode cX6_findSteps 124 = .ok (.bipush 8, 2) := by decide +kernel
theorem dX6_findSteps_126 : decode cX6_findSteps 126 = .ok (.if_icmp .ge 76, 3) := by decide +kernel
theorem dX6_findSteps_129 : decode cX6_findSteps 129 = .ok (.lconst 1, 1) := by decide +kernel
theorem dX6_findSteps_130 : decode cX6_findSteps 130 = .ok (.lstore 8, 2) := by decide +kernel
theorem dX6_findSteps_132 : decode cX6_findSteps 132 = .ok (.iconst 0, 1) := by decide +kernel
theorem dX6_findSteps_133 : decode cX6_findSteps 133 = .ok (.istore 10, 2) := by decide +kernel
theorem dX6_findSteps_135 : decode cX6_findSteps 135 = .ok (.iload 10, 2) := by decide +kernel
theorem dX6_findSteps_137 : decode cX6_findSteps 137 = .ok (.aload_n 0, 1) := by decide +kernel
theorem dX6_findSteps_138 : decode cX6_findSteps 138 = .ok (.getfield 48, 3) := by decide +kernel
theorem dX6_findSteps_141 : decode cX6_findSteps 141 = .ok (.if_icmp .ge 37, 3) := by decide +kernel
theorem dX6_findSteps_144 : decode cX6_findSteps 144 = .ok (.lload 8, 2) := by decide +kernel
theorem dX6_findSteps_146 : decode cX6_findSteps 146 = .ok (.aload_n 0, 1) := by decide +kernel
theorem dX6_findSteps_147 : decode cX6_findSteps 147 = .ok (.iload 10, 2) := by decide +kernel
theorem dX6_findSteps_149 : decode cX6_findSteps 149 = .ok (.iload_n 2, 1) := by decide +kernel
theorem dX6_findSteps_150 : decode cX6_findSteps 150 = .ok (.if_icmp .ge 7, 3) := by decide +kernel
theorem dX6_findSteps_153 : decode cX6_findSteps 153 = .ok (.iload_n 1, 1) := by decide +kernel
theorem dX6_findSteps_154 : decode cX6_findSteps 154 = .ok (.goto 5, 3) := by decide +kernel
theorem dX6_findSteps_157 : decode cX6_findSteps 157 = .ok (.iload 7, 2) := by decide +kernel
theorem dX6_findSteps_159 : decode cX6_findSteps 159 = .ok (.aload_n 0, 1) := by decide +kernel
theorem dX6_findSteps_160 : decode cX6_findSteps 160 = .ok (.getfield 22, 3) := by decide +kernel
theorem dX6_findSteps_163 : decode cX6_findSteps 163 = .ok (.iload 10, 2) := by decide +kernel
theorem dX6_findSteps_165 : decode cX6_findSteps 165 = .ok (.iaload, 1) := by decide +kernel
theorem dX6_findSteps_166 : decode cX6_findSteps 166 = .ok (.invokevirtual 147, 3) := by decide +kernel
theorem dX6_findSteps_169 : decode cX6_findSteps 169 = .ok (.lmul, 1) := by decide +kernel
theorem dX6_findSteps_170 : decode cX6_findSteps 170 = .ok (.lstore 8, 2) := by decide +kernel
theorem dX6_findSteps_172 : decode cX6_findSteps 172 = .ok (.iinc 10 1, 3) := by decide +kernel
theorem dX6_findSteps_175 : decode cX6_findSteps 175 = .ok (.goto (-40), 3) := by decide +kernel
theorem dX6_findSteps_178 : decode cX6_findSteps 178 = .ok (.aload_n 0, 1) := by decide +kernel
theorem dX6_findSteps_179 : decode cX6_findSteps 179 = .ok (.getfield 25, 3) := by decide +kernel
theorem dX6_findSteps_182 : decode cX6_findSteps 182 = .ok (.bipush 8, 2) := by decide +kernel
theorem dX6_findSteps_184 : decode cX6_findSteps 184 = .ok (.iload 7, 2) := by decide +kernel
theorem dX6_findSteps_186 : decode cX6_findSteps 186 = .ok (.imul, 1) := by decide +kernel
theorem dX6_findSteps_187 : decode cX6_findSteps 187 = .ok (.iload 6, 2) := by decide +kernel
theorem dX6_findSteps_189 : decode cX6_findSteps 189 = .ok (.iadd, 1) := by decide +kernel
theorem dX6_findSteps_190 : decode cX6_findSteps 190 = .ok (.dup2, 1) := by decide +kernel
theorem dX6_findSteps_191 : decode cX6_findSteps 191 = .ok (.laload, 1) := by decide +kernel
theorem dX6_findSteps_192 : decode cX6_findSteps 192 = .ok (.lload 8, 2) := by decide +kernel
theorem dX6_findSteps_194 : decode cX6_findSteps 194 = .ok (.ladd, 1) := by decide +kernel
theorem dX6_findSteps_195 : decode cX6_findSteps 195 = .ok (.lastore, 1) := by decide +kernel
theorem dX6_findSteps_196 : decode cX6_findSteps 196 = .ok (.iinc 7 1, 3) := by decide +kernel
theorem dX6_findSteps_199 : decode cX6_findSteps 199 = .ok (.goto (-77), 3) := by decide +kernel
theorem dX6_findSteps_202 : decode cX6_findSteps 202 = .ok (.iinc 4 1, 3) := by decide +kernel
theorem dX6_findSteps_205 : decode cX6_findSteps 205 = .ok (.goto (-140), 3) := by decide +kernel
theorem dX6_findSteps_208 : decode cX6_findSteps 208 = .ok (.return_, 1) := by decide +kernel
theorem dX6_step_0 : decode cX6_step 0 = .ok (.aload_n 0, 1) := by decide +kernel
theorem dX6_step_1 : decode cX6_step 1 = .ok (.iconst 0, 1) := by decide +kernel
theorem dX6_step_2 : decode cX6_step 2 = .ok (.iconst 0, 1) := by decide +kernel
theorem dX6_step_3 : decode cX6_step 3 = .ok (.iload_n 1, 1) := by decide +kernel
theorem dX6_step_4 : decode cX6_step 4 = .ok (.iload_n 2, 1) := by decide +kernel
theorem dX6_step_5 : decode cX6_step 5 = .ok (.iload_n 3, 1) := by decide +kernel
theorem dX6_step_6 : decode cX6_step 6 = .ok (.invokevirtual 151, 3) := by decide +kernel
theorem dX6_step_9 : decode cX6_step 9 = .ok (.lreturn, 1) := by decide +kernel
theorem dX6_book_0 : decode cX6_book 0 = .ok (.iload_n 1, 1) := by decide +kernel
theorem dX6_book_1 : decode cX6_book 1 = .ok (.invokestatic 92, 3) := by decide +kernel
theorem dX6_book_4 : decode cX6_book 4 = .ok (.ifCond .eq 18, 3) := by decide +kernel
theorem dX6_book_7 : decode cX6_book 7 = .ok (.iload_n 3, 1) := by decide +kernel
theorem dX6_book_8 : decode cX6_book 8 = .ok (.invokestatic 92, 3) := by decide +kernel
theorem dX6_book_11 : decode cX6_book 11 = .ok (.ifCond .eq 11, 3) := by decide +kernel
theorem dX6_book_14 : decode cX6_book 14 = .ok (.iload 4, 2) := by decide +kernel
theorem dX6_book_16 : decode cX6_book 16 = .ok (.invokestatic 92, 3) := by decide +kernel
theorem dX6_book_19 : decode cX6_book 19 = .ok (.ifCond .ne 7, 3) := by decide +kernel
theorem dX6_book_22 : decode cX6_book 22 = .ok (.ldc2_w 117, 3) := by decide +kernel
theorem dX6_book_25 : decode cX6_book 25 = .ok (.lreturn, 1) := by decide +kernel
theorem dX6_book_26 : decode cX6_book 26 = .ok (.iload_n 2, 1) := by decide +kernel
theorem dX6_book_27 : decode cX6_book 27 = .ok (.i2l, 1) := by decide +kernel
theorem dX6_book_28 : decode cX6_book 28 = .ok (.lconst 0, 1) := by decide +kernel
theorem dX6_book_29 : decode cX6_book 29 = .ok (.aload_n 0, 1) := by decide +kernel
theorem dX6_book_30 : decode cX6_book 30 = .ok (.getfield 48, 3) := by decide +kernel
theorem dX6_book_33 : decode cX6_book 33 = .ok (.i2l, 1) := by decide +kernel
theorem dX6_book_34 : decode cX6_book 34 = .ok (.invokestatic 53, 3) := by decide +kernel
theorem dX6_book_37 : decode cX6_book 37 = .ok (.ifCond .eq 11, 3) := by decide +kernel
theorem dX6_book_40 : decode cX6_book 40 = .ok (.iload 5, 2) := by decide +kernel
theorem dX6_book_42 : decode cX6_book 42 = .ok (.invokestatic 119, 3) := by decide +kernel
theorem dX6_book_45 : decode cX6_book 45 = .ok (.ifCond .ne 7, 3) := by decide +kernel
theorem dX6_book_48 : decode cX6_book 48 = .ok (.ldc2_w 122, 3) := by decide +kernel
theorem dX6_book_51 : decode cX6_book 51 = .ok (.lreturn, 1) := by decide +kernel
theorem dX6_book_52 : decode cX6_book 52 = .ok (.aload_n 0, 1) := by decide +kernel
theorem dX6_book_53 : decode cX6_book 53 = .ok (.iload_n 1, 1) := by decide +kernel
theorem dX6_book_54 : decode cX6_book 54 = .ok (.iload_n 2, 1) := by decide +kernel
theorem dX6_book_55 : decode cX6_book 55 = .ok (.invokevirtual 155, 3) := by decide +kernel
theorem dX6_book_58 : decode cX6_book 58 = .ok (.aload_n 0, 1) := by decide +kernel
theorem dX6_book_59 : decode cX6_book 59 = .ok (.getfield 25, 3) := by decide +kernel
theorem dX6_book_62 : decode cX6_book 62 = .ok (.bipush 8, 2) := by decide +kernel
theorem dX6_book_64 : decode cX6_book 64 = .ok (.iload_n 3, 1) := by decide +kernel
theorem dX6_book_65 : decode cX6_book 65 = .ok (.imul, 1) := by decide +kernel
theorem dX6_book_66 : decode cX6_book 66 = .ok (.iload 4, 2) := by decide +kernel
theorem dX6_book_68 : decode cX6_book 68 = .ok (.iadd, 1) := by decide +kernel
theorem dX6_book_69 : decode cX6_book 69 = .ok (.laload, 1) := by decide +kernel
theorem dX6_book_70 : decode cX6_book 70 = .ok (.aload_n 0, 1) := by decide +kernel
theorem dX6_book_71 : decode cX6_book 71 = .ok (.getfield 143, 3) := by decide +kernel
theorem dX6_book_74 : decode cX6_book 74 = .ok (.iload 5, 2) := by decide +kernel
theorem dX6_book_76 : decode cX6_book 76 = .ok (.invokestatic 124, 3) := by decide +kernel
theorem dX6_book_79 : decode cX6_book 79 = .ok (.lreturn, 1) := by decide +kernel
theorem dX6_live_0 : decode cX6_live 0 = .ok (.aload_n 0, 1) := by decide +kernel
theorem dX6_live_1 : decode cX6_live 1 = .ok (.lconst 1, 1) := by decide +kernel
theorem dX6_live_2 : decode cX6_live 2 = .ok (.putfield 159, 3) := by decide +kernel
theorem dX6_live_5 : decode cX6_live 5 = .ok (.iconst 0, 1) := by decide +kernel
theorem dX6_live_6 : decode cX6_live 6 = .ok (.istore_n 3, 1) := by decide +kernel
theorem dX6_live_7 : decode cX6_live 7 = .ok (.iload_n 3, 1) := by decide +kernel
theorem dX6_live_8 : decode cX6_live 8 = .ok (.bipush 8, 2) := by decide +kernel
theorem dX6_live_10 : decode cX6_live 10 = .ok (.if_icmp .ge 25, 3) := by decide +kernel
theorem dX6_live_13 : decode cX6_live 13 = .ok (.aload_n 0, 1) := by decide +kernel
theorem dX6_live_14 : decode cX6_live 14 = .ok (.getfield 29, 3) := by decide +kernel
theorem dX6_live_17 : decode cX6_live 17 = .ok (.iload_n 3, 1) := by decide +kernel
theorem dX6_live_18 : decode cX6_live 18 = .ok (.iload_n 3, 1) := by decide +kernel
theorem dX6_live_19 : decode cX6_live 19 = .ok (.iload_n 1, 1) := by decide +kernel
theorem dX6_live_20 : decode cX6_live 20 = .ok (.if_icmp .ne 7, 3) := by decide +kernel
theorem dX6_live_23 : decode cX6_live 23 = .ok (.lconst 1, 1) := by decide +kernel
theorem dX6_live_24 : decode cX6_live 24 = .ok (.goto 4, 3) := by decide +kernel
theorem dX6_live_27 : decode cX6_live 27 = .ok (.lconst 0, 1) := by decide +kernel
theorem dX6_live_28 : decode cX6_live 28 = .ok (.lastore, 1) := by decide +kernel
theorem dX6_live_29 : decode cX6_live 29 = .ok (.iinc 3 1, 3) := by decide +kernel
theorem dX6_live_32 : decode cX6_live 32 = .ok (.goto (-25), 3) := by decide +kernel
theorem dX6_live_35 : decode cX6_live 35 = .ok (.iconst 0, 1) := by decide +kernel
theorem dX6_live_36 : decode cX6_live 36 = .ok (.istore_n 3, 1) := by decide +kernel
theorem dX6_live_37 : decode cX6_live 37 = .ok (.iload_n 3, 1) := by decide +kernel
theorem dX6_live_38 : decode cX6_live 38 = .ok (.iload_n 2, 1) := by decide +kernel
theorem dX6_live_39 : decode cX6_live 39 = .ok (.if_icmp .ge 123, 3) := by decide +kernel
theorem dX6_live_42 : decode cX6_live 42 = .ok (.iconst 0, 1) := by decide +kernel
theorem dX6_live_43 : decode cX6_live 43 = .ok (.istore 4, 2) := by decide +kernel
theorem dX6_live_45 : decode cX6_live 45 = .ok (.iload 4, 2) := by decide +kernel
theorem dX6_live_47 : decode cX6_live 47 = .ok (.bipush 8, 2) := by decide +kernel
theorem dX6_live_49 : decode cX6_live 49 = .ok (.if_icmp .ge 64, 3) := by decide +kernel
theorem dX6_live_52 : decode cX6_live 52 = .ok (.aload_n 0, 1) := by decide +kernel
theorem dX6_live_53 : decode cX6_live 53 = .ok (.getfield 32, 3) := by decide +kernel
theorem dX6_live_56 : decode cX6_live 56 = .ok (.iload 4, 2) := by decide +kernel
theorem dX6_live_58 : decode cX6_live 58 = .ok (.lconst 0, 1) := by decide +kernel
theorem dX6_live_59 : decode cX6_live 59 = .ok (.lastore, 1) := by decide +kernel
theorem dX6_live_60 : decode cX6_live 60 = .ok (.iconst 0, 1) := by decide +kernel
theorem dX6_live_61 : decode cX6_live 61 = .ok (.istore 5, 2) := by decide +kernel
theorem dX6_live_63 : decode cX6_live 63 = .ok (.iload 5, 2) := by decide +kernel
theorem dX6_live_65 : decode cX6_live 65 = .ok (.bipush 8, 2) := by decide +kernel
theorem dX6_live_67 : decode cX6_live 67 = .ok (.if_icmp .ge 40, 3) := by decide +kernel
theorem dX6_live_70 : decode cX6_live 70 = .ok (.aload_n 0, 1) := by decide +kernel
theorem dX6_live_71 : decode cX6_live 71 = .ok (.getfield 32, 3) := by decide +kernel
theorem dX6_live_74 : decode cX6_live 74 = .ok (.iload 4, 2) := by decide +kernel
theorem dX6_live_76 : decode cX6_live 76 = .ok (.dup2, 1) := by decide +kernel
theorem dX6_live_77 : decode cX6_live 77 = .ok (.laload, 1) := by decide +kernel
theorem dX6_live_78 : decode cX6_live 78 = .ok (.aload_n 0, 1) := by decide +kernel
theorem dX6_live_79 : decode cX6_live 79 = .ok (.getfield 29, 3) := by decide +kernel
theorem dX6_live_82 : decode cX6_live 82 = .ok (.iload 5, 2) := by decide +kernel
theorem dX6_live_84 : decode cX6_live 84 = .ok (.laload, 1) := by decide +kernel
theorem dX6_live_85 : decode cX6_live 85 = .ok (.aload_n 0, 1) := by decide +kernel
theorem dX6_live_86 : decode cX6_live 86 = .ok (.getfield 25, 3) := by decide +kernel
theorem dX6_live_89 : decode cX6_live 89 = .ok (.bipush 8, 2) := by decide +kernel
theorem dX6_live_91 : decode cX6_live 91 = .ok (.iload 5, 2) := by decide +kernel
theorem dX6_live_93 : decode cX6_live 93 = .ok (.imul, 1) := by decide +kernel
theorem dX6_live_94 : decode cX6_live 94 = .ok (.iload 4, 2) := by decide +kernel
theorem dX6_live_96 : decode cX6_live 96 = .ok (.iadd, 1) := by decide +kernel
theorem dX6_live_97 : decode cX6_live 97 = .ok (.laload, 1) := by decide +kernel
theorem dX6_live_98 : decode cX6_live 98 = .ok (.lmul, 1) := by decide +kernel
theorem dX6_live_99 : decode cX6_live 99 = .ok (.ladd, 1) := by decide +kernel
theorem dX6_live_100 : decode cX6_live 100 = .ok (.lastore, 1) := by decide +kernel
theorem dX6_live_101 : decode cX6_live 101 = .ok (.iinc 5 1, 3) := by decide +kernel
theorem dX6_live_104 : decode cX6_live 104 = .ok (.goto (-41), 3) := by decide +kernel
theorem dX6_live_107 : decode cX6_live 107 = .ok (.iinc 4 1, 3) := by decide +kernel
theorem dX6_live_110 : decode cX6_live 110 = .ok (.goto (-65), 3) := by decide +kernel
theorem dX6_live_113 : decode cX6_live 113 = .ok (.iconst 0, 1) := by decide +kernel
theorem dX6_live_114 : decode cX6_live 114 = .ok (.istore 4, 2) := by decide +kernel
theorem dX6_live_116 : decode cX6_live 116 = .ok (.iload 4, 2) := by decide +kernel
theorem dX6_live_118 : decode cX6_live 118 = .ok (.bipush 8, 2) := by decide +kernel
theorem dX6_live_120 : decode cX6_live 120 = .ok (.if_icmp .ge 23, 3) := by decide +kernel
theorem dX6_live_123 : decode cX6_live 123 = .ok (.aload_n 0, 1) := by decide +kernel
theorem dX6_live_124 : decode cX6_live 124 = .ok (.getfield 29, 3) := by decide +kernel
theorem dX6_live_127 : decode cX6_live 127 = .ok (.iload 4, 2) := by decide +kernel
theorem dX6_live_129 : decode cX6_live 129 = .ok (.aload_n 0, 1) := by decide +kernel
theorem dX6_live_130 : decode cX6_live 130 = .ok (.getfield 32, 3) := by decide +kernel
theorem dX6_live_133 : decode cX6_live 133 = .ok (.iload 4, 2) := by decide +kernel
theorem dX6_live_135 : decode cX6_live 135 = .ok (.laload, 1) := by decide +kernel
theorem dX6_live_136 : decode cX6_live 136 = .ok (.lastore, 1) := by decide +kernel
theorem dX6_live_137 : decode cX6_live 137 = .ok (.iinc 4 1, 3) := by decide +kernel
theorem dX6_live_140 : decode cX6_live 140 = .ok (.goto (-24), 3) := by decide +kernel
theorem dX6_live_143 : decode cX6_live 143 = .ok (.aload_n 0, 1) := by decide +kernel
theorem dX6_live_144 : decode cX6_live 144 = .ok (.dup, 1) := by decide +kernel
theorem dX6_live_145 : decode cX6_live 145 = .ok (.getfield 159, 3) := by decide +kernel
theorem dX6_live_148 : decode cX6_live 148 = .ok (.aload_n 0, 1) := by decide +kernel
theorem dX6_live_149 : decode cX6_live 149 = .ok (.getfield 143, 3) := by decide +kernel
theorem dX6_live_152 : decode cX6_live 152 = .ok (.lmul, 1) := by decide +kernel
theorem dX6_live_153 : decode cX6_live 153 = .ok (.putfield 159, 3) := by decide +kernel
theorem dX6_live_156 : decode cX6_live 156 = .ok (.iinc 3 1, 3) := by decide +kernel
theorem dX6_live_159 : decode cX6_live 159 = .ok (.goto (-122), 3) := by decide +kernel
theorem dX6_live_162 : decode cX6_live 162 = .ok (.return_, 1) := by decide +kernel
theorem dX6_isLives_0 : decode cX6_isLives 0 = .ok (.iload_n 0, 1) := by decide +kernel
theorem dX6_isLives_1 : decode cX6_isLives 1 = .ok (.i2l, 1) := by decide +kernel
theorem dX6_isLives_2 : decode cX6_isLives 2 = .ok (.lconst 1, 1) := by decide +kernel
theorem dX6_isLives_3 : decode cX6_isLives 3 = .ok (.ldc2_w 63, 3) := by decide +kernel
theorem dX6_isLives_6 : decode cX6_isLives 6 = .ok (.invokestatic 53, 3) := by decide +kernel
theorem dX6_isLives_9 : decode cX6_isLives 9 = .ok (.ireturn, 1) := by decide +kernel
theorem dX6_after_0 : decode cX6_after 0 = .ok (.iload_n 1, 1) := by decide +kernel
theorem dX6_after_1 : decode cX6_after 1 = .ok (.invokestatic 92, 3) := by decide +kernel
theorem dX6_after_4 : decode cX6_after 4 = .ok (.ifCond .eq 10, 3) := by decide +kernel
theorem dX6_after_7 : decode cX6_after 7 = .ok (.iload_n 3, 1) := by decide +kernel
theorem dX6_after_8 : decode cX6_after 8 = .ok (.invokestatic 92, 3) := by decide +kernel
theorem dX6_after_11 : decode cX6_after 11 = .ok (.ifCond .ne 7, 3) := by decide +kernel
theorem dX6_after_14 : decode cX6_after 14 = .ok (.ldc2_w 117, 3) := by decide +kernel
theorem dX6_after_17 : decode cX6_after 17 = .ok (.lreturn, 1) := by decide +kernel
theorem dX6_after_18 : decode cX6_after 18 = .ok (.iload_n 2, 1) := by decide +kernel
theorem dX6_after_19 : decode cX6_after 19 = .ok (.invokestatic 162, 3) := by decide +kernel
theorem dX6_after_22 : decode cX6_after 22 = .ok (.ifCond .eq 11, 3) := by decide +kernel
theorem dX6_after_25 : decode cX6_after 25 = .ok (.iload 4, 2) := by decide +kernel
theorem dX6_after_27 : decode cX6_after 27 = .ok (.invokestatic 119, 3) := by decide +kernel
theorem dX6_after_30 : decode cX6_after 30 = .ok (.ifCond .ne 7, 3) := by decide +kernel
theorem dX6_after_33 : decode cX6_after 33 = .ok (.ldc2_w 122, 3) := by decide +kernel
theorem dX6_after_36 : decode cX6_after 36 = .ok (.lreturn, 1) := by decide +kernel
theorem dX6_after_37 : decode cX6_after 37 = .ok (.aload_n 0, 1) := by decide +kernel
theorem dX6_after_38 : decode cX6_after 38 = .ok (.getfield 48, 3) := by decide +kernel
theorem dX6_after_41 : decode cX6_after 41 = .ok (.iload_n 2, 1) := by decide +kernel
theorem dX6_after_42 : decode cX6_after 42 = .ok (.imul, 1) := by decide +kernel
theorem dX6_after_43 : decode cX6_after 43 = .ok (.bipush 8, 2) := by decide +kernel
theorem dX6_after_45 : decode cX6_after 45 = .ok (.if_icmp .le 7, 3) := by decide +kernel
theorem dX6_after_48 : decode cX6_after 48 = .ok (.ldc2_w 165, 3) := by decide +kernel
theorem dX6_after_51 : decode cX6_after 51 = .ok (.lreturn, 1) := by decide +kernel
theorem dX6_after_52 : decode cX6_after 52 = .ok (.aload_n 0, 1) := by decide +kernel
theorem dX6_after_53 : decode cX6_after 53 = .ok (.iconst 0, 1) := by decide +kernel
theorem dX6_after_54 : decode cX6_after 54 = .ok (.iconst 0, 1) := by decide +kernel
theorem dX6_after_55 : decode cX6_after 55 = .ok (.invokevirtual 155, 3) := by decide +kernel
theorem dX6_after_58 : decode cX6_after 58 = .ok (.aload_n 0, 1) := by decide +kernel
theorem dX6_after_59 : decode cX6_after 59 = .ok (.iload_n 1, 1) := by decide +kernel
theorem dX6_after_60 : decode cX6_after 60 = .ok (.iload_n 2, 1) := by decide +kernel
theorem dX6_after_61 : decode cX6_after 61 = .ok (.invokevirtual 167, 3) := by decide +kernel
theorem dX6_after_64 : decode cX6_after 64 = .ok (.aload_n 0, 1) := by decide +kernel
theorem dX6_after_65 : decode cX6_after 65 = .ok (.getfield 29, 3) := by decide +kernel
theorem dX6_after_68 : decode cX6_after 68 = .ok (.iload_n 3, 1) := by decide +kernel
theorem dX6_after_69 : decode cX6_after 69 = .ok (.laload, 1) := by decide +kernel
theorem dX6_after_70 : decode cX6_after 70 = .ok (.aload_n 0, 1) := by decide +kernel
theorem dX6_after_71 : decode cX6_after 71 = .ok (.getfield 159, 3) := by decide +kernel
theorem dX6_after_74 : decode cX6_after 74 = .ok (.iload 4, 2) := by decide +kernel
theorem dX6_after_76 : decode cX6_after 76 = .ok (.invokestatic 124, 3) := by decide +kernel
theorem dX6_after_79 : decode cX6_after 79 = .ok (.lreturn, 1) := by decide +kernel
theorem dX6_findLeads_0 : decode cX6_findLeads 0 = .ok (.aload_n 0, 1) := by decide +kernel
theorem dX6_findLeads_1 : decode cX6_findLeads 1 = .ok (.iconst 0, 1) := by decide +kernel
theorem dX6_findLeads_2 : decode cX6_findLeads 2 = .ok (.iconst 0, 1) := by decide +kernel
theorem dX6_findLeads_3 : decode cX6_findLeads 3 = .ok (.invokevirtual 155, 3) := by decide +kernel
theorem dX6_findLeads_6 : decode cX6_findLeads 6 = .ok (.iconst 0, 1) := by decide +kernel
theorem dX6_findLeads_7 : decode cX6_findLeads 7 = .ok (.istore_n 1, 1) := by decide +kernel
theorem dX6_findLeads_8 : decode cX6_findLeads 8 = .ok (.iload_n 1, 1) := by decide +kernel
theorem dX6_findLeads_9 : decode cX6_findLeads 9 = .ok (.bipush 8, 2) := by decide +kernel
theorem dX6_findLeads_11 : decode cX6_findLeads 11 = .ok (.if_icmp .ge 64, 3) := by decide +kernel
theorem dX6_findLeads_14 : decode cX6_findLeads 14 = .ok (.aload_n 0, 1) := by decide +kernel
theorem dX6_findLeads_15 : decode cX6_findLeads 15 = .ok (.getfield 35, 3) := by decide +kernel
theorem dX6_findLeads_18 : decode cX6_findLeads 18 = .ok (.iload_n 1, 1) := by decide +kernel
theorem dX6_findLeads_19 : decode cX6_findLeads 19 = .ok (.iconst 1, 1) := by decide +kernel
theorem dX6_findLeads_20 : decode cX6_findLeads 20 = .ok (.iload_n 1, 1) := by decide +kernel
theorem dX6_findLeads_21 : decode cX6_findLeads 21 = .ok (.ishl, 1) := by decide +kernel
theorem dX6_findLeads_22 : decode cX6_findLeads 22 = .ok (.iastore, 1) := by decide +kernel
theorem dX6_findLeads_23 : decode cX6_findLeads 23 = .ok (.iconst 0, 1) := by decide +kernel
theorem dX6_findLeads_24 : decode cX6_findLeads 24 = .ok (.istore_n 2, 1) := by decide +kernel
theorem dX6_findLeads_25 : decode cX6_findLeads 25 = .ok (.iload_n 2, 1) := by decide +kernel
theorem dX6_findLeads_26 : decode cX6_findLeads 26 = .ok (.bipush 8, 2) := by decide +kernel
theorem dX6_findLeads_28 : decode cX6_findLeads 28 = .ok (.if_icmp .ge 41, 3) := by decide +kernel
theorem dX6_findLeads_31 : decode cX6_findLeads 31 = .ok (.aload_n 0, 1) := by decide +kernel
theorem dX6_findLeads_32 : decode cX6_findLeads 32 = .ok (.getfield 35, 3) := by decide +kernel
theorem dX6_findLeads_35 : decode cX6_findLeads 35 = .ok (.iload_n 1, 1) := by decide +kernel
theorem dX6_findLeads_36 : decode cX6_findLeads 36 = .ok (.dup2, 1) := by decide +kernel
theorem dX6_findLeads_37 : decode cX6_findLeads 37 = .ok (.iaload, 1) := by decide +kernel
theorem dX6_findLeads_38 : decode cX6_findLeads 38 = .ok (.aload_n 0, 1) := by decide +kernel
theorem dX6_findLeads_39 : decode cX6_findLeads 39 = .ok (.getfield 25, 3) := by decide +kernel
theorem dX6_findLeads_42 : decode cX6_findLeads 42 = .ok (.bipush 8, 2) := by decide +kernel
theorem dX6_findLeads_44 : decode cX6_findLeads 44 = .ok (.iload_n 1, 1) := by decide +kernel
theorem dX6_findLeads_45 : decode cX6_findLeads 45 = .ok (.imul, 1) := by decide +kernel
theorem dX6_findLeads_46 : decode cX6_findLeads 46 = .ok (.iload_n 2, 1) := by decide +kernel
theorem dX6_findLeads_47 : decode cX6_findLeads 47 = .ok (.iadd, 1) := by decide +kernel
theorem dX6_findLeads_48 : decode cX6_findLeads 48 = .ok (.laload, 1) := by decide +kernel
theorem dX6_findLeads_49 : decode cX6_findLeads 49 = .ok (.lconst 0, 1) := by decide +kernel
theorem dX6_findLeads_50 : decode cX6_findLeads 50 = .ok (.lcmp, 1) := by decide +kernel
theorem dX6_findLeads_51 : decode cX6_findLeads 51 = .ok (.ifCond .le 9, 3) := by decide +kernel
theorem dX6_findLeads_54 : decode cX6_findLeads 54 = .ok (.iconst 1, 1) := by decide +kernel
theorem dX6_findLeads_55 : decode cX6_findLeads 55 = .ok (.iload_n 2, 1) := by decide +kernel
theorem dX6_findLeads_56 : decode cX6_findLeads 56 = .ok (.ishl, 1) := by decide +kernel
theorem dX6_findLeads_57 : decode cX6_findLeads 57 = .ok (.goto 4, 3) := by decide +kernel
theorem dX6_findLeads_60 : decode cX6_findLeads 60 = .ok (.iconst 0, 1) := by decide +kernel
theorem dX6_findLeads_61 : decode cX6_findLeads 61 = .ok (.ior, 1) := by decide +kernel
theorem dX6_findLeads_62 : decode cX6_findLeads 62 = .ok (.iastore, 1) := by decide +kernel
theorem dX6_findLeads_63 : decode cX6_findLeads 63 = .ok (.iinc 2 1, 3) := by decide +kernel
theorem dX6_findLeads_66 : decode cX6_findLeads 66 = .ok (.goto (-41), 3) := by decide +kernel
theorem dX6_findLeads_69 : decode cX6_findLeads 69 = .ok (.iinc 1 1, 3) := by decide +kernel
theorem dX6_findLeads_72 : decode cX6_findLeads 72 = .ok (.goto (-64), 3) := by decide +kernel
theorem dX6_findLeads_75 : decode cX6_findLeads 75 = .ok (.iconst 0, 1) := by decide +kernel
theorem dX6_findLeads_76 : decode cX6_findLeads 76 = .ok (.istore_n 1, 1) := by decide +kernel
theorem dX6_findLeads_77 : decode cX6_findLeads 77 = .ok (.iload_n 1, 1) := by decide +kernel
theorem dX6_findLeads_78 : decode cX6_findLeads 78 = .ok (.bipush 8, 2) := by decide +kernel
theorem dX6_findLeads_80 : decode cX6_findLeads 80 = .ok (.if_icmp .ge 56, 3) := by decide +kernel
theorem dX6_findLeads_83 : decode cX6_findLeads 83 = .ok (.iconst 0, 1) := by decide +kernel
theorem dX6_findLeads_84 : decode cX6_findLeads 84 = .ok (.istore_n 2, 1) := by decide +kernel
theorem dX6_findLeads_85 : decode cX6_findLeads 85 = .ok (.iload_n 2, 1) := by decide +kernel
theorem dX6_findLeads_86 : decode cX6_findLeads 86 = .ok (.bipush 8, 2) := by decide +kernel
theorem dX6_findLeads_88 : decode cX6_findLeads 88 = .ok (.if_icmp .ge 42, 3) := by decide +kernel
theorem dX6_findLeads_91 : decode cX6_findLeads 91 = .ok (.aload_n 0, 1) := by decide +kernel
theorem dX6_findLeads_92 : decode cX6_findLeads 92 = .ok (.getfield 35, 3) := by decide +kernel
theorem dX6_findLeads_95 : decode cX6_findLeads 95 = .ok (.iload_n 2, 1) := by decide +kernel
theorem dX6_findLeads_96 : decode cX6_findLeads 96 = .ok (.dup2, 1) := by decide +kernel
theorem dX6_findLeads_97 : decode cX6_findLeads 97 = .ok (.iaload, 1) := by decide +kernel
theorem dX6_findLeads_98 : decode cX6_findLeads 98 = .ok (.aload_n 0, 1) := by decide +kernel
theorem dX6_findLeads_99 : decode cX6_findLeads 99 = .ok (.getfield 35, 3) := by decide +kernel
theorem dX6_findLeads_102 : decode cX6_findLeads 102 = .ok (.iload_n 2, 1) := by decide +kernel
theorem dX6_findLeads_103 : decode cX6_findLeads 103 = .ok (.iaload, 1) := by decide +kernel
theorem dX6_findLeads_104 : decode cX6_findLeads 104 = .ok (.iload_n 1, 1) := by decide +kernel
theorem dX6_findLeads_105 : decode cX6_findLeads 105 = .ok (.ishr, 1) := by decide +kernel
theorem dX6_findLeads_106 : decode cX6_findLeads 106 = .ok (.iconst 1, 1) := by decide +kernel
theorem dX6_findLeads_107 : decode cX6_findLeads 107 = .ok (.iand, 1) := by decide +kernel
theorem dX6_findLeads_108 : decode cX6_findLeads 108 = .ok (.iconst 1, 1) := by decide +kernel
theorem dX6_findLeads_109 : decode cX6_findLeads 109 = .ok (.if_icmp .ne 12, 3) := by decide +kernel
theorem dX6_findLeads_112 : decode cX6_findLeads 112 = .ok (.aload_n 0, 1) := by decide +kernel
theorem dX6_findLeads_113 : decode cX6_findLeads 113 = .ok (.getfield 35, 3) := by decide +kernel
theorem dX6_findLeads_116 : decode cX6_findLeads 116 = .ok (.iload_n 1, 1) := by decide +kernel
theorem dX6_findLeads_117 : decode cX6_findLeads 117 = .ok (.iaload, 1) := by decide +kernel
theorem dX6_findLeads_118 : decode cX6_findLeads 118 = .ok (.goto 4, 3) := by decide +kernel
theorem dX6_findLeads_121 : decode cX6_findLeads 121 = .ok (.iconst 0, 1) := by decide +kernel
theorem dX6_findLeads_122 : decode cX6_findLeads 122 = .ok (.ior, 1) := by decide +kernel
theorem dX6_findLeads_123 : decode cX6_findLeads 123 = .ok (.iastore, 1) := by decide +kernel
theorem dX6_findLeads_124 : decode cX6_findLeads 124 = .ok (.iinc 2 1, 3) := by decide +kernel
theorem dX6_findLeads_127 : decode cX6_findLeads 127 = .ok (.goto (-42), 3) := by decide +kernel
theorem dX6_findLeads_130 : decode cX6_findLeads 130 = .ok (.iinc 1 1, 3) := by decide +kernel
theorem dX6_findLeads_133 : decode cX6_findLeads 133 = .ok (.goto (-56), 3) := by decide +kernel
theorem dX6_findLeads_136 : decode cX6_findLeads 136 = .ok (.return_, 1) := by decide +kernel
theorem dX6_leads_0 : decode cX6_leads 0 = .ok (.iload_n 1, 1) := by decide +kernel
theorem dX6_leads_1 : decode cX6_leads 1 = .ok (.invokestatic 92, 3) := by decide +kernel
theorem dX6_leads_4 : decode cX6_leads 4 = .ok (.ifCond .ne 5, 3) := by decide +kernel
theorem dX6_leads_7 : decode cX6_leads 7 = .ok (.iconst (-1), 1) := by decide +kernel
theorem dX6_leads_8 : decode cX6_leads 8 = .ok (.ireturn, 1) := by decide +kernel
theorem dX6_leads_9 : decode cX6_leads 9 = .ok (.aload_n 0, 1) := by decide +kernel
theorem dX6_leads_10 : decode cX6_leads 10 = .ok (.invokevirtual 170, 3) := by decide +kernel
theorem dX6_leads_13 : decode cX6_leads 13 = .ok (.aload_n 0, 1) := by decide +kernel
theorem dX6_leads_14 : decode cX6_leads 14 = .ok (.getfield 35, 3) := by decide +kernel
theorem dX6_leads_17 : decode cX6_leads 17 = .ok (.iload_n 1, 1) := by decide +kernel
theorem dX6_leads_18 : decode cX6_leads 18 = .ok (.iaload, 1) := by decide +kernel
theorem dX6_leads_19 : decode cX6_leads 19 = .ok (.ireturn, 1) := by decide +kernel
theorem dX6_doesLast_0 : decode cX6_doesLast 0 = .ok (.iconst 1, 1) := by decide +kernel
theorem dX6_doesLast_1 : decode cX6_doesLast 1 = .ok (.istore_n 2, 1) := by decide +kernel
theorem dX6_doesLast_2 : decode cX6_doesLast 2 = .ok (.iconst 0, 1) := by decide +kernel
theorem dX6_doesLast_3 : decode cX6_doesLast 3 = .ok (.istore_n 3, 1) := by decide +kernel
theorem dX6_doesLast_4 : decode cX6_doesLast 4 = .ok (.iload_n 3, 1) := by decide +kernel
theorem dX6_doesLast_5 : decode cX6_doesLast 5 = .ok (.bipush 8, 2) := by decide +kernel
theorem dX6_doesLast_7 : decode cX6_doesLast 7 = .ok (.if_icmp .ge 46, 3) := by decide +kernel
theorem dX6_doesLast_10 : decode cX6_doesLast 10 = .ok (.iload_n 2, 1) := by decide +kernel
theorem dX6_doesLast_11 : decode cX6_doesLast 11 = .ok (.ifCond .eq 34, 3) := by decide +kernel
theorem dX6_doesLast_14 : decode cX6_doesLast 14 = .ok (.aload_n 0, 1) := by decide +kernel
theorem dX6_doesLast_15 : decode cX6_doesLast 15 = .ok (.getfield 35, 3) := by decide +kernel
theorem dX6_doesLast_18 : decode cX6_doesLast 18 = .ok (.iload_n 1, 1) := by decide +kernel
theorem dX6_doesLast_19 : decode cX6_doesLast 19 = .ok (.iaload, 1) := by decide +kernel
theorem dX6_doesLast_20 : decode cX6_doesLast 20 = .ok (.iload_n 3, 1) := by decide +kernel
theorem dX6_doesLast_21 : decode cX6_doesLast 21 = .ok (.ishr, 1) := by decide +kernel
theorem dX6_doesLast_22 : decode cX6_doesLast 22 = .ok (.iconst 1, 1) := by decide +kernel
theorem dX6_doesLast_23 : decode cX6_doesLast 23 = .ok (.iand, 1) := by decide +kernel
theorem dX6_doesLast_24 : decode cX6_doesLast 24 = .ok (.ifCond .eq 17, 3) := by decide +kernel
theorem dX6_doesLast_27 : decode cX6_doesLast 27 = .ok (.aload_n 0, 1) := by decide +kernel
theorem dX6_doesLast_28 : decode cX6_doesLast 28 = .ok (.getfield 35, 3) := by decide +kernel
theorem dX6_doesLast_31 : decode cX6_doesLast 31 = .ok (.iload_n 3, 1) := by decide +kernel
theorem dX6_doesLast_32 : decode cX6_doesLast 32 = .ok (.iaload, 1) := by decide +kernel
theorem dX6_doesLast_33 : decode cX6_doesLast 33 = .ok (.iload_n 1, 1) := by decide +kernel
theorem dX6_doesLast_34 : decode cX6_doesLast 34 = .ok (.ishr, 1) := by decide +kernel
theorem dX6_doesLast_35 : decode cX6_doesLast 35 = .ok (.iconst 1, 1) := by decide +kernel
theorem dX6_doesLast_36 : decode cX6_doesLast 36 = .ok (.iand, 1) := by decide +kernel
theorem dX6_doesLast_37 : decode cX6_doesLast 37 = .ok (.iconst 1, 1) := by decide +kernel
theorem dX6_doesLast_38 : decode cX6_doesLast 38 = .ok (.if_icmp .ne 7, 3) := by decide +kernel
theorem dX6_doesLast_41 : decode cX6_doesLast 41 = .ok (.iconst 1, 1) := by decide +kernel
theorem dX6_doesLast_42 : decode cX6_doesLast 42 = .ok (.goto 4, 3) := by decide +kernel
theorem dX6_doesLast_45 : decode cX6_doesLast 45 = .ok (.iconst 0, 1) := by decide +kernel
theorem dX6_doesLast_46 : decode cX6_doesLast 46 = .ok (.istore_n 2, 1) := by decide +kernel
theorem dX6_doesLast_47 : decode cX6_doesLast 47 = .ok (.iinc 3 1, 3) := by decide +kernel
theorem dX6_doesLast_50 : decode cX6_doesLast 50 = .ok (.goto (-46), 3) := by decide +kernel
theorem dX6_doesLast_53 : decode cX6_doesLast 53 = .ok (.iload_n 2, 1) := by decide +kernel
theorem dX6_doesLast_54 : decode cX6_doesLast 54 = .ok (.ireturn, 1) := by decide +kernel
theorem dX6_lasts_0 : decode cX6_lasts 0 = .ok (.iload_n 1, 1) := by decide +kernel
theorem dX6_lasts_1 : decode cX6_lasts 1 = .ok (.i2l, 1) := by decide +kernel
theorem dX6_lasts_2 : decode cX6_lasts 2 = .ok (.lconst 0, 1) := by decide +kernel
theorem dX6_lasts_3 : decode cX6_lasts 3 = .ok (.ldc2_w 51, 3) := by decide +kernel
theorem dX6_lasts_6 : decode cX6_lasts 6 = .ok (.invokestatic 53, 3) := by decide +kernel
theorem dX6_lasts_9 : decode cX6_lasts 9 = .ok (.ifCond .ne 6, 3) := by decide +kernel
theorem dX6_lasts_12 : decode cX6_lasts 12 = .ok (.bipush (-2), 2) := by decide +kernel
theorem dX6_lasts_14 : decode cX6_lasts 14 = .ok (.ireturn, 1) := by decide +kernel
theorem dX6_lasts_15 : decode cX6_lasts 15 = .ok (.aload_n 0, 1) := by decide +kernel
theorem dX6_lasts_16 : decode cX6_lasts 16 = .ok (.invokevirtual 170, 3) := by decide +kernel
theorem dX6_lasts_19 : decode cX6_lasts 19 = .ok (.iconst 0, 1) := by decide +kernel
theorem dX6_lasts_20 : decode cX6_lasts 20 = .ok (.istore_n 2, 1) := by decide +kernel
theorem dX6_lasts_21 : decode cX6_lasts 21 = .ok (.iconst 0, 1) := by decide +kernel
theorem dX6_lasts_22 : decode cX6_lasts 22 = .ok (.istore_n 3, 1) := by decide +kernel
theorem dX6_lasts_23 : decode cX6_lasts 23 = .ok (.iconst 0, 1) := by decide +kernel
theorem dX6_lasts_24 : decode cX6_lasts 24 = .ok (.istore 4, 2) := by decide +kernel
theorem dX6_lasts_26 : decode cX6_lasts 26 = .ok (.iconst 0, 1) := by decide +kernel
theorem dX6_lasts_27 : decode cX6_lasts 27 = .ok (.istore 5, 2) := by decide +kernel
theorem dX6_lasts_29 : decode cX6_lasts 29 = .ok (.iload 5, 2) := by decide +kernel
theorem dX6_lasts_31 : decode cX6_lasts 31 = .ok (.bipush 8, 2) := by decide +kernel
theorem dX6_lasts_33 : decode cX6_lasts 33 = .ok (.if_icmp .ge 97, 3) := by decide +kernel
theorem dX6_lasts_36 : decode cX6_lasts 36 = .ok (.aload_n 0, 1) := by decide +kernel
theorem dX6_lasts_37 : decode cX6_lasts 37 = .ok (.iload 5, 2) := by decide +kernel
theorem dX6_lasts_39 : decode cX6_lasts 39 = .ok (.invokevirtual 173, 3) := by decide +kernel
theorem dX6_lasts_42 : decode cX6_lasts 42 = .ok (.istore 6, 2) := by decide +kernel
theorem dX6_lasts_44 : decode cX6_lasts 44 = .ok (.iload_n 2, 1) := by decide +kernel
theorem dX6_lasts_45 : decode cX6_lasts 45 = .ok (.iload 6, 2) := by decide +kernel
theorem dX6_lasts_47 : decode cX6_lasts 47 = .ok (.ifCond .eq 10, 3) := by decide +kernel
theorem dX6_lasts_50 : decode cX6_lasts 50 = .ok (.iconst 1, 1) := by decide +kernel
theorem dX6_lasts_51 : decode cX6_lasts 51 = .ok (.iload 5, 2) := by decide +kernel
theorem dX6_lasts_53 : decode cX6_lasts 53 = .ok (.ishl, 1) := by decide +kernel
theorem dX6_lasts_54 : decode cX6_lasts 54 = .ok (.goto 4, 3) := by decide +kernel
theorem dX6_lasts_57 : decode cX6_lasts 57 = .ok (.iconst 0, 1) := by decide +kernel
theorem dX6_lasts_58 : decode cX6_lasts 58 = .ok (.ior, 1) := by decide +kernel
theorem dX6_lasts_59 : decode cX6_lasts 59 = .ok (.istore_n 2, 1) := by decide +kernel
theorem dX6_lasts_60 : decode cX6_lasts 60 = .ok (.iload_n 3, 1) := by decide +kernel
theorem dX6_lasts_61 : decode cX6_lasts 61 = .ok (.iload 6, 2) := by decide +kernel
theorem dX6_lasts_63 : decode cX6_lasts 63 = .ok (.ifCond .eq 24, 3) := by decide +kernel
theorem dX6_lasts_66 : decode cX6_lasts 66 = .ok (.aload_n 0, 1) := by decide +kernel
theorem dX6_lasts_67 : decode cX6_lasts 67 = .ok (.getfield 35, 3) := by decide +kernel
theorem dX6_lasts_70 : decode cX6_lasts 70 = .ok (.iload 5, 2) := by decide +kernel
theorem dX6_lasts_72 : decode cX6_lasts 72 = .ok (.iaload, 1) := by decide +kernel
theorem dX6_lasts_73 : decode cX6_lasts 73 = .ok (.iconst 1, 1) := by decide +kernel
theorem dX6_lasts_74 : decode cX6_lasts 74 = .ok (.iload 5, 2) := by decide +kernel
theorem dX6_lasts_76 : decode cX6_lasts 76 = .ok (.ishl, 1) := by decide +kernel
theorem dX6_lasts_77 : decode cX6_lasts 77 = .ok (.iconst 1, 1) := by decide +kernel
theorem dX6_lasts_78 : decode cX6_lasts 78 = .ok (.isub, 1) := by decide +kernel
theorem dX6_lasts_79 : decode cX6_lasts 79 = .ok (.iand, 1) := by decide +kernel
theorem dX6_lasts_80 : decode cX6_lasts 80 = .ok (.ifCond .ne 7, 3) := by decide +kernel
theorem dX6_lasts_83 : decode cX6_lasts 83 = .ok (.iconst 1, 1) := by decide +kernel
theorem dX6_lasts_84 : decode cX6_lasts 84 = .ok (.goto 4, 3) := by decide +kernel
theorem dX6_lasts_87 : decode cX6_lasts 87 = .ok (.iconst 0, 1) := by decide +kernel
theorem dX6_lasts_88 : decode cX6_lasts 88 = .ok (.iadd, 1) := by decide +kernel
theorem dX6_lasts_89 : decode cX6_lasts 89 = .ok (.istore_n 3, 1) := by decide +kernel
theorem dX6_lasts_90 : decode cX6_lasts 90 = .ok (.iload 4, 2) := by decide +kernel
theorem dX6_lasts_92 : decode cX6_lasts 92 = .ok (.aload_n 0, 1) := by decide +kernel
theorem dX6_lasts_93 : decode cX6_lasts 93 = .ok (.getfield 25, 3) := by decide +kernel
theorem dX6_lasts_96 : decode cX6_lasts 96 = .ok (.bipush 8, 2) := by decide +kernel
theorem dX6_lasts_98 : decode cX6_lasts 98 = .ok (.iload 5, 2) := by decide +kernel
theorem dX6_lasts_100 : decode cX6_lasts 100 = .ok (.imul, 1) := by decide +kernel
theorem dX6_lasts_101 : decode cX6_lasts 101 = .ok (.iload 5, 2) := by decide +kernel
theorem dX6_lasts_103 : decode cX6_lasts 103 = .ok (.iadd, 1) := by decide +kernel
theorem dX6_lasts_104 : decode cX6_lasts 104 = .ok (.laload, 1) := by decide +kernel
theorem dX6_lasts_105 : decode cX6_lasts 105 = .ok (.aload_n 0, 1) := by decide +kernel
theorem dX6_lasts_106 : decode cX6_lasts 106 = .ok (.getfield 143, 3) := by decide +kernel
theorem dX6_lasts_109 : decode cX6_lasts 109 = .ok (.lcmp, 1) := by decide +kernel
theorem dX6_lasts_110 : decode cX6_lasts 110 = .ok (.ifCond .ne 10, 3) := by decide +kernel
theorem dX6_lasts_113 : decode cX6_lasts 113 = .ok (.iconst 1, 1) := by decide +kernel
theorem dX6_lasts_114 : decode cX6_lasts 114 = .ok (.iload 5, 2) := by decide +kernel
theorem dX6_lasts_116 : decode cX6_lasts 116 = .ok (.ishl, 1) := by decide +kernel
theorem dX6_lasts_117 : decode cX6_lasts 117 = .ok (.goto 4, 3) := by decide +kernel
theorem dX6_lasts_120 : decode cX6_lasts 120 = .ok (.iconst 0, 1) := by decide +kernel
theorem dX6_lasts_121 : decode cX6_lasts 121 = .ok (.ior, 1) := by decide +kernel
theorem dX6_lasts_122 : decode cX6_lasts 122 = .ok (.istore 4, 2) := by decide +kernel
theorem dX6_lasts_124 : decode cX6_lasts 124 = .ok (.iinc 5 1, 3) := by decide +kernel
theorem dX6_lasts_127 : decode cX6_lasts 127 = .ok (.goto (-98), 3) := by decide +kernel
theorem dX6_lasts_130 : decode cX6_lasts 130 = .ok (.iload_n 1, 1) := by decide +kernel
theorem dX6_lasts_131 : decode cX6_lasts 131 = .ok (.ifCond .ne 7, 3) := by decide +kernel
theorem dX6_lasts_134 : decode cX6_lasts 134 = .ok (.iload_n 2, 1) := by decide +kernel
theorem dX6_lasts_135 : decode cX6_lasts 135 = .ok (.goto 14, 3) := by decide +kernel
theorem dX6_lasts_138 : decode cX6_lasts 138 = .ok (.iload_n 1, 1) := by decide +kernel
theorem dX6_lasts_139 : decode cX6_lasts 139 = .ok (.iconst 1, 1) := by decide +kernel
theorem dX6_lasts_140 : decode cX6_lasts 140 = .ok (.if_icmp .ne 7, 3) := by decide +kernel
theorem dX6_lasts_143 : decode cX6_lasts 143 = .ok (.iload_n 3, 1) := by decide +kernel
theorem dX6_lasts_144 : decode cX6_lasts 144 = .ok (.goto 5, 3) := by decide +kernel
theorem dX6_lasts_147 : decode cX6_lasts 147 = .ok (.iload 4, 2) := by decide +kernel
theorem dX6_lasts_149 : decode cX6_lasts 149 = .ok (.ireturn, 1) := by decide +kernel
theorem dX6_lives_0 : decode cX6_lives 0 = .ok (.iload_n 1, 1) := by decide +kernel
theorem dX6_lives_1 : decode cX6_lives 1 = .ok (.invokestatic 92, 3) := by decide +kernel
theorem dX6_lives_4 : decode cX6_lives 4 = .ok (.ifCond .eq 10, 3) := by decide +kernel
theorem dX6_lives_7 : decode cX6_lives 7 = .ok (.iload_n 2, 1) := by decide +kernel
theorem dX6_lives_8 : decode cX6_lives 8 = .ok (.invokestatic 59, 3) := by decide +kernel
theorem dX6_lives_11 : decode cX6_lives 11 = .ok (.ifCond .ne 7, 3) := by decide +kernel
theorem dX6_lives_14 : decode cX6_lives 14 = .ok (.ldc2_w 117, 3) := by decide +kernel
theorem dX6_lives_17 : decode cX6_lives 17 = .ok (.lreturn, 1) := by decide +kernel
theorem dX6_lives_18 : decode cX6_lives 18 = .ok (.iload_n 3, 1) := by decide +kernel
theorem dX6_lives_19 : decode cX6_lives 19 = .ok (.i2l, 1) := by decide +kernel
theorem dX6_lives_20 : decode cX6_lives 20 = .ok (.lconst 0, 1) := by decide +kernel
theorem dX6_lives_21 : decode cX6_lives 21 = .ok (.lconst 1, 1) := by decide +kernel
theorem dX6_lives_22 : decode cX6_lives 22 = .ok (.invokestatic 53, 3) := by decide +kernel
theorem dX6_lives_25 : decode cX6_lives 25 = .ok (.ifCond .eq 19, 3) := by decide +kernel
theorem dX6_lives_28 : decode cX6_lives 28 = .ok (.iload 4, 2) := by decide +kernel
theorem dX6_lives_30 : decode cX6_lives 30 = .ok (.invokestatic 162, 3) := by decide +kernel
theorem dX6_lives_33 : decode cX6_lives 33 = .ok (.ifCond .eq 11, 3) := by decide +kernel
theorem dX6_lives_36 : decode cX6_lives 36 = .ok (.iload 5, 2) := by decide +kernel
theorem dX6_lives_38 : decode cX6_lives 38 = .ok (.invokestatic 119, 3) := by decide +kernel
theorem dX6_lives_41 : decode cX6_lives 41 = .ok (.ifCond .ne 7, 3) := by decide +kernel
theorem dX6_lives_44 : decode cX6_lives 44 = .ok (.ldc2_w 122, 3) := by decide +kernel
theorem dX6_lives_47 : decode cX6_lives 47 = .ok (.lreturn, 1) := by decide +kernel
theorem dX6_lives_48 : decode cX6_lives 48 = .ok (.aload_n 0, 1) := by decide +kernel
theorem dX6_lives_49 : decode cX6_lives 49 = .ok (.getfield 48, 3) := by decide +kernel
theorem dX6_lives_52 : decode cX6_lives 52 = .ok (.iload 4, 2) := by decide +kernel
theorem dX6_lives_54 : decode cX6_lives 54 = .ok (.imul, 1) := by decide +kernel
theorem dX6_lives_55 : decode cX6_lives 55 = .ok (.bipush 8, 2) := by decide +kernel
theorem dX6_lives_57 : decode cX6_lives 57 = .ok (.if_icmp .le 7, 3) := by decide +kernel
theorem dX6_lives_60 : decode cX6_lives 60 = .ok (.ldc2_w 165, 3) := by decide +kernel
theorem dX6_lives_63 : decode cX6_lives 63 = .ok (.lreturn, 1) := by decide +kernel
theorem dX6_lives_64 : decode cX6_lives 64 = .ok (.aload_n 0, 1) := by decide +kernel
theorem dX6_lives_65 : decode cX6_lives 65 = .ok (.iconst 0, 1) := by decide +kernel
theorem dX6_lives_66 : decode cX6_lives 66 = .ok (.iconst 0, 1) := by decide +kernel
theorem dX6_lives_67 : decode cX6_lives 67 = .ok (.invokevirtual 155, 3) := by decide +kernel
theorem dX6_lives_70 : decode cX6_lives 70 = .ok (.aload_n 0, 1) := by decide +kernel
theorem dX6_lives_71 : decode cX6_lives 71 = .ok (.iload_n 1, 1) := by decide +kernel
theorem dX6_lives_72 : decode cX6_lives 72 = .ok (.iload 4, 2) := by decide +kernel
theorem dX6_lives_74 : decode cX6_lives 74 = .ok (.invokevirtual 167, 3) := by decide +kernel
theorem dX6_lives_77 : decode cX6_lives 77 = .ok (.lconst 0, 1) := by decide +kernel
theorem dX6_lives_78 : decode cX6_lives 78 = .ok (.lstore 6, 2) := by decide +kernel
theorem dX6_lives_80 : decode cX6_lives 80 = .ok (.iconst 0, 1) := by decide +kernel
theorem dX6_lives_81 : decode cX6_lives 81 = .ok (.istore 8, 2) := by decide +kernel
theorem dX6_lives_83 : decode cX6_lives 83 = .ok (.iload 8, 2) := by decide +kernel
theorem dX6_lives_85 : decode cX6_lives 85 = .ok (.bipush 8, 2) := by decide +kernel
theorem dX6_lives_87 : decode cX6_lives 87 = .ok (.if_icmp .ge 35, 3) := by decide +kernel
theorem dX6_lives_90 : decode cX6_lives 90 = .ok (.lload 6, 2) := by decide +kernel
theorem dX6_lives_92 : decode cX6_lives 92 = .ok (.iload 8, 2) := by decide +kernel
theorem dX6_lives_94 : decode cX6_lives 94 = .ok (.iload_n 2, 1) := by decide +kernel
theorem dX6_lives_95 : decode cX6_lives 95 = .ok (.ishr, 1) := by decide +kernel
theorem dX6_lives_96 : decode cX6_lives 96 = .ok (.iconst 1, 1) := by decide +kernel
theorem dX6_lives_97 : decode cX6_lives 97 = .ok (.iand, 1) := by decide +kernel
theorem dX6_lives_98 : decode cX6_lives 98 = .ok (.iload_n 3, 1) := by decide +kernel
theorem dX6_lives_99 : decode cX6_lives 99 = .ok (.if_icmp .ne 13, 3) := by decide +kernel
theorem dX6_lives_102 : decode cX6_lives 102 = .ok (.aload_n 0, 1) := by decide +kernel
theorem dX6_lives_103 : decode cX6_lives 103 = .ok (.getfield 29, 3) := by decide +kernel
theorem dX6_lives_106 : decode cX6_lives 106 = .ok (.iload 8, 2) := by decide +kernel
theorem dX6_lives_108 : decode cX6_lives 108 = .ok (.laload, 1) := by decide +kernel
theorem dX6_lives_109 : decode cX6_lives 109 = .ok (.goto 4, 3) := by decide +kernel
theorem dX6_lives_112 : decode cX6_lives 112 = .ok (.lconst 0, 1) := by decide +kernel
theorem dX6_lives_113 : decode cX6_lives 113 = .ok (.ladd, 1) := by decide +kernel
theorem dX6_lives_114 : decode cX6_lives 114 = .ok (.lstore 6, 2) := by decide +kernel
theorem dX6_lives_116 : decode cX6_lives 116 = .ok (.iinc 8 1, 3) := by decide +kernel
theorem dX6_lives_119 : decode cX6_lives 119 = .ok (.goto (-36), 3) := by decide +kernel
theorem dX6_lives_122 : decode cX6_lives 122 = .ok (.lload 6, 2) := by decide +kernel
theorem dX6_lives_124 : decode cX6_lives 124 = .ok (.aload_n 0, 1) := by decide +kernel
theorem dX6_lives_125 : decode cX6_lives 125 = .ok (.getfield 159, 3) := by decide +kernel
