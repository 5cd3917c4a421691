theorem dX4_hearOneMore_72 : decode cX4_hearOneMore 72 = .ok (.lmul, 1) := by decide +kernel
theorem dX4_hearOneMore_73 : decode cX4_hearOneMore 73 = .ok (.ladd, 1) := by decide +kernel
theorem dX4_hearOneMore_74 : decode cX4_hearOneMore 74 = .ok (.lastore, 1) := by decide +kernel
theorem dX4_hearOneMore_75 : decode cX4_hearOneMore 75 = .ok (.iinc 4 1, 3) := by decide +kernel
theorem dX4_hearOneMore_78 : decode cX4_hearOneMore 78 = .ok (.goto (-44), 3) := by decide +kernel
theorem dX4_hearOneMore_81 : decode cX4_hearOneMore 81 = .ok (.iinc 3 1, 3) := by decide +kernel
theorem dX4_hearOneMore_84 : decode cX4_hearOneMore 84 = .ok (.goto (-78), 3) := by decide +kernel
theorem dX4_hearOneMore_87 : decode cX4_hearOneMore 87 = .ok (.return_, 1) := by decide +kernel
theorem dX4_know_0 : decode cX4_know 0 = .ok (.aload_n 0, 1) := by decide +kernel
theorem dX4_know_1 : decode cX4_know 1 = .ok (.getfield 37, 3) := by decide +kernel
theorem dX4_know_4 : decode cX4_know 4 = .ok (.ifCond .eq 4, 3) := by decide +kernel
theorem dX4_know_7 : decode cX4_know 7 = .ok (.return_, 1) := by decide +kernel
theorem dX4_know_8 : decode cX4_know 8 = .ok (.iconst 0, 1) := by decide +kernel
theorem dX4_know_9 : decode cX4_know 9 = .ok (.istore_n 1, 1) := by decide +kernel
theorem dX4_know_10 : decode cX4_know 10 = .ok (.iload_n 1, 1) := by decide +kernel
theorem dX4_know_11 : decode cX4_know 11 = .ok (.bipush 8, 2) := by decide +kernel
theorem dX4_know_13 : decode cX4_know 13 = .ok (.if_icmp .ge 30, 3) := by decide +kernel
theorem dX4_know_16 : decode cX4_know 16 = .ok (.aload_n 0, 1) := by decide +kernel
theorem dX4_know_17 : decode cX4_know 17 = .ok (.iload_n 1, 1) := by decide +kernel
theorem dX4_know_18 : decode cX4_know 18 = .ok (.iload_n 1, 1) := by decide +kernel
theorem dX4_know_19 : decode cX4_know 19 = .ok (.iconst 0, 1) := by decide +kernel
theorem dX4_know_20 : decode cX4_know 20 = .ok (.invokevirtual 91, 3) := by decide +kernel
theorem dX4_know_23 : decode cX4_know 23 = .ok (.iconst 0, 1) := by decide +kernel
theorem dX4_know_24 : decode cX4_know 24 = .ok (.aload_n 0, 1) := by decide +kernel
theorem dX4_know_25 : decode cX4_know 25 = .ok (.getfield 34, 3) := by decide +kernel
theorem dX4_know_28 : decode cX4_know 28 = .ok (.iload_n 1, 1) := by decide +kernel
theorem dX4_know_29 : decode cX4_know 29 = .ok (.bipush 8, 2) := by decide +kernel
theorem dX4_know_31 : decode cX4_know 31 = .ok (.imul, 1) := by decide +kernel
theorem dX4_know_32 : decode cX4_know 32 = .ok (.bipush 8, 2) := by decide +kernel
theorem dX4_know_34 : decode cX4_know 34 = .ok (.invokestatic 95, 3) := by decide +kernel
theorem dX4_know_37 : decode cX4_know 37 = .ok (.iinc 1 1, 3) := by decide +kernel
theorem dX4_know_40 : decode cX4_know 40 = .ok (.goto (-30), 3) := by decide +kernel
theorem dX4_know_43 : decode cX4_know 43 = .ok (.aload_n 0, 1) := by decide +kernel
theorem dX4_know_44 : decode cX4_know 44 = .ok (.iconst 1, 1) := by decide +kernel
theorem dX4_know_45 : decode cX4_know 45 = .ok (.putfield 37, 3) := by decide +kernel
theorem dX4_know_48 : decode cX4_know 48 = .ok (.return_, 1) := by decide +kernel
theorem dX4_forward_0 : decode cX4_forward 0 = .ok (.aload_n 0, 1) := by decide +kernel
theorem dX4_forward_1 : decode cX4_forward 1 = .ok (.iload_n 1, 1) := by decide +kernel
theorem dX4_forward_2 : decode cX4_forward 2 = .ok (.invokevirtual 101, 3) := by decide +kernel
theorem dX4_forward_5 : decode cX4_forward 5 = .ok (.iconst 0, 1) := by decide +kernel
theorem dX4_forward_6 : decode cX4_forward 6 = .ok (.istore_n 3, 1) := by decide +kernel
theorem dX4_forward_7 : decode cX4_forward 7 = .ok (.iload_n 3, 1) := by decide +kernel
theorem dX4_forward_8 : decode cX4_forward 8 = .ok (.iload_n 2, 1) := by decide +kernel
theorem dX4_forward_9 : decode cX4_forward 9 = .ok (.if_icmp .ge 79, 3) := by decide +kernel
theorem dX4_forward_12 : decode cX4_forward 12 = .ok (.aload_n 0, 1) := by decide +kernel
theorem dX4_forward_13 : decode cX4_forward 13 = .ok (.getfield 44, 3) := by decide +kernel
theorem dX4_forward_16 : decode cX4_forward 16 = .ok (.lconst 0, 1) := by decide +kernel
theorem dX4_forward_17 : decode cX4_forward 17 = .ok (.invokestatic 63, 3) := by decide +kernel
theorem dX4_forward_20 : decode cX4_forward 20 = .ok (.iconst 0, 1) := by decide +kernel
theorem dX4_forward_21 : decode cX4_forward 21 = .ok (.istore 4, 2) := by decide +kernel
theorem dX4_forward_23 : decode cX4_forward 23 = .ok (.iload 4, 2) := by decide +kernel
theorem dX4_forward_25 : decode cX4_forward 25 = .ok (.bipush 64, 2) := by decide +kernel
theorem dX4_forward_27 : decode cX4_forward 27 = .ok (.if_icmp .ge 40, 3) := by decide +kernel
theorem dX4_forward_30 : decode cX4_forward 30 = .ok (.aload_n 0, 1) := by decide +kernel
theorem dX4_forward_31 : decode cX4_forward 31 = .ok (.getfield 44, 3) := by decide +kernel
theorem dX4_forward_34 : decode cX4_forward 34 = .ok (.iload 4, 2) := by decide +kernel
theorem dX4_forward_36 : decode cX4_forward 36 = .ok (.bipush 8, 2) := by decide +kernel
theorem dX4_forward_38 : decode cX4_forward 38 = .ok (.irem, 1) := by decide +kernel
theorem dX4_forward_39 : decode cX4_forward 39 = .ok (.dup2, 1) := by decide +kernel
theorem dX4_forward_40 : decode cX4_forward 40 = .ok (.laload, 1) := by decide +kernel
theorem dX4_forward_41 : decode cX4_forward 41 = .ok (.aload_n 0, 1) := by decide +kernel
theorem dX4_forward_42 : decode cX4_forward 42 = .ok (.getfield 41, 3) := by decide +kernel
theorem dX4_forward_45 : decode cX4_forward 45 = .ok (.iload 4, 2) := by decide +kernel
theorem dX4_forward_47 : decode cX4_forward 47 = .ok (.bipush 8, 2) := by decide +kernel
theorem dX4_forward_49 : decode cX4_forward 49 = .ok (.idiv, 1) := by decide +kernel
theorem dX4_forward_50 : decode cX4_forward 50 = .ok (.laload, 1) := by decide +kernel
theorem dX4_forward_51 : decode cX4_forward 51 = .ok (.aload_n 0, 1) := by decide +kernel
theorem dX4_forward_52 : decode cX4_forward 52 = .ok (.getfield 34, 3) := by decide +kernel
theorem dX4_forward_55 : decode cX4_forward 55 = .ok (.iload 4, 2) := by decide +kernel
theorem dX4_forward_57 : decode cX4_forward 57 = .ok (.laload, 1) := by decide +kernel
theorem dX4_forward_58 : decode cX4_forward 58 = .ok (.lmul, 1) := by decide +kernel
theorem dX4_forward_59 : decode cX4_forward 59 = .ok (.ladd, 1) := by decide +kernel
theorem dX4_forward_60 : decode cX4_forward 60 = .ok (.lastore, 1) := by decide +kernel
theorem dX4_forward_61 : decode cX4_forward 61 = .ok (.iinc 4 1, 3) := by decide +kernel
theorem dX4_forward_64 : decode cX4_forward 64 = .ok (.goto (-41), 3) := by decide +kernel
theorem dX4_forward_67 : decode cX4_forward 67 = .ok (.aload_n 0, 1) := by decide +kernel
theorem dX4_forward_68 : decode cX4_forward 68 = .ok (.getfield 44, 3) := by decide +kernel
theorem dX4_forward_71 : decode cX4_forward 71 = .ok (.iconst 0, 1) := by decide +kernel
theorem dX4_forward_72 : decode cX4_forward 72 = .ok (.aload_n 0, 1) := by decide +kernel
theorem dX4_forward_73 : decode cX4_forward 73 = .ok (.getfield 41, 3) := by decide +kernel
theorem dX4_forward_76 : decode cX4_forward 76 = .ok (.iconst 0, 1) := by decide +kernel
theorem dX4_forward_77 : decode cX4_forward 77 = .ok (.bipush 8, 2) := by decide +kernel
theorem dX4_forward_79 : decode cX4_forward 79 = .ok (.invokestatic 95, 3) := by decide +kernel
theorem dX4_forward_82 : decode cX4_forward 82 = .ok (.iinc 3 1, 3) := by decide +kernel
theorem dX4_forward_85 : decode cX4_forward 85 = .ok (.goto (-78), 3) := by decide +kernel
theorem dX4_forward_88 : decode cX4_forward 88 = .ok (.aload_n 0, 1) := by decide +kernel
theorem dX4_forward_89 : decode cX4_forward 89 = .ok (.getfield 41, 3) := by decide +kernel
theorem dX4_forward_92 : decode cX4_forward 92 = .ok (.areturn, 1) := by decide +kernel
theorem dX4_backward_0 : decode cX4_backward 0 = .ok (.aload_n 0, 1) := by decide +kernel
theorem dX4_backward_1 : decode cX4_backward 1 = .ok (.iload_n 1, 1) := by decide +kernel
theorem dX4_backward_2 : decode cX4_backward 2 = .ok (.invokevirtual 101, 3) := by decide +kernel
theorem dX4_backward_5 : decode cX4_backward 5 = .ok (.iconst 0, 1) := by decide +kernel
theorem dX4_backward_6 : decode cX4_backward 6 = .ok (.istore_n 3, 1) := by decide +kernel
theorem dX4_backward_7 : decode cX4_backward 7 = .ok (.iload_n 3, 1) := by decide +kernel
theorem dX4_backward_8 : decode cX4_backward 8 = .ok (.iload_n 2, 1) := by decide +kernel
theorem dX4_backward_9 : decode cX4_backward 9 = .ok (.if_icmp .ge 79, 3) := by decide +kernel
theorem dX4_backward_12 : decode cX4_backward 12 = .ok (.aload_n 0, 1) := by decide +kernel
theorem dX4_backward_13 : decode cX4_backward 13 = .ok (.getfield 44, 3) := by decide +kernel
theorem dX4_backward_16 : decode cX4_backward 16 = .ok (.lconst 0, 1) := by decide +kernel
theorem dX4_backward_17 : decode cX4_backward 17 = .ok (.invokestatic 63, 3) := by decide +kernel
theorem dX4_backward_20 : decode cX4_backward 20 = .ok (.iconst 0, 1) := by decide +kernel
theorem dX4_backward_21 : decode cX4_backward 21 = .ok (.istore 4, 2) := by decide +kernel
theorem dX4_backward_23 : decode cX4_backward 23 = .ok (.iload 4, 2) := by decide +kernel
theorem dX4_backward_25 : decode cX4_backward 25 = .ok (.bipush 64, 2) := by decide +kernel
theorem dX4_backward_27 : decode cX4_backward 27 = .ok (.if_icmp .ge 40, 3) := by decide +kernel
theorem dX4_backward_30 : decode cX4_backward 30 = .ok (.aload_n 0, 1) := by decide +kernel
theorem dX4_backward_31 : decode cX4_backward 31 = .ok (.getfield 44, 3) := by decide +kernel
theorem dX4_backward_34 : decode cX4_backward 34 = .ok (.iload 4, 2) := by decide +kernel
theorem dX4_backward_36 : decode cX4_backward 36 = .ok (.bipush 8, 2) := by decide +kernel
theorem dX4_backward_38 : decode cX4_backward 38 = .ok (.idiv, 1) := by decide +kernel
theorem dX4_backward_39 : decode cX4_backward 39 = .ok (.dup2, 1) := by decide +kernel
theorem dX4_backward_40 : decode cX4_backward 40 = .ok (.laload, 1) := by decide +kernel
theorem dX4_backward_41 : decode cX4_backward 41 = .ok (.aload_n 0, 1) := by decide +kernel
theorem dX4_backward_42 : decode cX4_backward 42 = .ok (.getfield 34, 3) := by decide +kernel
theorem dX4_backward_45 : decode cX4_backward 45 = .ok (.iload 4, 2) := by decide +kernel
theorem dX4_backward_47 : decode cX4_backward 47 = .ok (.laload, 1) := by decide +kernel
theorem dX4_backward_48 : decode cX4_backward 48 = .ok (.aload_n 0, 1) := by decide +kernel
theorem dX4_backward_49 : decode cX4_backward 49 = .ok (.getfield 41, 3) := by decide +kernel
theorem dX4_backward_52 : decode cX4_backward 52 = .ok (.iload 4, 2) := by decide +kernel
theorem dX4_backward_54 : decode cX4_backward 54 = .ok (.bipush 8, 2) := by decide +kernel
theorem dX4_backward_56 : decode cX4_backward 56 = .ok (.irem, 1) := by decide +kernel
theorem dX4_backward_57 : decode cX4_backward 57 = .ok (.laload, 1) := by decide +kernel
theorem dX4_backward_58 : decode cX4_backward 58 = .ok (.lmul, 1) := by decide +kernel
theorem dX4_backward_59 : decode cX4_backward 59 = .ok (.ladd, 1) := by decide +kernel
theorem dX4_backward_60 : decode cX4_backward 60 = .ok (.lastore, 1) := by decide +kernel
theorem dX4_backward_61 : decode cX4_backward 61 = .ok (.iinc 4 1, 3) := by decide +kernel
theorem dX4_backward_64 : decode cX4_backward 64 = .ok (.goto (-41), 3) := by decide +kernel
theorem dX4_backward_67 : decode cX4_backward 67 = .ok (.aload_n 0, 1) := by decide +kernel
theorem dX4_backward_68 : decode cX4_backward 68 = .ok (.getfield 44, 3) := by decide +kernel
theorem dX4_backward_71 : decode cX4_backward 71 = .ok (.iconst 0, 1) := by decide +kernel
theorem dX4_backward_72 : decode cX4_backward 72 = .ok (.aload_n 0, 1) := by decide +kernel
theorem dX4_backward_73 : decode cX4_backward 73 = .ok (.getfield 41, 3) := by decide +kernel
theorem dX4_backward_76 : decode cX4_backward 76 = .ok (.iconst 0, 1) := by decide +kernel
theorem dX4_backward_77 : decode cX4_backward 77 = .ok (.bipush 8, 2) := by decide +kernel
theorem dX4_backward_79 : decode cX4_backward 79 = .ok (.invokestatic 95, 3) := by decide +kernel
theorem dX4_backward_82 : decode cX4_backward 82 = .ok (.iinc 3 1, 3) := by decide +kernel
theorem dX4_backward_85 : decode cX4_backward 85 = .ok (.goto (-78), 3) := by decide +kernel
theorem dX4_backward_88 : decode cX4_backward 88 = .ok (.aload_n 0, 1) := by decide +kernel
theorem dX4_backward_89 : decode cX4_backward 89 = .ok (.getfield 41, 3) := by decide +kernel
theorem dX4_backward_92 : decode cX4_backward 92 = .ok (.areturn, 1) := by decide +kernel
theorem dX4_startAt_0 : decode cX4_startAt 0 = .ok (.aload_n 0, 1) := by decide +kernel
theorem dX4_startAt_1 : decode cX4_startAt 1 = .ok (.getfield 41, 3) := by decide +kernel
theorem dX4_startAt_4 : decode cX4_startAt 4 = .ok (.lconst 0, 1) := by decide +kernel
theorem dX4_startAt_5 : decode cX4_startAt 5 = .ok (.invokestatic 63, 3) := by decide +kernel
theorem dX4_startAt_8 : decode cX4_startAt 8 = .ok (.aload_n 0, 1) := by decide +kernel
theorem dX4_startAt_9 : decode cX4_startAt 9 = .ok (.getfield 41, 3) := by decide +kernel
theorem dX4_startAt_12 : decode cX4_startAt 12 = .ok (.iload_n 1, 1) := by decide +kernel
theorem dX4_startAt_13 : decode cX4_startAt 13 = .ok (.lconst 1, 1) := by decide +kernel
theorem dX4_startAt_14 : decode cX4_startAt 14 = .ok (.lastore, 1) := by decide +kernel
theorem dX4_startAt_15 : decode cX4_startAt 15 = .ok (.return_, 1) := by decide +kernel
theorem dX4_nextOnes_0 : decode cX4_nextOnes 0 = .ok (.iconst 0, 1) := by decide +kernel
theorem dX4_nextOnes_1 : decode cX4_nextOnes 1 = .ok (.istore_n 2, 1) := by decide +kernel
theorem dX4_nextOnes_2 : decode cX4_nextOnes 2 = .ok (.iconst 0, 1) := by decide +kernel
theorem dX4_nextOnes_3 : decode cX4_nextOnes 3 = .ok (.istore_n 3, 1) := by decide +kernel
theorem dX4_nextOnes_4 : decode cX4_nextOnes 4 = .ok (.iload_n 3, 1) := by decide +kernel
theorem dX4_nextOnes_5 : decode cX4_nextOnes 5 = .ok (.bipush 8, 2) := by decide +kernel
theorem dX4_nextOnes_7 : decode cX4_nextOnes 7 = .ok (.if_icmp .ge 31, 3) := by decide +kernel
theorem dX4_nextOnes_10 : decode cX4_nextOnes 10 = .ok (.aload_n 0, 1) := by decide +kernel
theorem dX4_nextOnes_11 : decode cX4_nextOnes 11 = .ok (.getfield 34, 3) := by decide +kernel
theorem dX4_nextOnes_14 : decode cX4_nextOnes 14 = .ok (.iload_n 1, 1) := by decide +kernel
theorem dX4_nextOnes_15 : decode cX4_nextOnes 15 = .ok (.bipush 8, 2) := by decide +kernel
theorem dX4_nextOnes_17 : decode cX4_nextOnes 17 = .ok (.imul, 1) := by decide +kernel
theorem dX4_nextOnes_18 : decode cX4_nextOnes 18 = .ok (.iload_n 3, 1) := by decide +kernel
theorem dX4_nextOnes_19 : decode cX4_nextOnes 19 = .ok (.iadd, 1) := by decide +kernel
theorem dX4_nextOnes_20 : decode cX4_nextOnes 20 = .ok (.laload, 1) := by decide +kernel
theorem dX4_nextOnes_21 : decode cX4_nextOnes 21 = .ok (.lconst 0, 1) := by decide +kernel
theorem dX4_nextOnes_22 : decode cX4_nextOnes 22 = .ok (.lcmp, 1) := by decide +kernel
theorem dX4_nextOnes_23 : decode cX4_nextOnes 23 = .ok (.ifCond .le 9, 3) := by decide +kernel
theorem dX4_nextOnes_26 : decode cX4_nextOnes 26 = .ok (.iload_n 2, 1) := by decide +kernel
theorem dX4_nextOnes_27 : decode cX4_nextOnes 27 = .ok (.iconst 1, 1) := by decide +kernel
theorem dX4_nextOnes_28 : decode cX4_nextOnes 28 = .ok (.iload_n 3, 1) := by decide +kernel
theorem dX4_nextOnes_29 : decode cX4_nextOnes 29 = .ok (.ishl, 1) := by decide +kernel
theorem dX4_nextOnes_30 : decode cX4_nextOnes 30 = .ok (.ior, 1) := by decide +kernel
theorem dX4_nextOnes_31 : decode cX4_nextOnes 31 = .ok (.istore_n 2, 1) := by decide +kernel
theorem dX4_nextOnes_32 : decode cX4_nextOnes 32 = .ok (.iinc 3 1, 3) := by decide +kernel
theorem dX4_nextOnes_35 : decode cX4_nextOnes 35 = .ok (.goto (-31), 3) := by decide +kernel
theorem dX4_nextOnes_38 : decode cX4_nextOnes 38 = .ok (.iload_n 2, 1) := by decide +kernel
theorem dX4_nextOnes_39 : decode cX4_nextOnes 39 = .ok (.ireturn, 1) := by decide +kernel
theorem dX4_keptOnes_0 : decode cX4_keptOnes 0 = .ok (.iconst 0, 1) := by decide +kernel
theorem dX4_keptOnes_1 : decode cX4_keptOnes 1 = .ok (.istore_n 1, 1) := by decide +kernel
theorem dX4_keptOnes_2 : decode cX4_keptOnes 2 = .ok (.iconst 0, 1) := by decide +kernel
theorem dX4_keptOnes_3 : decode cX4_keptOnes 3 = .ok (.istore_n 2, 1) := by decide +kernel
theorem dX4_keptOnes_4 : decode cX4_keptOnes 4 = .ok (.iload_n 2, 1) := by decide +kernel
theorem dX4_keptOnes_5 : decode cX4_keptOnes 5 = .ok (.bipush 8, 2) := by decide +kernel
theorem dX4_keptOnes_7 : decode cX4_keptOnes 7 = .ok (.if_icmp .ge 35, 3) := by decide +kernel
theorem dX4_keptOnes_10 : decode cX4_keptOnes 10 = .ok (.aload_n 0, 1) := by decide +kernel
theorem dX4_keptOnes_11 : decode cX4_keptOnes 11 = .ok (.getfield 34, 3) := by decide +kernel
theorem dX4_keptOnes_14 : decode cX4_keptOnes 14 = .ok (.iload_n 2, 1) := by decide +kernel
theorem dX4_keptOnes_15 : decode cX4_keptOnes 15 = .ok (.bipush 8, 2) := by decide +kernel
theorem dX4_keptOnes_17 : decode cX4_keptOnes 17 = .ok (.imul, 1) := by decide +kernel
theorem dX4_keptOnes_18 : decode cX4_keptOnes 18 = .ok (.iload_n 2, 1) := by decide +kernel
theorem dX4_keptOnes_19 : decode cX4_keptOnes 19 = .ok (.iadd, 1) := by decide +kernel
theorem dX4_keptOnes_20 : decode cX4_keptOnes 20 = .ok (.laload, 1) := by decide +kernel
theorem dX4_keptOnes_21 : decode cX4_keptOnes 21 = .ok (.aload_n 0, 1) := by decide +kernel
theorem dX4_keptOnes_22 : decode cX4_keptOnes 22 = .ok (.iconst 1, 1) := by decide +kernel
theorem dX4_keptOnes_23 : decode cX4_keptOnes 23 = .ok (.invokevirtual 105, 3) := by decide +kernel
theorem dX4_keptOnes_26 : decode cX4_keptOnes 26 = .ok (.lcmp, 1) := by decide +kernel
theorem dX4_keptOnes_27 : decode cX4_keptOnes 27 = .ok (.ifCond .ne 9, 3) := by decide +kernel
theorem dX4_keptOnes_30 : decode cX4_keptOnes 30 = .ok (.iload_n 1, 1) := by decide +kernel
theorem dX4_keptOnes_31 : decode cX4_keptOnes 31 = .ok (.iconst 1, 1) := by decide +kernel
theorem dX4_keptOnes_32 : decode cX4_keptOnes 32 = .ok (.iload_n 2, 1) := by decide +kernel
theorem dX4_keptOnes_33 : decode cX4_keptOnes 33 = .ok (.ishl, 1) := by decide +kernel
theorem dX4_keptOnes_34 : decode cX4_keptOnes 34 = .ok (.ior, 1) := by decide +kernel
theorem dX4_keptOnes_35 : decode cX4_keptOnes 35 = .ok (.istore_n 1, 1) := by decide +kernel
theorem dX4_keptOnes_36 : decode cX4_keptOnes 36 = .ok (.iinc 2 1, 3) := by decide +kernel
theorem dX4_keptOnes_39 : decode cX4_keptOnes 39 = .ok (.goto (-35), 3) := by decide +kernel
theorem dX4_keptOnes_42 : decode cX4_keptOnes 42 = .ok (.iload_n 1, 1) := by decide +kernel
theorem dX4_keptOnes_43 : decode cX4_keptOnes 43 = .ok (.ireturn, 1) := by decide +kernel
theorem dX5_init_0 : decode cX5_init 0 = .ok (.aload_n 0, 1) := by decide +kernel
theorem dX5_init_1 : decode cX5_init 1 = .ok (.invokespecial 1, 3) := by decide +kernel
theorem dX5_init_4 : decode cX5_init 4 = .ok (.aload_n 0, 1) := by decide +kernel
theorem dX5_init_5 : decode cX5_init 5 = .ok (.new 7, 3) := by decide +kernel
theorem dX5_init_8 : decode cX5_init 8 = .ok (.dup, 1) := by decide +kernel
theorem dX5_init_9 : decode cX5_init 9 = .ok (.invokespecial 9, 3) := by decide +kernel
theorem dX5_init_12 : decode cX5_init 12 = .ok (.putfield 10, 3) := by decide +kernel
theorem dX5_init_15 : decode cX5_init 15 = .ok (.aload_n 0, 1) := by decide +kernel
theorem dX5_init_16 : decode cX5_init 16 = .ok (.new 16, 3) := by decide +kernel
theorem dX5_init_19 : decode cX5_init 19 = .ok (.dup, 1) := by decide +kernel
theorem dX5_init_20 : decode cX5_init 20 = .ok (.invokespecial 18, 3) := by decide +kernel
theorem dX5_init_23 : decode cX5_init 23 = .ok (.putfield 19, 3) := by decide +kernel
theorem dX5_init_26 : decode cX5_init 26 = .ok (.aload_n 0, 1) := by decide +kernel
theorem dX5_init_27 : decode cX5_init 27 = .ok (.new 23, 3) := by decide +kernel
theorem dX5_init_30 : decode cX5_init 30 = .ok (.dup, 1) := by decide +kernel
theorem dX5_init_31 : decode cX5_init 31 = .ok (.invokespecial 25, 3) := by decide +kernel
theorem dX5_init_34 : decode cX5_init 34 = .ok (.putfield 26, 3) := by decide +kernel
theorem dX5_init_37 : decode cX5_init 37 = .ok (.aload_n 0, 1) := by decide +kernel
theorem dX5_init_38 : decode cX5_init 38 = .ok (.new 30, 3) := by decide +kernel
theorem dX5_init_41 : decode cX5_init 41 = .ok (.dup, 1) := by decide +kernel
theorem dX5_init_42 : decode cX5_init 42 = .ok (.aload_n 0, 1) := by decide +kernel
theorem dX5_init_43 : decode cX5_init 43 = .ok (.getfield 26, 3) := by decide +kernel
theorem dX5_init_46 : decode cX5_init 46 = .ok (.invokespecial 32, 3) := by decide +kernel
theorem dX5_init_49 : decode cX5_init 49 = .ok (.putfield 35, 3) := by decide +kernel
theorem dX5_init_52 : decode cX5_init 52 = .ok (.aload_n 0, 1) := by decide +kernel
theorem dX5_init_53 : decode cX5_init 53 = .ok (.new 39, 3) := by decide +kernel
theorem dX5_init_56 : decode cX5_init 56 = .ok (.dup, 1) := by decide +kernel
theorem dX5_init_57 : decode cX5_init 57 = .ok (.aload_n 0, 1) := by decide +kernel
theorem dX5_init_58 : decode cX5_init 58 = .ok (.getfield 26, 3) := by decide +kernel
theorem dX5_init_61 : decode cX5_init 61 = .ok (.aload_n 0, 1) := by decide +kernel
theorem dX5_init_62 : decode cX5_init 62 = .ok (.getfield 35, 3) := by decide +kernel
theorem dX5_init_65 : decode cX5_init 65 = .ok (.invokespecial 41, 3) := by decide +kernel
theorem dX5_init_68 : decode cX5_init 68 = .ok (.putfield 44, 3) := by decide +kernel
theorem dX5_init_71 : decode cX5_init 71 = .ok (.aload_n 0, 1) := by decide +kernel
theorem dX5_init_72 : decode cX5_init 72 = .ok (.bipush 8, 2) := by decide +kernel
theorem dX5_init_74 : decode cX5_init 74 = .ok (.newarray .int, 2) := by decide +kernel
theorem dX5_init_76 : decode cX5_init 76 = .ok (.putfield 48, 3) := by decide +kernel
theorem dX5_init_79 : decode cX5_init 79 = .ok (.return_, 1) := by decide +kernel
theorem dX5_weight_0 : decode cX5_weight 0 = .ok (.iload_n 1, 1) := by decide +kernel
theorem dX5_weight_1 : decode cX5_weight 1 = .ok (.invokestatic 52, 3) := by decide +kernel
theorem dX5_weight_4 : decode cX5_weight 4 = .ok (.ifCond .ne 5, 3) := by decide +kernel
theorem dX5_weight_7 : decode cX5_weight 7 = .ok (.iconst (-1), 1) := by decide +kernel
theorem dX5_weight_8 : decode cX5_weight 8 = .ok (.ireturn, 1) := by decide +kernel
theorem dX5_weight_9 : decode cX5_weight 9 = .ok (.iload_n 2, 1) := by decide +kernel
theorem dX5_weight_10 : decode cX5_weight 10 = .ok (.iconst 1, 1) := by decide +kernel
theorem dX5_weight_11 : decode cX5_weight 11 = .ok (.iconst 4, 1) := by decide +kernel
theorem dX5_weight_12 : decode cX5_weight 12 = .ok (.invokestatic 56, 3) := by decide +kernel
theorem dX5_weight_15 : decode cX5_weight 15 = .ok (.ifCond .ne 6, 3) := by decide +kernel
theorem dX5_weight_18 : decode cX5_weight 18 = .ok (.bipush (-2), 2) := by decide +kernel
theorem dX5_weight_20 : decode cX5_weight 20 = .ok (.ireturn, 1) := by decide +kernel
theorem dX5_weight_21 : decode cX5_weight 21 = .ok (.aload_n 0, 1) := by decide +kernel
theorem dX5_weight_22 : decode cX5_weight 22 = .ok (.getfield 44, 3) := by decide +kernel
theorem dX5_weight_25 : decode cX5_weight 25 = .ok (.getfield 60, 3) := by decide +kernel
theorem dX5_weight_28 : decode cX5_weight 28 = .ok (.iload_n 1, 1) := by decide +kernel
theorem dX5_weight_29 : decode cX5_weight 29 = .ok (.iaload, 1) := by decide +kernel
theorem dX5_weight_30 : decode cX5_weight 30 = .ok (.istore_n 3, 1) := by decide +kernel
theorem dX5_weight_31 : decode cX5_weight 31 = .ok (.aload_n 0, 1) := by decide +kernel
theorem dX5_weight_32 : decode cX5_weight 32 = .ok (.getfield 44, 3) := by decide +kernel
theorem dX5_weight_35 : decode cX5_weight 35 = .ok (.getfield 60, 3) := by decide +kernel
theorem dX5_weight_38 : decode cX5_weight 38 = .ok (.iload_n 1, 1) := by decide +kernel
theorem dX5_weight_39 : decode cX5_weight 39 = .ok (.iload_n 2, 1) := by decide +kernel
theorem dX5_weight_40 : decode cX5_weight 40 = .ok (.iastore, 1) := by decide +kernel
theorem dX5_weight_41 : decode cX5_weight 41 = .ok (.aload_n 0, 1) := by decide +kernel
theorem dX5_weight_42 : decode cX5_weight 42 = .ok (.getfield 44, 3) := by decide +kernel
theorem dX5_weight_45 : decode cX5_weight 45 = .ok (.iconst 0, 1) := by decide +kernel
theorem dX5_weight_46 : decode cX5_weight 46 = .ok (.putfield 63, 3) := by decide +kernel
theorem dX5_weight_49 : decode cX5_weight 49 = .ok (.iload_n 3, 1) := by decide +kernel
theorem dX5_weight_50 : decode cX5_weight 50 = .ok (.ireturn, 1) := by decide +kernel
theorem dX5_set_0 : decode cX5_set 0 = .ok (.iload_n 1, 1) := by decide +kernel
theorem dX5_set_1 : decode cX5_set 1 = .ok (.tableswitch 87 0 2 #[27, 47, 67], 27) := by decide +kernel
theorem dX5_set_28 : decode cX5_set 28 = .ok (.iload_n 2, 1) := by decide +kernel
theorem dX5_set_29 : decode cX5_set 29 = .ok (.iconst 0, 1) := by decide +kernel
theorem dX5_set_30 : decode cX5_set 30 = .ok (.iconst 5, 1) := by decide +kernel
theorem dX5_set_31 : decode cX5_set 31 = .ok (.invokestatic 56, 3) := by decide +kernel
theorem dX5_set_34 : decode cX5_set 34 = .ok (.ifCond .eq 11, 3) := by decide +kernel
theorem dX5_set_37 : decode cX5_set 37 = .ok (.aload_n 0, 1) := by decide +kernel
theorem dX5_set_38 : decode cX5_set 38 = .ok (.iload_n 2, 1) := by decide +kernel
theorem dX5_set_39 : decode cX5_set 39 = .ok (.invokevirtual 67, 3) := by decide +kernel
theorem dX5_set_42 : decode cX5_set 42 = .ok (.goto 5, 3) := by decide +kernel
theorem dX5_set_45 : decode cX5_set 45 = .ok (.bipush (-2), 2) := by decide +kernel
theorem dX5_set_47 : decode cX5_set 47 = .ok (.ireturn, 1) := by decide +kernel
theorem dX5_set_48 : decode cX5_set 48 = .ok (.iload_n 2, 1) := by decide +kernel
theorem dX5_set_49 : decode cX5_set 49 = .ok (.iconst 1, 1) := by decide +kernel
theorem dX5_set_50 : decode cX5_set 50 = .ok (.iconst 4, 1) := by decide +kernel
theorem dX5_set_51 : decode cX5_set 51 = .ok (.invokestatic 56, 3) := by decide +kernel
theorem dX5_set_54 : decode cX5_set 54 = .ok (.ifCond .eq 11, 3) := by decide +kernel
theorem dX5_set_57 : decode cX5_set 57 = .ok (.aload_n 0, 1) := by decide +kernel
theorem dX5_set_58 : decode cX5_set 58 = .ok (.iload_n 2, 1) := by decide +kernel
theorem dX5_set_59 : decode cX5_set 59 = .ok (.invokevirtual 71, 3) := by decide +kernel
theorem dX5_set_62 : decode cX5_set 62 = .ok (.goto 5, 3) := by decide +kernel
theorem dX5_set_65 : decode cX5_set 65 = .ok (.bipush (-2), 2) := by decide +kernel
theorem dX5_set_67 : decode cX5_set 67 = .ok (.ireturn, 1) := by decide +kernel
theorem dX5_set_68 : decode cX5_set 68 = .ok (.iload_n 2, 1) := by decide +kernel
theorem dX5_set_69 : decode cX5_set 69 = .ok (.iconst 0, 1) := by decide +kernel
theorem dX5_set_70 : decode cX5_set 70 = .ok (.iconst 2, 1) := by decide +kernel
theorem dX5_set_71 : decode cX5_set 71 = .ok (.invokestatic 56, 3) := by decide +kernel
theorem dX5_set_74 : decode cX5_set 74 = .ok (.ifCond .eq 11, 3) := by decide +kernel
theorem dX5_set_77 : decode cX5_set 77 = .ok (.aload_n 0, 1) := by decide +kernel
theorem dX5_set_78 : decode cX5_set 78 = .ok (.iload_n 2, 1) := by decide +kernel
theorem dX5_set_79 : decode cX5_set 79 = .ok (.invokevirtual 74, 3) := by decide +kernel
theorem dX5_set_82 : decode cX5_set 82 = .ok (.goto 5, 3) := by decide +kernel
theorem dX5_set_85 : decode cX5_set 85 = .ok (.bipush (-2), 2) := by decide +kernel
theorem dX5_set_87 : decode cX5_set 87 = .ok (.ireturn, 1) := by decide +kernel
theorem dX5_set_88 : decode cX5_set 88 = .ok (.bipush (-2), 2) := by decide +kernel
theorem dX5_set_90 : decode cX5_set 90 = .ok (.ireturn, 1) := by decide +kernel
theorem dX5_say_0 : decode cX5_say 0 = .ok (.iload_n 1, 1) := by decide +kernel
theorem dX5_say_1 : decode cX5_say 1 = .ok (.bipush 33, 2) := by decide +kernel
theorem dX5_say_3 : decode cX5_say 3 = .ok (.bipush 126, 2) := by decide +kernel
theorem dX5_say_5 : decode cX5_say 5 = .ok (.invokestatic 56, 3) := by decide +kernel
theorem dX5_say_8 : decode cX5_say 8 = .ok (.ifCond .ne 6, 3) := by decide +kernel
theorem dX5_say_11 : decode cX5_say 11 = .ok (.bipush (-2), 2) := by decide +kernel
theorem dX5_say_13 : decode cX5_say 13 = .ok (.ireturn, 1) := by decide +kernel
theorem dX5_say_14 : decode cX5_say 14 = .ok (.aload_n 0, 1) := by decide +kernel
theorem dX5_say_15 : decode cX5_say 15 = .ok (.getfield 10, 3) := by decide +kernel
theorem dX5_say_18 : decode cX5_say 18 = .ok (.iload_n 1, 1) := by decide +kernel
theorem dX5_say_19 : decode cX5_say 19 = .ok (.invokevirtual 77, 3) := by decide +kernel
theorem dX5_say_22 : decode cX5_say 22 = .ok (.ifCond .eq 13, 3) := by decide +kernel
theorem dX5_say_25 : decode cX5_say 25 = .ok (.aload_n 0, 1) := by decide +kernel
theorem dX5_say_26 : decode cX5_say 26 = .ok (.getfield 10, 3) := by decide +kernel
theorem dX5_say_29 : decode cX5_say 29 = .ok (.getfield 80, 3) := by decide +kernel
theorem dX5_say_32 : decode cX5_say 32 = .ok (.goto 5, 3) := by decide +kernel
theorem dX5_say_35 : decode cX5_say 35 = .ok (.bipush (-4), 2) := by decide +kernel
theorem dX5_say_37 : decode cX5_say 37 = .ok (.ireturn, 1) := by decide +kernel
theorem dX5_wipe_0 : decode cX5_wipe 0 = .ok (.aload_n 0, 1) := by decide +kernel
theorem dX5_wipe_1 : decode cX5_wipe 1 = .ok (.getfield 10, 3) := by decide +kernel
theorem dX5_wipe_4 : decode cX5_wipe 4 = .ok (.invokevirtual 84, 3) := by decide +kernel
theorem dX5_wipe_7 : decode cX5_wipe 7 = .ok (.ireturn, 1) := by decide +kernel
theorem dX5_fault_0 : decode cX5_fault 0 = .ok (.aload_n 0, 1) := by decide +kernel
theorem dX5_fault_1 : decode cX5_fault 1 = .ok (.getfield 10, 3) := by decide +kernel
theorem dX5_fault_4 : decode cX5_fault 4 = .ok (.invokevirtual 88, 3) := by decide +kernel
theorem dX5_fault_7 : decode cX5_fault 7 = .ok (.ireturn, 1) := by decide +kernel
theorem dX5_before_0 : decode cX5_before 0 = .ok (.aload_n 0, 1) := by decide +kernel
theorem dX5_before_1 : decode cX5_before 1 = .ok (.getfield 10, 3) := by decide +kernel
theorem dX5_before_4 : decode cX5_before 4 = .ok (.invokevirtual 88, 3) := by decide +kernel
theorem dX5_before_7 : decode cX5_before 7 = .ok (.bipush (-6), 2) := by decide +kernel
theorem dX5_before_9 : decode cX5_before 9 = .ok (.if_icmp .eq 6, 3) := by decide +kernel
theorem dX5_before_12 : decode cX5_before 12 = .ok (.bipush (-5), 2) := by decide +kernel
theorem dX5_before_14 : decode cX5_before 14 = .ok (.ireturn, 1) := by decide +kernel
theorem dX5_before_15 : decode cX5_before 15 = .ok (.aload_n 0, 1) := by decide +kernel
theorem dX5_before_16 : decode cX5_before 16 = .ok (.getfield 10, 3) := by decide +kernel
theorem dX5_before_19 : decode cX5_before 19 = .ok (.invokevirtual 91, 3) := by decide +kernel
theorem dX5_before_22 : decode cX5_before 22 = .ok (.istore_n 1, 1) := by decide +kernel
theorem dX5_before_23 : decode cX5_before 23 = .ok (.iconst 0, 1) := by decide +kernel
theorem dX5_before_24 : decode cX5_before 24 = .ok (.istore_n 2, 1) := by decide +kernel
theorem dX5_before_25 : decode cX5_before 25 = .ok (.iload_n 2, 1) := by decide +kernel
theorem dX5_before_26 : decode cX5_before 26 = .ok (.bipush 8, 2) := by decide +kernel
theorem dX5_before_28 : decode cX5_before 28 = .ok (.if_icmp .ge 26, 3) := by decide +kernel
theorem dX5_before_31 : decode cX5_before 31 = .ok (.aload_n 0, 1) := by decide +kernel
theorem dX5_before_32 : decode cX5_before 32 = .ok (.getfield 26, 3) := by decide +kernel
theorem dX5_before_35 : decode cX5_before 35 = .ok (.getfield 94, 3) := by decide +kernel
theorem dX5_before_38 : decode cX5_before 38 = .ok (.iload_n 2, 1) := by decide +kernel
theorem dX5_before_39 : decode cX5_before 39 = .ok (.aload_n 0, 1) := by decide +kernel
theorem dX5_before_40 : decode cX5_before 40 = .ok (.getfield 10, 3) := by decide +kernel
theorem dX5_before_43 : decode cX5_before 43 = .ok (.iload_n 2, 1) := by decide +kernel
theorem dX5_before_44 : decode cX5_before 44 = .ok (.invokevirtual 97, 3) := by decide +kernel
theorem dX5_before_47 : decode cX5_before 47 = .ok (.iastore, 1) := by decide +kernel
theorem dX5_before_48 : decode cX5_before 48 = .ok (.iinc 2 1, 3) := by decide +kernel
theorem dX5_before_51 : decode cX5_before 51 = .ok (.goto (-26), 3) := by decide +kernel
theorem dX5_before_54 : decode cX5_before 54 = .ok (.aload_n 0, 1) := by decide +kernel
theorem dX5_before_55 : decode cX5_before 55 = .ok (.getfield 10, 3) := by decide +kernel
theorem dX5_before_58 : decode cX5_before 58 = .ok (.invokevirtual 84, 3) := by decide +kernel
theorem dX5_before_61 : decode cX5_before 61 = .ok (.pop, 1) := by decide +kernel
theorem dX5_before_62 : decode cX5_before 62 = .ok (.aload_n 0, 1) := by decide +kernel
theorem dX5_before_63 : decode cX5_before 63 = .ok (.invokevirtual 100, 3) := by decide +kernel
theorem dX5_before_66 : decode cX5_before 66 = .ok (.iload_n 1, 1) := by decide +kernel
theorem dX5_before_67 : decode cX5_before 67 = .ok (.ireturn, 1) := by decide +kernel
theorem dX5_number_0 : decode cX5_number 0 = .ok (.iload_n 1, 1) := by decide +kernel
theorem dX5_number_1 : decode cX5_number 1 = .ok (.invokestatic 103, 3) := by decide +kernel
theorem dX5_number_4 : decode cX5_number 4 = .ok (.ifCond .eq 15, 3) := by decide +kernel
theorem dX5_number_7 : decode cX5_number 7 = .ok (.aload_n 0, 1) := by decide +kernel
theorem dX5_number_8 : decode cX5_number 8 = .ok (.getfield 26, 3) := by decide +kernel
theorem dX5_number_11 : decode cX5_number 11 = .ok (.getfield 94, 3) := by decide +kernel
theorem dX5_number_14 : decode cX5_number 14 = .ok (.iload_n 1, 1) := by decide +kernel
theorem dX5_number_15 : decode cX5_number 15 = .ok (.iaload, 1) := by decide +kernel
theorem dX5_number_16 : decode cX5_number 16 = .ok (.goto 4, 3) := by decide +kernel
theorem dX5_number_19 : decode cX5_number 19 = .ok (.iconst (-1), 1) := by decide +kernel
theorem dX5_number_20 : decode cX5_number 20 = .ok (.ireturn, 1) := by decide +kernel
theorem dX5_hear_0 : decode cX5_hear 0 = .ok (.iload_n 1, 1) := by decide +kernel
theorem dX5_hear_1 : decode cX5_hear 1 = .ok (.invokestatic 52, 3) := by decide +kernel
theorem dX5_hear_4 : decode cX5_hear 4 = .ok (.ifCond .ne 5, 3) := by decide +kernel
theorem dX5_hear_7 : decode cX5_hear 7 = .ok (.iconst (-1), 1) := by decide +kernel
theorem dX5_hear_8 : decode cX5_hear 8 = .ok (.ireturn, 1) := by decide +kernel
theorem dX5_hear_9 : decode cX5_hear 9 = .ok (.iload_n 2, 1) := by decide +kernel
theorem dX5_hear_10 : decode cX5_hear 10 = .ok (.invokestatic 106, 3) := by decide +kernel
theorem dX5_hear_13 : decode cX5_hear 13 = .ok (.ifCond .ne 6, 3) := by decide +kernel
theorem dX5_hear_16 : decode cX5_hear 16 = .ok (.bipush (-2), 2) := by decide +kernel
theorem dX5_hear_18 : decode cX5_hear 18 = .ok (.ireturn, 1) := by decide +kernel
theorem dX5_hear_19 : decode cX5_hear 19 = .ok (.aload_n 0, 1) := by decide +kernel
theorem dX5_hear_20 : decode cX5_hear 20 = .ok (.getfield 19, 3) := by decide +kernel
theorem dX5_hear_23 : decode cX5_hear 23 = .ok (.getfield 109, 3) := by decide +kernel
theorem dX5_hear_26 : decode cX5_hear 26 = .ok (.bipush 6, 2) := by decide +kernel
theorem dX5_hear_28 : decode cX5_hear 28 = .ok (.if_icmp .lt 6, 3) := by decide +kernel
theorem dX5_hear_31 : decode cX5_hear 31 = .ok (.bipush (-4), 2) := by decide +kernel
theorem dX5_hear_33 : decode cX5_hear 33 = .ok (.ireturn, 1) := by decide +kernel
theorem dX5_hear_34 : decode cX5_hear 34 = .ok (.aload_n 0, 1) := by decide +kernel
theorem dX5_hear_35 : decode cX5_hear 35 = .ok (.getfield 19, 3) := by decide +kernel
theorem dX5_hear_38 : decode cX5_hear 38 = .ok (.iconst 2, 1) := by decide +kernel
theorem dX5_hear_39 : decode cX5_hear 39 = .ok (.iload_n 1, 1) := by decide +kernel
theorem dX5_hear_40 : decode cX5_hear 40 = .ok (.imul, 1) := by decide +kernel
theorem dX5_hear_41 : decode cX5_hear 41 = .ok (.iload_n 2, 1) := by decide +kernel
theorem dX5_hear_42 : decode cX5_hear 42 = .ok (.iadd, 1) := by decide +kernel
theorem dX5_hear_43 : decode cX5_hear 43 = .ok (.invokevirtual 112, 3) := by decide +kernel
theorem dX5_hear_46 : decode cX5_hear 46 = .ok (.aload_n 0, 1) := by decide +kernel
theorem dX5_hear_47 : decode cX5_hear 47 = .ok (.getfield 19, 3) := by decide +kernel
theorem dX5_hear_50 : decode cX5_hear 50 = .ok (.getfield 109, 3) := by decide +kernel
theorem dX5_hear_53 : decode cX5_hear 53 = .ok (.ireturn, 1) := by decide +kernel
theorem dX5_forget_0 : decode cX5_forget 0 = .ok (.aload_n 0, 1) := by decide +kernel
theorem dX5_forget_1 : decode cX5_forget 1 = .ok (.getfield 19, 3) := by decide +kernel
theorem dX5_forget_4 : decode cX5_forget 4 = .ok (.getfield 109, 3) := by decide +kernel
theorem dX5_forget_7 : decode cX5_forget 7 = .ok (.istore_n 1, 1) := by decide +kernel
theorem dX5_forget_8 : decode cX5_forget 8 = .ok (.aload_n 0, 1) := by decide +kernel
theorem dX5_forget_9 : decode cX5_forget 9 = .ok (.getfield 19, 3) := by decide +kernel
theorem dX5_forget_12 : decode cX5_forget 12 = .ok (.invokevirtual 115, 3) := by decide +kernel
theorem dX5_forget_15 : decode cX5_forget 15 = .ok (.iload_n 1, 1) := by decide +kernel
theorem dX5_forget_16 : decode cX5_forget 16 = .ok (.ireturn, 1) := by decide +kernel
theorem dX5_likeness_0 : decode cX5_likeness 0 = .ok (.iload_n 1, 1) := by decide +kernel
theorem dX5_likeness_1 : decode cX5_likeness 1 = .ok (.invokestatic 103, 3) := by decide +kernel
theorem dX5_likeness_4 : decode cX5_likeness 4 = .ok (.ifCond .eq 18, 3) := by decide +kernel
theorem dX5_likeness_7 : decode cX5_likeness 7 = .ok (.aload_n 0, 1) := by decide +kernel
theorem dX5_likeness_8 : decode cX5_likeness 8 = .ok (.getfield 26, 3) := by decide +kernel
theorem dX5_likeness_11 : decode cX5_likeness 11 = .ok (.iload_n 1, 1) := by decide +kernel
theorem dX5_likeness_12 : decode cX5_likeness 12 = .ok (.aload_n 0, 1) := by decide +kernel
theorem dX5_likeness_13 : decode cX5_likeness 13 = .ok (.getfield 19, 3) := by decide +kernel
theorem dX5_likeness_16 : decode cX5_likeness 16 = .ok (.invokevirtual 117, 3) := by decide +kernel
theorem dX5_likeness_19 : decode cX5_likeness 19 = .ok (.goto 6, 3) := by decide +kernel
theorem dX5_likeness_22 : decode cX5_likeness 22 = .ok (.ldc2_w 121, 3) := by decide +kernel
theorem dX5_likeness_25 : decode cX5_likeness 25 = .ok (.lreturn, 1) := by decide +kernel
theorem dX5_thinks_0 : decode cX5_thinks 0 = .ok (.iload_n 1, 1) := by decide +kernel
theorem dX5_thinks_1 : decode cX5_thinks 1 = .ok (.invokestatic 103, 3) := by decide +kernel
theorem dX5_thinks_4 : decode cX5_thinks 4 = .ok (.iload_n 2, 1) := by decide +kernel
theorem dX5_thinks_5 : decode cX5_thinks 5 = .ok (.invokestatic 123, 3) := by decide +kernel
theorem dX5_thinks_8 : decode cX5_thinks 8 = .ok (.invokestatic 126, 3) := by decide +kernel
theorem dX5_thinks_11 : decode cX5_thinks 11 = .ok (.istore_n 3, 1) := by decide +kernel
theorem dX5_thinks_12 : decode cX5_thinks 12 = .ok (.iload_n 3, 1) := by decide +kernel
theorem dX5_thinks_13 : decode cX5_thinks 13 = .ok (.ifCond .eq 10, 3) := by decide +kernel
theorem dX5_thinks_16 : decode cX5_thinks 16 = .ok (.ldc2_w 130, 3) := by decide +kernel
theorem dX5_thinks_19 : decode cX5_thinks 19 = .ok (.iload_n 3, 1) := by decide +kernel
theorem dX5_thinks_20 : decode cX5_thinks 20 = .ok (.i2l, 1) := by decide +kernel
theorem dX5_thinks_21 : decode cX5_thinks 21 = .ok (.ladd, 1) := by decide +kernel
theorem dX5_thinks_22 : decode cX5_thinks 22 = .ok (.lreturn, 1) := by decide +kernel
theorem dX5_thinks_23 : decode cX5_thinks 23 = .ok (.lconst 0, 1) := by decide +kernel
theorem dX5_thinks_24 : decode cX5_thinks 24 = .ok (.lstore 4, 2) := by decide +kernel
theorem dX5_thinks_26 : decode cX5_thinks 26 = .ok (.iconst 0, 1) := by decide +kernel
theorem dX5_thinks_27 : decode cX5_thinks 27 = .ok (.istore 6, 2) := by decide +kernel
theorem dX5_thinks_29 : decode cX5_thinks 29 = .ok (.iload 6, 2) := by decide +kernel
theorem dX5_thinks_31 : decode cX5_thinks 31 = .ok (.bipush 8, 2) := by decide +kernel
theorem dX5_thinks_33 : decode cX5_thinks 33 = .ok (.if_icmp .ge 27, 3) := by decide +kernel
theorem dX5_thinks_36 : decode cX5_thinks 36 = .ok (.lload 4, 2) := by decide +kernel
theorem dX5_thinks_38 : decode cX5_thinks 38 = .ok (.aload_n 0, 1) := by decide +kernel
theorem dX5_thinks_39 : decode cX5_thinks 39 = .ok (.getfield 26, 3) := by decide +kernel
theorem dX5_thinks_42 : decode cX5_thinks 42 = .ok (.iload 6, 2) := by decide +kernel
theorem dX5_thinks_44 : decode cX5_thinks 44 = .ok (.aload_n 0, 1) := by decide +kernel
theorem dX5_thinks_45 : decode cX5_thinks 45 = .ok (.getfield 19, 3) := by decide +kernel
theorem dX5_thinks_48 : decode cX5_thinks 48 = .ok (.invokevirtual 117, 3) := by decide +kernel
theorem dX5_thinks_51 : decode cX5_thinks 51 = .ok (.ladd, 1) := by decide +kernel
theorem dX5_thinks_52 : decode cX5_thinks 52 = .ok (.lstore 4, 2) := by decide +kernel
theorem dX5_thinks_54 : decode cX5_thinks 54 = .ok (.iinc 6 1, 3) := by decide +kernel
theorem dX5_thinks_57 : decode cX5_thinks 57 = .ok (.goto (-28), 3) := by decide +kernel
theorem dX5_thinks_60 : decode cX5_thinks 60 = .ok (.aload_n 0, 1) := by decide +kernel
theorem dX5_thinks_61 : decode cX5_thinks 61 = .ok (.getfield 26, 3) := by decide +kernel
theorem dX5_thinks_64 : decode cX5_thinks 64 = .ok (.iload_n 1, 1) := by decide +kernel
theorem dX5_thinks_65 : decode cX5_thinks 65 = .ok (.aload_n 0, 1) := by decide +kernel
theorem dX5_thinks_66 : decode cX5_thinks 66 = .ok (.getfield 19, 3) := by decide +kernel
theorem dX5_thinks_69 : decode cX5_thinks 69 = .ok (.invokevirtual 117, 3) := by decide +kernel
theorem dX5_thinks_72 : decode cX5_thinks 72 = .ok (.lload 4, 2) := by decide +kernel
theorem dX5_thinks_74 : decode cX5_thinks 74 = .ok (.iload_n 2, 1) := by decide +kernel
theorem dX5_thinks_75 : decode cX5_thinks 75 = .ok (.invokestatic 132, 3) := by decide +kernel
theorem dX5_thinks_78 : decode cX5_thinks 78 = .ok (.lreturn, 1) := by decide +kernel
theorem dX5_takes_0 : decode cX5_takes 0 = .ok (.aload_n 0, 1) := by decide +kernel
theorem dX5_takes_1 : decode cX5_takes 1 = .ok (.getfield 26, 3) := by decide +kernel
theorem dX5_takes_4 : decode cX5_takes 4 = .ok (.aload_n 0, 1) := by decide +kernel
theorem dX5_takes_5 : decode cX5_takes 5 = .ok (.getfield 19, 3) := by decide +kernel
theorem dX5_takes_8 : decode cX5_takes 8 = .ok (.invokevirtual 136, 3) := by decide +kernel
theorem dX5_takes_11 : decode cX5_takes 11 = .ok (.ireturn, 1) := by decide +kernel
theorem dX5_step_0 : decode cX5_step 0 = .ok (.iload_n 1, 1) := by decide +kernel
theorem dX5_step_1 : decode cX5_step 1 = .ok (.invokestatic 103, 3) := by decide +kernel
theorem dX5_step_4 : decode cX5_step 4 = .ok (.ifCond .eq 14, 3) := by decide +kernel
theorem dX5_step_7 : decode cX5_step 7 = .ok (.iload_n 2, 1) := by decide +kernel
theorem dX5_step_8 : decode cX5_step 8 = .ok (.invokestatic 103, 3) := by decide +kernel
theorem dX5_step_11 : decode cX5_step 11 = .ok (.ifCond .eq 7, 3) := by decide +kernel
theorem dX5_step_14 : decode cX5_step 14 = .ok (.iconst 1, 1) := by decide +kernel
theorem dX5_step_15 : decode cX5_step 15 = .ok (.goto 4, 3) := by decide +kernel
theorem dX5_step_18 : decode cX5_step 18 = .ok (.iconst 0, 1) := by decide +kernel
theorem dX5_step_19 : decode cX5_step 19 = .ok (.iload_n 3, 1) := by decide +kernel
theorem dX5_step_20 : decode cX5_step 20 = .ok (.invokestatic 123, 3) := by decide +kernel
theorem dX5_step_23 : decode cX5_step 23 = .ok (.invokestatic 126, 3) := by decide +kernel
theorem dX5_step_26 : decode cX5_step 26 = .ok (.istore 4, 2) := by decide +kernel
theorem dX5_step_28 : decode cX5_step 28 = .ok (.iload 4, 2) := by decide +kernel
theorem dX5_step_30 : decode cX5_step 30 = .ok (.ifCond .eq 11, 3) := by decide +kernel
theorem dX5_step_33 : decode cX5_step 33 = .ok (.ldc2_w 130, 3) := by decide +kernel
theorem dX5_step_36 : decode cX5_step 36 = .ok (.iload 4, 2) := by decide +kernel
theorem dX5_step_38 : decode cX5_step 38 = .ok (.i2l, 1) := by decide +kernel
theorem dX5_step_39 : decode cX5_step 39 = .ok (.ladd, 1) := by decide +kernel
theorem dX5_step_40 : decode cX5_step 40 = .ok (.lreturn, 1) := by decide +kernel
theorem dX5_step_41 : decode cX5_step 41 = .ok (.aload_n 0, 1) := by decide +kernel
theorem dX5_step_42 : decode cX5_step 42 = .ok (.getfield 44, 3) := by decide +kernel
theorem dX5_step_45 : decode cX5_step 45 = .ok (.iload_n 1, 1) := by decide +kernel
theorem dX5_step_46 : decode cX5_step 46 = .ok (.iload_n 1, 1) := by decide +kernel
theorem dX5_step_47 : decode cX5_step 47 = .ok (.iconst 0, 1) := by decide +kernel
theorem dX5_step_48 : decode cX5_step 48 = .ok (.invokevirtual 140, 3) := by decide +kernel
theorem dX5_step_51 : decode cX5_step 51 = .ok (.iload_n 2, 1) := by decide +kernel
theorem dX5_step_52 : decode cX5_step 52 = .ok (.laload, 1) := by decide +kernel
theorem dX5_step_53 : decode cX5_step 53 = .ok (.aload_n 0, 1) := by decide +kernel
theorem dX5_step_54 : decode cX5_step 54 = .ok (.getfield 44, 3) := by decide +kernel
theorem dX5_step_57 : decode cX5_step 57 = .ok (.iconst 1, 1) := by decide +kernel
theorem dX5_step_58 : decode cX5_step 58 = .ok (.invokevirtual 144, 3) := by decide +kernel
theorem dX5_step_61 : decode cX5_step 61 = .ok (.iload_n 3, 1) := by decide +kernel
theorem dX5_step_62 : decode cX5_step 62 = .ok (.invokestatic 132, 3) := by decide +kernel
theorem dX5_step_65 : decode cX5_step 65 = .ok (.lreturn, 1) := by decide +kernel
theorem dX5_book_0 : decode cX5_book 0 = .ok (.iload_n 1, 1) := by decide +kernel
theorem dX5_book_1 : decode cX5_book 1 = .ok (.invokestatic 103, 3) := by decide +kernel
theorem dX5_book_4 : decode cX5_book 4 = .ok (.ifCond .eq 22, 3) := by decide +kernel
theorem dX5_book_7 : decode cX5_book 7 = .ok (.iload_n 3, 1) := by decide +kernel
theorem dX5_book_8 : decode cX5_book 8 = .ok (.invokestatic 103, 3) := by decide +kernel
theorem dX5_book_11 : decode cX5_book 11 = .ok (.ifCond .eq 15, 3) := by decide +kernel
theorem dX5_book_14 : decode cX5_book 14 = .ok (.iload 4, 2) := by decide +kernel
theorem dX5_book_16 : decode cX5_book 16 = .ok (.invokestatic 103, 3) := by decide +kernel
theorem dX5_book_19 : decode cX5_book 19 = .ok (.ifCond .eq 7, 3) := by decide +kernel
theorem dX5_book_22 : decode cX5_book 22 = .ok (.iconst 1, 1) := by decide +kernel
theorem dX5_book_23 : decode cX5_book 23 = .ok (.goto 4, 3) := by decide +kernel
theorem dX5_book_26 : decode cX5_book 26 = .ok (.iconst 0, 1) := by decide +kernel
theorem dX5_book_27 : decode cX5_book 27 = .ok (.istore 6, 2) := by decide +kernel
theorem dX5_book_29 : decode cX5_book 29 = .ok (.iload 6, 2) := by decide +kernel
theorem dX5_book_31 : decode cX5_book 31 = .ok (.iload_n 2, 1) := by decide +kernel
theorem dX5_book_32 : decode cX5_book 32 = .ok (.iconst 0, 1) := by decide +kernel
theorem dX5_book_33 : decode cX5_book 33 = .ok (.aload_n 0, 1) := by decide +kernel
theorem dX5_book_34 : decode cX5_book 34 = .ok (.getfield 44, 3) := by decide +kernel
theorem dX5_book_37 : decode cX5_book 37 = .ok (.getfield 148, 3) := by decide +kernel
theorem dX5_book_40 : decode cX5_book 40 = .ok (.invokestatic 56, 3) := by decide +kernel
theorem dX5_book_43 : decode cX5_book 43 = .ok (.ifCond .eq 15, 3) := by decide +kernel
theorem dX5_book_46 : decode cX5_book 46 = .ok (.iload 5, 2) := by decide +kernel
theorem dX5_book_48 : decode cX5_book 48 = .ok (.invokestatic 123, 3) := by decide +kernel
theorem dX5_book_51 : decode cX5_book 51 = .ok (.ifCond .eq 7, 3) := by decide +kernel
theorem dX5_book_54 : decode cX5_book 54 = .ok (.iconst 1, 1) := by decide +kernel
theorem dX5_book_55 : decode cX5_book 55 = .ok (.goto 4, 3) := by decide +kernel
theorem dX5_book_58 : decode cX5_book 58 = .ok (.iconst 0, 1) := by decide +kernel
theorem dX5_book_59 : decode cX5_book 59 = .ok (.invokestatic 126, 3) := by decide +kernel
theorem dX5_book_62 : decode cX5_book 62 = .ok (.istore 7, 2) := by decide +kernel
theorem dX5_book_64 : decode cX5_book 64 = .ok (.iload 7, 2) := by decide +kernel
theorem dX5_book_66 : decode cX5_book 66 = .ok (.ifCond .eq 11, 3) := by decide +kernel
theorem dX5_book_69 : decode cX5_book 69 = .ok (.ldc2_w 130, 3) := by decide +kernel
theorem dX5_book_72 : decode cX5_book 72 = .ok (.iload 7, 2) := by decide +kernel
theorem dX5_book_74 : decode cX5_book 74 = .ok (.i2l, 1) := by decide +kernel
theorem dX5_book_75 : decode cX5_book 75 = .ok (.ladd, 1) := by decide +kernel
theorem dX5_book_76 : decode cX5_book 76 = .ok (.lreturn, 1) := by decide +kernel
theorem dX5_book_77 : decode cX5_book 77 = .ok (.aload_n 0, 1) := by decide +kernel
theorem dX5_book_78 : decode cX5_book 78 = .ok (.getfield 44, 3) := by decide +kernel
theorem dX5_book_81 : decode cX5_book 81 = .ok (.iload_n 3, 1) := by decide +kernel
theorem dX5_book_82 : decode cX5_book 82 = .ok (.iload_n 1, 1) := by decide +kernel
theorem dX5_book_83 : decode cX5_book 83 = .ok (.iload_n 2, 1) := by decide +kernel
theorem dX5_book_84 : decode cX5_book 84 = .ok (.invokevirtual 140, 3) := by decide +kernel
theorem dX5_book_87 : decode cX5_book 87 = .ok (.iload 4, 2) := by decide +kernel
theorem dX5_book_89 : decode cX5_book 89 = .ok (.laload, 1) := by decide +kernel
theorem dX5_book_90 : decode cX5_book 90 = .ok (.aload_n 0, 1) := by decide +kernel
theorem dX5_book_91 : decode cX5_book 91 = .ok (.getfield 44, 3) := by decide +kernel
theorem dX5_book_94 : decode cX5_book 94 = .ok (.iconst 1, 1) := by decide +kernel
theorem dX5_book_95 : decode cX5_book 95 = .ok (.invokevirtual 144, 3) := by decide +kernel
theorem dX5_book_98 : decode cX5_book 98 = .ok (.iload 5, 2) := by decide +kernel
theorem dX5_book_100 : decode cX5_book 100 = .ok (.invokestatic 132, 3) := by decide +kernel
theorem dX5_book_103 : decode cX5_book 103 = .ok (.lreturn, 1) := by decide +kernel
theorem dX5_after_0 : decode cX5_after 0 = .ok (.aload_n 0, 1) := by decide +kernel
theorem dX5_after_1 : decode cX5_after 1 = .ok (.iload_n 1, 1) := by decide +kernel
theorem dX5_after_2 : decode cX5_after 2 = .ok (.invokestatic 103, 3) := by decide +kernel
theorem dX5_after_5 : decode cX5_after 5 = .ok (.ifCond .eq 14, 3) := by decide +kernel
theorem dX5_after_8 : decode cX5_after 8 = .ok (.iload_n 3, 1) := by decide +kernel
theorem dX5_after_9 : decode cX5_after 9 = .ok (.invokestatic 103, 3) := by decide +kernel
theorem dX5_after_12 : decode cX5_after 12 = .ok (.ifCond .eq 7, 3) := by decide +kernel
theorem dX5_after_15 : decode cX5_after 15 = .ok (.iconst 1, 1) := by decide +kernel
theorem dX5_after_16 : decode cX5_after 16 = .ok (.goto 4, 3) := by decide +kernel
theorem dX5_after_19 : decode cX5_after 19 = .ok (.iconst 0, 1) := by decide +kernel
theorem dX5_after_20 : decode cX5_after 20 = .ok (.iload 4, 2) := by decide +kernel
theorem dX5_after_22 : decode cX5_after 22 = .ok (.invokestatic 123, 3) := by decide +kernel
theorem dX5_after_25 : decode cX5_after 25 = .ok (.iload_n 2, 1) := by decide +kernel
theorem dX5_after_26 : decode cX5_after 26 = .ok (.invokevirtual 151, 3) := by decide +kernel
theorem dX5_after_29 : decode cX5_after 29 = .ok (.istore 5, 2) := by decide +kernel
theorem dX5_after_31 : decode cX5_after 31 = .ok (.iload 5, 2) := by decide +kernel
theorem dX5_after_33 : decode cX5_after 33 = .ok (.ifCond .eq 11, 3) := by decide +kernel
theorem dX5_after_36 : decode cX5_after 36 = .ok (.ldc2_w 130, 3) := by decide +kernel
theorem dX5_after_39 : decode cX5_after 39 = .ok (.iload 5, 2) := by decide +kernel
theorem dX5_after_41 : decode cX5_after 41 = .ok (.i2l, 1) := by decide +kernel
theorem dX5_after_42 : decode cX5_after 42 = .ok (.ladd, 1) := by decide +kernel
theorem dX5_after_43 : decode cX5_after 43 = .ok (.lreturn, 1) := by decide +kernel
theorem dX5_after_44 : decode cX5_after 44 = .ok (.aload_n 0, 1) := by decide +kernel
theorem dX5_after_45 : decode cX5_after 45 = .ok (.getfield 44, 3) := by decide +kernel
theorem dX5_after_48 : decode cX5_after 48 = .ok (.invokevirtual 155, 3) := by decide +kernel
theorem dX5_after_51 : decode cX5_after 51 = .ok (.aload_n 0, 1) := by decide +kernel
theorem dX5_after_52 : decode cX5_after 52 = .ok (.getfield 44, 3) := by decide +kernel
theorem dX5_after_55 : decode cX5_after 55 = .ok (.iload_n 1, 1) := by decide +kernel
theorem dX5_after_56 : decode cX5_after 56 = .ok (.iload_n 2, 1) := by decide +kernel
theorem dX5_after_57 : decode cX5_after 57 = .ok (.invokevirtual 158, 3) := by decide +kernel
theorem dX5_after_60 : decode cX5_after 60 = .ok (.iload_n 3, 1) := by decide +kernel
theorem dX5_after_61 : decode cX5_after 61 = .ok (.laload, 1) := by decide +kernel
theorem dX5_after_62 : decode cX5_after 62 = .ok (.aload_n 0, 1) := by decide +kernel
theorem dX5_after_63 : decode cX5_after 63 = .ok (.getfield 44, 3) := by decide +kernel
theorem dX5_after_66 : decode cX5_after 66 = .ok (.iload_n 2, 1) := by decide +kernel
theorem dX5_after_67 : decode cX5_after 67 = .ok (.invokevirtual 144, 3) := by decide +kernel
theorem dX5_after_70 : decode cX5_after 70 = .ok (.iload 4, 2) := by decide +kernel
theorem dX5_after_72 : decode cX5_after 72 = .ok (.invokestatic 132, 3) := by decide +kernel
theorem dX5_after_75 : decode cX5_after 75 = .ok (.lreturn, 1) := by decide +kernel
theorem dX5_leads_0 : decode cX5_leads 0 = .ok (.iload_n 1, 1) := by decide +kernel
theorem dX5_leads_1 : decode cX5_leads 1 = .ok (.invokestatic 103, 3) := by decide +kernel
theorem dX5_leads_4 : decode cX5_leads 4 = .ok (.ifCond .ne 5, 3) := by decide +kernel
theorem dX5_leads_7 : decode cX5_leads 7 = .ok (.iconst (-1), 1) := by decide +kernel
theorem dX5_leads_8 : decode cX5_leads 8 = .ok (.ireturn, 1) := by decide +kernel
theorem dX5_leads_9 : decode cX5_leads 9 = .ok (.aload_n 0, 1) := by decide +kernel
theorem dX5_leads_10 : decode cX5_leads 10 = .ok (.getfield 44, 3) := by decide +kernel
theorem dX5_leads_13 : decode cX5_leads 13 = .ok (.invokevirtual 155, 3) := by decide +kernel
theorem dX5_leads_16 : decode cX5_leads 16 = .ok (.aload_n 0, 1) := by decide +kernel
theorem dX5_leads_17 : decode cX5_leads 17 = .ok (.invokevirtual 162, 3) := by decide +kernel
theorem dX5_leads_20 : decode cX5_leads 20 = .ok (.aload_n 0, 1) := by decide +kernel
theorem dX5_leads_21 : decode cX5_leads 21 = .ok (.getfield 48, 3) := by decide +kernel
theorem dX5_leads_24 : decode cX5_leads 24 = .ok (.iload_n 1, 1) := by decide +kernel
theorem dX5_leads_25 : decode cX5_leads 25 = .ok (.iaload, 1) := by decide +kernel
theorem dX5_leads_26 : decode cX5_leads 26 = .ok (.ireturn, 1) := by decide +kernel
theorem dX5_lasts_0 : decode cX5_lasts 0 = .ok (.iload_n 1, 1) := by decide +kernel
theorem dX5_lasts_1 : decode cX5_lasts 1 = .ok (.iconst 0, 1) := by decide +kernel
theorem dX5_lasts_2 : decode cX5_lasts 2 = .ok (.iconst 2, 1) := by decide +kernel
theorem dX5_lasts_3 : decode cX5_lasts 3 = .ok (.invokestatic 56, 3) := by decide +kernel
theorem dX5_lasts_6 : decode cX5_lasts 6 = .ok (.ifCond .ne 6, 3) := by decide +kernel
theorem dX5_lasts_9 : decode cX5_lasts 9 = .ok (.bipush (-2), 2) := by decide +kernel
theorem dX5_lasts_11 : decode cX5_lasts 11 = .ok (.ireturn, 1) := by decide +kernel
theorem dX5_lasts_12 : decode cX5_lasts 12 = .ok (.aload_n 0, 1) := by decide +kernel
theorem dX5_lasts_13 : decode cX5_lasts 13 = .ok (.getfield 44, 3) := by decide +kernel
theorem dX5_lasts_16 : decode cX5_lasts 16 = .ok (.invokevirtual 155, 3) := by decide +kernel
theorem dX5_lasts_19 : decode cX5_lasts 19 = .ok (.iload_n 1, 1) := by decide +kernel
theorem dX5_lasts_20 : decode cX5_lasts 20 = .ok (.iconst 2, 1) := by decide +kernel
theorem dX5_lasts_21 : decode cX5_lasts 21 = .ok (.if_icmp .ne 11, 3) := by decide +kernel
theorem dX5_lasts_24 : decode cX5_lasts 24 = .ok (.aload_n 0, 1) := by decide +kernel
theorem dX5_lasts_25 : decode cX5_lasts 25 = .ok (.getfield 44, 3) := by decide +kernel
theorem dX5_lasts_28 : decode cX5_lasts 28 = .ok (.invokevirtual 165, 3) := by decide +kernel
theorem dX5_lasts_31 : decode cX5_lasts 31 = .ok (.ireturn, 1) := by decide +kernel
theorem dX5_lasts_32 : decode cX5_lasts 32 = .ok (.aload_n 0, 1) := by decide +kernel
theorem dX5_lasts_33 : decode cX5_lasts 33 = .ok (.invokevirtual 162, 3) := by decide +kernel
theorem dX5_lasts_36 : decode cX5_lasts 36 = .ok (.iload_n 1, 1) := by decide +kernel
theorem dX5_lasts_37 : decode cX5_lasts 37 = .ok (.ifCond .ne 10, 3) := by decide +kernel
theorem dX5_lasts_40 : decode cX5_lasts 40 = .ok (.aload_n 0, 1) := by decide +kernel
theorem dX5_lasts_41 : decode cX5_lasts 41 = .ok (.invokevirtual 168, 3) := by decide +kernel
theorem dX5_lasts_44 : decode cX5_lasts 44 = .ok (.goto 11, 3) := by decide +kernel
theorem dX5_lasts_47 : decode cX5_lasts 47 = .ok (.aload_n 0, 1) := by decide +kernel
theorem dX5_lasts_48 : decode cX5_lasts 48 = .ok (.aload_n 0, 1) := by decide +kernel
theorem dX5_lasts_49 : decode cX5_lasts 49 = .ok (.invokevirtual 168, 3) := by decide +kernel
theorem dX5_lasts_52 : decode cX5_lasts 52 = .ok (.invokevirtual 171, 3) := by decide +kernel
theorem dX5_lasts_55 : decode cX5_lasts 55 = .ok (.ireturn, 1) := by decide +kernel
theorem dX5_lives_0 : decode cX5_lives 0 = .ok (.iload_n 2, 1) := by decide +kernel
theorem dX5_lives_1 : decode cX5_lives 1 = .ok (.invokestatic 52, 3) := by decide +kernel
theorem dX5_lives_4 : decode cX5_lives 4 = .ok (.ifCond .eq 14, 3) := by decide +kernel
theorem dX5_lives_7 : decode cX5_lives 7 = .ok (.iload_n 1, 1) := by decide +kernel
theorem dX5_lives_8 : decode cX5_lives 8 = .ok (.invokestatic 103, 3) := by decide +kernel
theorem dX5_lives_11 : decode cX5_lives 11 = .ok (.ifCond .eq 7, 3) := by decide +kernel
theorem dX5_lives_14 : decode cX5_lives 14 = .ok (.iconst 1, 1) := by decide +kernel
theorem dX5_lives_15 : decode cX5_lives 15 = .ok (.goto 4, 3) := by decide +kernel
theorem dX5_lives_18 : decode cX5_lives 18 = .ok (.iconst 0, 1) := by decide +kernel
theorem dX5_lives_19 : decode cX5_lives 19 = .ok (.istore 6, 2) := by decide +kernel
theorem dX5_lives_21 : decode cX5_lives 21 = .ok (.aload_n 0, 1) := by decide +kernel
theorem dX5_lives_22 : decode cX5_lives 22 = .ok (.iload 6, 2) := by decide +kernel
theorem dX5_lives_24 : decode cX5_lives 24 = .ok (.iload_n 3, 1) := by decide +kernel
theorem dX5_lives_25 : decode cX5_lives 25 = .ok (.invokestatic 106, 3) := by decide +kernel
theorem dX5_lives_28 : decode cX5_lives 28 = .ok (.ifCond .eq 15, 3) := by decide +kernel
theorem dX5_lives_31 : decode cX5_lives 31 = .ok (.iload 5, 2) := by decide +kernel
theorem dX5_lives_33 : decode cX5_lives 33 = .ok (.invokestatic 123, 3) := by decide +kernel
theorem dX5_lives_36 : decode cX5_lives 36 = .ok (.ifCond .eq 7, 3) := by decide +kernel
theorem dX5_lives_39 : decode cX5_lives 39 = .ok (.iconst 1, 1) := by decide +kernel
theorem dX5_lives_40 : decode cX5_lives 40 = .ok (.goto 4, 3) := by decide +kernel
theorem dX5_lives_43 : decode cX5_lives 43 = .ok (.iconst 0, 1) := by decide +kernel
theorem dX5_lives_44 : decode cX5_lives 44 = .ok (.iload 4, 2) := by decide +kernel
theorem dX5_lives_46 : decode cX5_lives 46 = .ok (.invokevirtual 151, 3) := by decide +kernel
theorem dX5_lives_49 : decode cX5_lives 49 = .ok (.istore 7, 2) := by decide +kernel
theorem dX5_lives_51 : decode cX5_lives 51 = .ok (.iload 7, 2) := by decide +kernel
theorem dX5_lives_53 : decode cX5_lives 53 = .ok (.ifCond .eq 11, 3) := by decide +kernel
theorem dX5_lives_56 : decode cX5_lives 56 = .ok (.ldc2_w 130, 3) := by decide +kernel
theorem dX5_lives_59 : decode cX5_lives 59 = .ok (.iload 7, 2) := by decide +kernel
theorem dX5_lives_61 : decode cX5_lives 61 = .ok (.i2l, 1) := by decide +kernel
theorem dX5_lives_62 : decode cX5_lives 62 = .ok (.ladd, 1) := by decide +kernel
theorem dX5_lives_63 : decode cX5_lives 63 = .ok (.lreturn, 1) := by decide +kernel
theorem dX5_lives_64 : decode cX5_lives 64 = .ok (.aload_n 0, 1) := by decide +kernel
theorem dX5_lives_65 : decode cX5_lives 65 = .ok (.getfield 44, 3) := by decide +kernel
theorem dX5_lives_68 : decode cX5_lives 68 = .ok (.invokevirtual 155, 3) := by decide +kernel
theorem dX5_lives_71 : decode cX5_lives 71 = .ok (.aload_n 0, 1) := by decide +kernel
theorem dX5_lives_72 : decode cX5_lives 72 = .ok (.getfield 44, 3) := by decide +kernel
theorem dX5_lives_75 : decode cX5_lives 75 = .ok (.iload_n 1, 1) := by decide +kernel
theorem dX5_lives_76 : decode cX5_lives 76 = .ok (.iload 4, 2) := by decide +kernel
theorem dX5_lives_78 : decode cX5_lives 78 = .ok (.invokevirtual 158, 3) := by decide +kernel
theorem dX5_lives_81 : decode cX5_lives 81 = .ok (.iload_n 2, 1) := by decide +kernel
theorem dX5_lives_82 : decode cX5_lives 82 = .ok (.iload_n 3, 1) := by decide +kernel
theorem dX5_lives_83 : decode cX5_lives 83 = .ok (.invokestatic 174, 3) := by decide +kernel
theorem dX5_lives_86 : decode cX5_lives 86 = .ok (.lstore 8, 2) := by decide +kernel
theorem dX5_lives_88 : decode cX5_lives 88 = .ok (.lload 8, 2) := by decide +kernel
theorem dX5_lives_90 : decode cX5_lives 90 = .ok (.aload_n 0, 1) := by decide +kernel
theorem dX5_lives_91 : decode cX5_lives 91 = .ok (.getfield 44, 3) := by decide +kernel
theorem dX5_lives_94 : decode cX5_lives 94 = .ok (.iload 4, 2) := by decide +kernel
theorem dX5_lives_96 : decode cX5_lives 96 = .ok (.invokevirtual 144, 3) := by decide +kernel
theorem dX5_lives_99 : decode cX5_lives 99 = .ok (.iload 5, 2) := by decide +kernel
theorem dX5_lives_101 : decode cX5_lives 101 = .ok (.invokestatic 132, 3) := by decide +kernel
theorem dX5_lives_104 : decode cX5_lives 104 = .ok (.lreturn, 1) := by decide +kernel
theorem dX5_often_0 : decode cX5_often 0 = .ok (.iload_n 1, 1) := by decide +kernel
theorem dX5_often_1 : decode cX5_often 1 = .ok (.invokestatic 103, 3) := by decide +kernel
theorem dX5_often_4 : decode cX5_often 4 = .ok (.ifCond .eq 14, 3) := by decide +kernel
theorem dX5_often_7 : decode cX5_often 7 = .ok (.iload_n 2, 1) := by decide +kernel
theorem dX5_often_8 : decode cX5_often 8 = .ok (.invokestatic 52, 3) := by decide +kernel
theorem dX5_often_11 : decode cX5_often 11 = .ok (.ifCond .eq 7, 3) := by decide +kernel
theorem dX5_often_14 : decode cX5_often 14 = .ok (.iconst 1, 1) := by decide +kernel
theorem dX5_often_15 : decode cX5_often 15 = .ok (.goto 4, 3) := by decide +kernel
theorem dX5_often_18 : decode cX5_often 18 = .ok (.iconst 0, 1) := by decide +kernel
theorem dX5_often_19 : decode cX5_often 19 = .ok (.iload_n 3, 1) := by decide +kernel
theorem dX5_often_20 : decode cX5_often 20 = .ok (.iconst 0, 1) := by decide +kernel
theorem dX5_often_21 : decode cX5_often 21 = .ok (.bipush 12, 2) := by decide +kernel
theorem dX5_often_23 : decode cX5_often 23 = .ok (.invokestatic 56, 3) := by decide +kernel
theorem dX5_often_26 : decode cX5_often 26 = .ok (.invokestatic 126, 3) := by decide +kernel
theorem dX5_often_29 : decode cX5_often 29 = .ok (.istore 4, 2) := by decide +kernel
theorem dX5_often_31 : decode cX5_often 31 = .ok (.iload 4, 2) := by decide +kernel
theorem dX5_often_33 : decode cX5_often 33 = .ok (.ifCond .eq 6, 3) := by decide +kernel
theorem dX5_often_36 : decode cX5_often 36 = .ok (.iload 4, 2) := by decide +kernel
theorem dX5_often_38 : decode cX5_often 38 = .ok (.ireturn, 1) := by decide +kernel
theorem dX5_often_39 : decode cX5_often 39 = .ok (.aload_n 0, 1) := by decide +kernel
theorem dX5_often_40 : decode cX5_often 40 = .ok (.getfield 44, 3) := by decide +kernel
theorem dX5_often_43 : decode cX5_often 43 = .ok (.getfield 60, 3) := by decide +kernel
theorem dX5_often_46 : decode cX5_often 46 = .ok (.iload_n 2, 1) := by decide +kernel
theorem dX5_often_47 : decode cX5_often 47 = .ok (.iaload, 1) := by decide +kernel
theorem dX5_often_48 : decode cX5_often 48 = .ok (.istore 5, 2) := by decide +kernel
theorem dX5_often_50 : decode cX5_often 50 = .ok (.bipush (-6), 2) := by decide +kernel
theorem dX5_often_52 : decode cX5_often 52 = .ok (.istore 6, 2) := by decide +kernel
theorem dX5_often_54 : decode cX5_often 54 = .ok (.iconst 1, 1) := by decide +kernel
theorem dX5_often_55 : decode cX5_often 55 = .ok (.istore 7, 2) := by decide +kernel
theorem dX5_often_57 : decode cX5_often 57 = .ok (.iload 7, 2) := by decide +kernel
theorem dX5_often_59 : decode cX5_often 59 = .ok (.iconst 4, 1) := by decide +kernel
theorem dX5_often_60 : decode cX5_often 60 = .ok (.if_icmp .gt 77, 3) := by decide +kernel
theorem dX5_often_63 : decode cX5_often 63 = .ok (.iload 6, 2) := by decide +kernel
theorem dX5_often_65 : decode cX5_often 65 = .ok (.bipush (-6), 2) := by decide +kernel
theorem dX5_often_67 : decode cX5_often 67 = .ok (.if_icmp .ne 70, 3) := by decide +kernel
theorem dX5_often_70 : decode cX5_often 70 = .ok (.aload_n 0, 1) := by decide +kernel
theorem dX5_often_71 : decode cX5_often 71 = .ok (.getfield 44, 3) := by decide +kernel
theorem dX5_often_74 : decode cX5_often 74 = .ok (.getfield 60, 3) := by decide +kernel
theorem dX5_often_77 : decode cX5_often 77 = .ok (.iload_n 2, 1) := by decide +kernel
theorem dX5_often_78 : decode cX5_often 78 = .ok (.iload 7, 2) := by decide +kernel
theorem dX5_often_80 : decode cX5_often 80 = .ok (.iastore, 1) := by decide +kernel
theorem dX5_often_81 : decode cX5_often 81 = .ok (.aload_n 0, 1) := by decide +kernel
theorem dX5_often_82 : decode cX5_often 82 = .ok (.getfield 44, 3) := by decide +kernel
theorem dX5_often_85 : decode cX5_often 85 = .ok (.iload_n 1, 1) := by decide +kernel
theorem dX5_often_86 : decode cX5_often 86 = .ok (.iload_n 1, 1) := by decide +kernel
theorem dX5_often_87 : decode cX5_often 87 = .ok (.iconst 0, 1) := by decide +kernel
theorem dX5_often_88 : decode cX5_often 88 = .ok (.invokevirtual 140, 3) := by decide +kernel
theorem dX5_often_91 : decode cX5_often 91 = .ok (.astore 8, 2) := by decide +kernel
theorem dX5_often_93 : decode cX5_often 93 = .ok (.aload 8, 2) := by decide +kernel
theorem dX5_often_95 : decode cX5_often 95 = .ok (.iload_n 2, 1) := by decide +kernel
theorem dX5_often_96 : decode cX5_often 96 = .ok (.iload_n 1, 1) := by decide +kernel
theorem dX5_often_97 : decode cX5_often 97 = .ok (.iload_n 2, 1) := by decide +kernel
theorem dX5_often_98 : decode cX5_often 98 = .ok (.invokestatic 178, 3) := by decide +kernel
theorem dX5_often_101 : decode cX5_often 101 = .ok (.invokestatic 174, 3) := by decide +kernel
theorem dX5_often_104 : decode cX5_often 104 = .ok (.lstore 9, 2) := by decide +kernel
theorem dX5_often_106 : decode cX5_often 106 = .ok (.lload 9, 2) := by decide +kernel
theorem dX5_often_108 : decode cX5_often 108 = .ok (.ldc2_w 182, 3) := by decide +kernel
theorem dX5_often_111 : decode cX5_often 111 = .ok (.lmul, 1) := by decide +kernel
theorem dX5_often_112 : decode cX5_often 112 = .ok (.iload_n 3, 1) := by decide +kernel
theorem dX5_often_113 : decode cX5_often 113 = .ok (.i2l, 1) := by decide +kernel
theorem dX5_often_114 : decode cX5_often 114 = .ok (.aload_n 0, 1) := by decide +kernel
theorem dX5_often_115 : decode cX5_often 115 = .ok (.getfield 44, 3) := by decide +kernel
theorem dX5_often_118 : decode cX5_often 118 = .ok (.iconst 1, 1) := by decide +kernel
theorem dX5_often_119 : decode cX5_often 119 = .ok (.invokevirtual 144, 3) := by decide +kernel
theorem dX5_often_122 : decode cX5_often 122 = .ok (.lmul, 1) := by decide +kernel
theorem dX5_often_123 : decode cX5_often 123 = .ok (.lcmp, 1) := by decide +kernel
theorem dX5_often_124 : decode cX5_often 124 = .ok (.ifCond .lt 7, 3) := by decide +kernel
theorem dX5_often_127 : decode cX5_often 127 = .ok (.iload 7, 2) := by decide +kernel
theorem dX5_often_129 : decode cX5_often 129 = .ok (.istore 6, 2) := by decide +kernel
theorem dX5_often_131 : decode cX5_often 131 = .ok (.iinc 7 1, 3) := by decide +kernel
theorem dX5_often_134 : decode cX5_often 134 = .ok (.goto (-77), 3) := by decide +kernel
theorem dX5_often_137 : decode cX5_often 137 = .ok (.aload_n 0, 1) := by decide +kernel
theorem dX5_often_138 : decode cX5_often 138 = .ok (.getfield 44, 3) := by decide +kernel
theorem dX5_often_141 : decode cX5_often 141 = .ok (.getfield 60, 3) := by decide +kernel
theorem dX5_often_144 : decode cX5_often 144 = .ok (.iload_n 2, 1) := by decide +kernel
theorem dX5_often_145 : decode cX5_often 145 = .ok (.iload 5, 2) := by decide +kernel
theorem dX5_often_147 : decode cX5_often 147 = .ok (.iastore, 1) := by decide +kernel
theorem dX5_often_148 : decode cX5_often 148 = .ok (.iload 6, 2) := by decide +kernel
theorem dX5_often_150 : decode cX5_often 150 = .ok (.ireturn, 1) := by decide +kernel
theorem dX5_chosen_0 : decode cX5_chosen 0 = .ok (.iload_n 1, 1) := by decide +kernel
theorem dX5_chosen_1 : decode cX5_chosen 1 = .ok (.invokestatic 103, 3) := by decide +kernel
theorem dX5_chosen_4 : decode cX5_chosen 4 = .ok (.ifCond .ne 5, 3) := by decide +kernel
theorem dX5_chosen_7 : decode cX5_chosen 7 = .ok (.iconst (-1), 1) := by decide +kernel
theorem dX5_chosen_8 : decode cX5_chosen 8 = .ok (.ireturn, 1) := by decide +kernel
theorem dX5_chosen_9 : decode cX5_chosen 9 = .ok (.aload_n 0, 1) := by decide +kernel
theorem dX5_chosen_10 : decode cX5_chosen 10 = .ok (.getfield 35, 3) := by decide +kernel
theorem dX5_chosen_13 : decode cX5_chosen 13 = .ok (.iload_n 1, 1) := by decide +kernel
theorem dX5_chosen_14 : decode cX5_chosen 14 = .ok (.invokevirtual 184, 3) := by decide +kernel
theorem dX5_chosen_17 : decode cX5_chosen 17 = .ok (.istore_n 3, 1) := by decide +kernel
theorem dX5_chosen_18 : decode cX5_chosen 18 = .ok (.iload_n 3, 1) := by decide +kernel
theorem dX5_chosen_19 : decode cX5_chosen 19 = .ok (.bipush (-6), 2) := by decide +kernel
theorem dX5_chosen_21 : decode cX5_chosen 21 = .ok (.if_icmp .ne 6, 3) := by decide +kernel
theorem dX5_chosen_24 : decode cX5_chosen 24 = .ok (.bipush (-6), 2) := by decide +kernel
theorem dX5_chosen_26 : decode cX5_chosen 26 = .ok (.ireturn, 1) := by decide +kernel
theorem dX5_chosen_27 : decode cX5_chosen 27 = .ok (.aload_n 0, 1) := by decide +kernel
theorem dX5_chosen_28 : decode cX5_chosen 28 = .ok (.getfield 35, 3) := by decide +kernel
theorem dX5_chosen_31 : decode cX5_chosen 31 = .ok (.iload_n 3, 1) := by decide +kernel
theorem dX5_chosen_32 : decode cX5_chosen 32 = .ok (.invokevirtual 187, 3) := by decide +kernel
theorem dX5_chosen_35 : decode cX5_chosen 35 = .ok (.istore 4, 2) := by decide +kernel
theorem dX5_chosen_37 : decode cX5_chosen 37 = .ok (.iload_n 2, 1) := by decide +kernel
theorem dX5_chosen_38 : decode cX5_chosen 38 = .ok (.iconst (-1), 1) := by decide +kernel
theorem dX5_chosen_39 : decode cX5_chosen 39 = .ok (.if_icmp .ne 6, 3) := by decide +kernel
theorem dX5_chosen_42 : decode cX5_chosen 42 = .ok (.iload 4, 2) := by decide +kernel
theorem dX5_chosen_44 : decode cX5_chosen 44 = .ok (.ireturn, 1) := by decide +kernel
theorem dX5_chosen_45 : decode cX5_chosen 45 = .ok (.iload_n 2, 1) := by decide +kernel
theorem dX5_chosen_46 : decode cX5_chosen 46 = .ok (.iconst 0, 1) := by decide +kernel
theorem dX5_chosen_47 : decode cX5_chosen 47 = .ok (.iload 4, 2) := by decide +kernel
theorem dX5_chosen_49 : decode cX5_chosen 49 = .ok (.iconst 1, 1) := by decide +kernel
theorem dX5_chosen_50 : decode cX5_chosen 50 = .ok (.isub, 1) := by decide +kernel
theorem dX5_chosen_51 : decode cX5_chosen 51 = .ok (.invokestatic 56, 3) := by decide +kernel
theorem dX5_chosen_54 : decode cX5_chosen 54 = .ok (.ifCond .eq 22, 3) := by decide +kernel
theorem dX5_chosen_57 : decode cX5_chosen 57 = .ok (.aload_n 0, 1) := by decide +kernel
theorem dX5_chosen_58 : decode cX5_chosen 58 = .ok (.getfield 35, 3) := by decide +kernel
theorem dX5_chosen_61 : decode cX5_chosen 61 = .ok (.iload_n 3, 1) := by decide +kernel
theorem dX5_chosen_62 : decode cX5_chosen 62 = .ok (.iload 4, 2) := by decide +kernel
theorem dX5_chosen_64 : decode cX5_chosen 64 = .ok (.iconst 1, 1) := by decide +kernel
theorem dX5_chosen_65 : decode cX5_chosen 65 = .ok (.isub, 1) := by decide +kernel
theorem dX5_chosen_66 : decode cX5_chosen 66 = .ok (.iload_n 2, 1) := by decide +kernel
theorem dX5_chosen_67 : decode cX5_chosen 67 = .ok (.isub, 1) := by decide +kernel
theorem dX5_chosen_68 : decode cX5_chosen 68 = .ok (.invokevirtual 190, 3) := by decide +kernel
theorem dX5_chosen_71 : decode cX5_chosen 71 = .ok (.iconst 2, 1) := by decide +kernel
theorem dX5_chosen_72 : decode cX5_chosen 72 = .ok (.idiv, 1) := by decide +kernel
theorem dX5_chosen_73 : decode cX5_chosen 73 = .ok (.goto 5, 3) := by decide +kernel
theorem dX5_chosen_76 : decode cX5_chosen 76 = .ok (.bipush (-6), 2) := by decide +kernel
theorem dX5_chosen_78 : decode cX5_chosen 78 = .ok (.ireturn, 1) := by decide +kernel
theorem dX5_back_0 : decode cX5_back 0 = .ok (.aload_n 0, 1) := by decide +kernel
theorem dX5_back_1 : decode cX5_back 1 = .ok (.iload_n 1, 1) := by decide +kernel
theorem dX5_back_2 : decode cX5_back 2 = .ok (.invokestatic 103, 3) := by decide +kernel
theorem dX5_back_5 : decode cX5_back 5 = .ok (.ifCond .eq 14, 3) := by decide +kernel
theorem dX5_back_8 : decode cX5_back 8 = .ok (.iload_n 3, 1) := by decide +kernel
theorem dX5_back_9 : decode cX5_back 9 = .ok (.invokestatic 103, 3) := by decide +kernel
theorem dX5_back_12 : decode cX5_back 12 = .ok (.ifCond .eq 7, 3) := by decide +kernel
theorem dX5_back_15 : decode cX5_back 15 = .ok (.iconst 1, 1) := by decide +kernel
theorem dX5_back_16 : decode cX5_back 16 = .ok (.goto 4, 3) := by decide +kernel
theorem dX5_back_19 : decode cX5_back 19 = .ok (.iconst 0, 1) := by decide +kernel
theorem dX5_back_20 : decode cX5_back 20 = .ok (.iload 4, 2) := by decide +kernel
theorem dX5_back_22 : decode cX5_back 22 = .ok (.invokestatic 123, 3) := by decide +kernel
theorem dX5_back_25 : decode cX5_back 25 = .ok (.iload_n 2, 1) := by decide +kernel
theorem dX5_back_26 : decode cX5_back 26 = .ok (.invokevirtual 151, 3) := by decide +kernel
theorem dX5_back_29 : decode cX5_back 29 = .ok (.istore 5, 2) := by decide +kernel
theorem dX5_back_31 : decode cX5_back 31 = .ok (.iload 5, 2) := by decide +kernel
theorem dX5_back_33 : decode cX5_back 33 = .ok (.ifCond .eq 11, 3) := by decide +kernel
theorem dX5_back_36 : decode cX5_back 36 = .ok (.ldc2_w 130, 3) := by decide +kernel
theorem dX5_back_39 : decode cX5_back 39 = .ok (.iload 5, 2) := by decide +kernel
theorem dX5_back_41 : decode cX5_back 41 = .ok (.i2l, 1) := by decide +kernel
theorem dX5_back_42 : decode cX5_back 42 = .ok (.ladd, 1) := by decide +kernel
theorem dX5_back_43 : decode cX5_back 43 = .ok (.lreturn, 1) := by decide +kernel
theorem dX5_back_44 : decode cX5_back 44 = .ok (.aload_n 0, 1) := by decide +kernel
theorem dX5_back_45 : decode cX5_back 45 = .ok (.getfield 44, 3) := by decide +kernel
theorem dX5_back_48 : decode cX5_back 48 = .ok (.invokevirtual 155, 3) := by decide +kernel
theorem dX5_back_51 : decode cX5_back 51 = .ok (.aload_n 0, 1) := by decide +kernel
theorem dX5_back_52 : decode cX5_back 52 = .ok (.getfield 44, 3) := by decide +kernel
theorem dX5_back_55 : decode cX5_back 55 = .ok (.iload_n 1, 1) := by decide +kernel
theorem dX5_back_56 : decode cX5_back 56 = .ok (.iload_n 2, 1) := by decide +kernel
theorem dX5_back_57 : decode cX5_back 57 = .ok (.invokevirtual 193, 3) := by decide +kernel
theorem dX5_back_60 : decode cX5_back 60 = .ok (.astore 6, 2) := by decide +kernel
theorem dX5_back_62 : decode cX5_back 62 = .ok (.lconst 0, 1) := by decide +kernel
theorem dX5_back_63 : decode cX5_back 63 = .ok (.lstore 7, 2) := by decide +kernel
theorem dX5_back_65 : decode cX5_back 65 = .ok (.iconst 0, 1) := by decide +kernel
theorem dX5_back_66 : decode cX5_back 66 = .ok (.istore 9, 2) := by decide +kernel
theorem dX5_back_68 : decode cX5_back 68 = .ok (.iload 9, 2) := by decide +kernel
theorem dX5_back_70 : decode cX5_back 70 = .ok (.bipush 8, 2) := by decide +kernel
theorem dX5_back_72 : decode cX5_back 72 = .ok (.if_icmp .ge 19, 3) := by decide +kernel
theorem dX5_back_75 : decode cX5_back 75 = .ok (.lload 7, 2) := by decide +kernel
theorem dX5_back_77 : decode cX5_back 77 = .ok (.aload 6, 2) := by decide +kernel
theorem dX5_back_79 : decode cX5_back 79 = .ok (.iload 9, 2) := by decide +kernel
theorem dX5_back_81 : decode cX5_back 81 = .ok (.laload, 1) := by decide +kernel
theorem dX5_back_82 : decode cX5_back 82 = .ok (.ladd, 1) := by decide +kernel
theorem dX5_back_83 : decode cX5_back 83 = .ok (.lstore 7, 2) := by decide +kernel
theorem dX5_back_85 : decode cX5_back 85 = .ok (.iinc 9 1, 3) := by decide +kernel
theorem dX5_back_88 : decode cX5_back 88 = .ok (.goto (-20), 3) := by decide +kernel
theorem dX5_back_91 : decode cX5_back 91 = .ok (.aload 6, 2) := by decide +kernel
theorem dX5_back_93 : decode cX5_back 93 = .ok (.iload_n 3, 1) := by decide +kernel
theorem dX5_back_94 : decode cX5_back 94 = .ok (.laload, 1) := by decide +kernel
theorem dX5_back_95 : decode cX5_back 95 = .ok (.lload 7, 2) := by decide +kernel
theorem dX5_back_97 : decode cX5_back 97 = .ok (.iload 4, 2) := by decide +kernel
theorem dX5_back_99 : decode cX5_back 99 = .ok (.invokestatic 132, 3) := by decide +kernel
theorem dX5_back_102 : decode cX5_back 102 = .ok (.lreturn, 1) := by decide +kernel
theorem dX5_guess_0 : decode cX5_guess 0 = .ok (.aload_n 0, 1) := by decide +kernel
theorem dX5_guess_1 : decode cX5_guess 1 = .ok (.iload_n 1, 1) := by decide +kernel
theorem dX5_guess_2 : decode cX5_guess 2 = .ok (.invokestatic 103, 3) := by decide +kernel
theorem dX5_guess_5 : decode cX5_guess 5 = .ok (.iload_n 3, 1) := by decide +kernel
theorem dX5_guess_6 : decode cX5_guess 6 = .ok (.iconst 0, 1) := by decide +kernel
theorem dX5_guess_7 : decode cX5_guess 7 = .ok (.iconst 1, 1) := by decide +kernel
theorem dX5_guess_8 : decode cX5_guess 8 = .ok (.invokestatic 56, 3) := by decide +kernel
theorem dX5_guess_11 : decode cX5_guess 11 = .ok (.iload_n 2, 1) := by decide +kernel
theorem dX5_guess_12 : decode cX5_guess 12 = .ok (.invokevirtual 151, 3) := by decide +kernel
theorem dX5_guess_15 : decode cX5_guess 15 = .ok (.istore 4, 2) := by decide +kernel
theorem dX5_guess_17 : decode cX5_guess 17 = .ok (.iload 4, 2) := by decide +kernel
theorem dX5_guess_19 : decode cX5_guess 19 = .ok (.ifCond .eq 6, 3) := by decide +kernel
theorem dX5_guess_22 : decode cX5_guess 22 = .ok (.iload 4, 2) := by decide +kernel
theorem dX5_guess_24 : decode cX5_guess 24 = .ok (.ireturn, 1) := by decide +kernel
theorem dX5_guess_25 : decode cX5_guess 25 = .ok (.aload_n 0, 1) := by decide +kernel
theorem dX5_guess_26 : decode cX5_guess 26 = .ok (.getfield 44, 3) := by decide +kernel
theorem dX5_guess_29 : decode cX5_guess 29 = .ok (.invokevirtual 155, 3) := by decide +kernel
theorem dX5_guess_32 : decode cX5_guess 32 = .ok (.aload_n 0, 1) := by decide +kernel
theorem dX5_guess_33 : decode cX5_guess 33 = .ok (.getfield 44, 3) := by decide +kernel
theorem dX5_guess_36 : decode cX5_guess 36 = .ok (.iload_n 1, 1) := by decide +kernel
