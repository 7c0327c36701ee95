theorem dX0_init_0 : decode cX0_init 0 = .ok (.aload_n 0, 1) := by decide +kernel
theorem dX0_init_1 : decode cX0_init 1 = .ok (.invokespecial 3, 3) := by decide +kernel
theorem dX0_init_4 : decode cX0_init 4 = .ok (.aload_n 0, 1) := by decide +kernel
theorem dX0_init_5 : decode cX0_init 5 = .ok (.sipush 143, 3) := by decide +kernel
theorem dX0_init_8 : decode cX0_init 8 = .ok (.newarray .long, 2) := by decide +kernel
theorem dX0_init_10 : decode cX0_init 10 = .ok (.putfield 9, 3) := by decide +kernel
theorem dX0_init_13 : decode cX0_init 13 = .ok (.aload_n 0, 1) := by decide +kernel
theorem dX0_init_14 : decode cX0_init 14 = .ok (.sipush 28080, 3) := by decide +kernel
theorem dX0_init_17 : decode cX0_init 17 = .ok (.newarray .long, 2) := by decide +kernel
theorem dX0_init_19 : decode cX0_init 19 = .ok (.putfield 15, 3) := by decide +kernel
theorem dX0_init_22 : decode cX0_init 22 = .ok (.aload_n 0, 1) := by decide +kernel
theorem dX0_init_23 : decode cX0_init 23 = .ok (.aload_n 1, 1) := by decide +kernel
theorem dX0_init_24 : decode cX0_init 24 = .ok (.putfield 18, 3) := by decide +kernel
theorem dX0_init_27 : decode cX0_init 27 = .ok (.return_, 1) := by decide +kernel
theorem dX0_learn_0 : decode cX0_learn 0 = .ok (.aload_n 0, 1) := by decide +kernel
theorem dX0_learn_1 : decode cX0_learn 1 = .ok (.getfield 15, 3) := by decide +kernel
theorem dX0_learn_4 : decode cX0_learn 4 = .ok (.lconst 0, 1) := by decide +kernel
theorem dX0_learn_5 : decode cX0_learn 5 = .ok (.invokestatic 22, 3) := by decide +kernel
theorem dX0_learn_8 : decode cX0_learn 8 = .ok (.iconst 1, 1) := by decide +kernel
theorem dX0_learn_9 : decode cX0_learn 9 = .ok (.istore_n 1, 1) := by decide +kernel
theorem dX0_learn_10 : decode cX0_learn 10 = .ok (.iload_n 1, 1) := by decide +kernel
theorem dX0_learn_11 : decode cX0_learn 11 = .ok (.bipush 12, 2) := by decide +kernel
theorem dX0_learn_13 : decode cX0_learn 13 = .ok (.if_icmp .gt 65, 3) := by decide +kernel
theorem dX0_learn_16 : decode cX0_learn 16 = .ok (.iconst 1, 1) := by decide +kernel
theorem dX0_learn_17 : decode cX0_learn 17 = .ok (.istore_n 2, 1) := by decide +kernel
theorem dX0_learn_18 : decode cX0_learn 18 = .ok (.iload_n 2, 1) := by decide +kernel
theorem dX0_learn_19 : decode cX0_learn 19 = .ok (.bipush 10, 2) := by decide +kernel
theorem dX0_learn_21 : decode cX0_learn 21 = .ok (.if_icmp .gt 51, 3) := by decide +kernel
theorem dX0_learn_24 : decode cX0_learn 24 = .ok (.lconst 0, 1) := by decide +kernel
theorem dX0_learn_25 : decode cX0_learn 25 = .ok (.lstore_n 3, 1) := by decide +kernel
theorem dX0_learn_26 : decode cX0_learn 26 = .ok (.iconst 0, 1) := by decide +kernel
theorem dX0_learn_27 : decode cX0_learn 27 = .ok (.istore 5, 2) := by decide +kernel
theorem dX0_learn_29 : decode cX0_learn 29 = .ok (.iload 5, 2) := by decide +kernel
theorem dX0_learn_31 : decode cX0_learn 31 = .ok (.iconst 4, 1) := by decide +kernel
theorem dX0_learn_32 : decode cX0_learn 32 = .ok (.if_icmp .ge 22, 3) := by decide +kernel
theorem dX0_learn_35 : decode cX0_learn 35 = .ok (.lload_n 3, 1) := by decide +kernel
theorem dX0_learn_36 : decode cX0_learn 36 = .ok (.aload_n 0, 1) := by decide +kernel
theorem dX0_learn_37 : decode cX0_learn 37 = .ok (.iload 5, 2) := by decide +kernel
theorem dX0_learn_39 : decode cX0_learn 39 = .ok (.iload_n 1, 1) := by decide +kernel
theorem dX0_learn_40 : decode cX0_learn 40 = .ok (.iload_n 2, 1) := by decide +kernel
theorem dX0_learn_41 : decode cX0_learn 41 = .ok (.invokevirtual 28, 3) := by decide +kernel
theorem dX0_learn_44 : decode cX0_learn 44 = .ok (.invokestatic 32, 3) := by decide +kernel
theorem dX0_learn_47 : decode cX0_learn 47 = .ok (.lstore_n 3, 1) := by decide +kernel
theorem dX0_learn_48 : decode cX0_learn 48 = .ok (.iinc 5 1, 3) := by decide +kernel
theorem dX0_learn_51 : decode cX0_learn 51 = .ok (.goto (-22), 3) := by decide +kernel
theorem dX0_learn_54 : decode cX0_learn 54 = .ok (.aload_n 0, 1) := by decide +kernel
theorem dX0_learn_55 : decode cX0_learn 55 = .ok (.getfield 9, 3) := by decide +kernel
theorem dX0_learn_58 : decode cX0_learn 58 = .ok (.iload_n 1, 1) := by decide +kernel
theorem dX0_learn_59 : decode cX0_learn 59 = .ok (.bipush 11, 2) := by decide +kernel
theorem dX0_learn_61 : decode cX0_learn 61 = .ok (.imul, 1) := by decide +kernel
theorem dX0_learn_62 : decode cX0_learn 62 = .ok (.iload_n 2, 1) := by decide +kernel
theorem dX0_learn_63 : decode cX0_learn 63 = .ok (.iadd, 1) := by decide +kernel
theorem dX0_learn_64 : decode cX0_learn 64 = .ok (.lload_n 3, 1) := by decide +kernel
theorem dX0_learn_65 : decode cX0_learn 65 = .ok (.lastore, 1) := by decide +kernel
theorem dX0_learn_66 : decode cX0_learn 66 = .ok (.iinc 2 1, 3) := by decide +kernel
theorem dX0_learn_69 : decode cX0_learn 69 = .ok (.goto (-51), 3) := by decide +kernel
theorem dX0_learn_72 : decode cX0_learn 72 = .ok (.iinc 1 1, 3) := by decide +kernel
theorem dX0_learn_75 : decode cX0_learn 75 = .ok (.goto (-65), 3) := by decide +kernel
theorem dX0_learn_78 : decode cX0_learn 78 = .ok (.return_, 1) := by decide +kernel
theorem dX0_mean_0 : decode cX0_mean 0 = .ok (.iload_n 1, 1) := by decide +kernel
theorem dX0_mean_1 : decode cX0_mean 1 = .ok (.iconst 0, 1) := by decide +kernel
theorem dX0_mean_2 : decode cX0_mean 2 = .ok (.bipush 12, 2) := by decide +kernel
theorem dX0_mean_4 : decode cX0_mean 4 = .ok (.invokestatic 38, 3) := by decide +kernel
theorem dX0_mean_7 : decode cX0_mean 7 = .ok (.ifCond .eq 13, 3) := by decide +kernel
theorem dX0_mean_10 : decode cX0_mean 10 = .ok (.iload_n 2, 1) := by decide +kernel
theorem dX0_mean_11 : decode cX0_mean 11 = .ok (.iconst 0, 1) := by decide +kernel
theorem dX0_mean_12 : decode cX0_mean 12 = .ok (.bipush 10, 2) := by decide +kernel
theorem dX0_mean_14 : decode cX0_mean 14 = .ok (.invokestatic 38, 3) := by decide +kernel
theorem dX0_mean_17 : decode cX0_mean 17 = .ok (.ifCond .ne 5, 3) := by decide +kernel
theorem dX0_mean_20 : decode cX0_mean 20 = .ok (.lconst 0, 1) := by decide +kernel
theorem dX0_mean_21 : decode cX0_mean 21 = .ok (.lreturn, 1) := by decide +kernel
theorem dX0_mean_22 : decode cX0_mean 22 = .ok (.aload_n 0, 1) := by decide +kernel
theorem dX0_mean_23 : decode cX0_mean 23 = .ok (.getfield 9, 3) := by decide +kernel
theorem dX0_mean_26 : decode cX0_mean 26 = .ok (.iload_n 1, 1) := by decide +kernel
theorem dX0_mean_27 : decode cX0_mean 27 = .ok (.bipush 11, 2) := by decide +kernel
theorem dX0_mean_29 : decode cX0_mean 29 = .ok (.imul, 1) := by decide +kernel
theorem dX0_mean_30 : decode cX0_mean 30 = .ok (.iload_n 2, 1) := by decide +kernel
theorem dX0_mean_31 : decode cX0_mean 31 = .ok (.iadd, 1) := by decide +kernel
theorem dX0_mean_32 : decode cX0_mean 32 = .ok (.laload, 1) := by decide +kernel
theorem dX0_mean_33 : decode cX0_mean 33 = .ok (.lreturn, 1) := by decide +kernel
theorem dX0_meanIn_0 : decode cX0_meanIn 0 = .ok (.lconst 0, 1) := by decide +kernel
theorem dX0_meanIn_1 : decode cX0_meanIn 1 = .ok (.lstore 4, 2) := by decide +kernel
theorem dX0_meanIn_3 : decode cX0_meanIn 3 = .ok (.iconst 0, 1) := by decide +kernel
theorem dX0_meanIn_4 : decode cX0_meanIn 4 = .ok (.istore 6, 2) := by decide +kernel
theorem dX0_meanIn_6 : decode cX0_meanIn 6 = .ok (.iload 6, 2) := by decide +kernel
theorem dX0_meanIn_8 : decode cX0_meanIn 8 = .ok (.aload_n 0, 1) := by decide +kernel
theorem dX0_meanIn_9 : decode cX0_meanIn 9 = .ok (.getfield 18, 3) := by decide +kernel
theorem dX0_meanIn_12 : decode cX0_meanIn 12 = .ok (.iload_n 1, 1) := by decide +kernel
theorem dX0_meanIn_13 : decode cX0_meanIn 13 = .ok (.invokevirtual 42, 3) := by decide +kernel
theorem dX0_meanIn_16 : decode cX0_meanIn 16 = .ok (.if_icmp .ge 75, 3) := by decide +kernel
theorem dX0_meanIn_19 : decode cX0_meanIn 19 = .ok (.aload_n 0, 1) := by decide +kernel
theorem dX0_meanIn_20 : decode cX0_meanIn 20 = .ok (.getfield 18, 3) := by decide +kernel
theorem dX0_meanIn_23 : decode cX0_meanIn 23 = .ok (.iload_n 1, 1) := by decide +kernel
theorem dX0_meanIn_24 : decode cX0_meanIn 24 = .ok (.iload 6, 2) := by decide +kernel
theorem dX0_meanIn_26 : decode cX0_meanIn 26 = .ok (.iconst 0, 1) := by decide +kernel
theorem dX0_meanIn_27 : decode cX0_meanIn 27 = .ok (.invokevirtual 48, 3) := by decide +kernel
theorem dX0_meanIn_30 : decode cX0_meanIn 30 = .ok (.i2l, 1) := by decide +kernel
theorem dX0_meanIn_31 : decode cX0_meanIn 31 = .ok (.iload_n 2, 1) := by decide +kernel
theorem dX0_meanIn_32 : decode cX0_meanIn 32 = .ok (.iconst 1, 1) := by decide +kernel
theorem dX0_meanIn_33 : decode cX0_meanIn 33 = .ok (.isub, 1) := by decide +kernel
theorem dX0_meanIn_34 : decode cX0_meanIn 34 = .ok (.invokestatic 52, 3) := by decide +kernel
theorem dX0_meanIn_37 : decode cX0_meanIn 37 = .ok (.lmul, 1) := by decide +kernel
theorem dX0_meanIn_38 : decode cX0_meanIn 38 = .ok (.lstore 7, 2) := by decide +kernel
theorem dX0_meanIn_40 : decode cX0_meanIn 40 = .ok (.aload_n 0, 1) := by decide +kernel
theorem dX0_meanIn_41 : decode cX0_meanIn 41 = .ok (.iload_n 2, 1) := by decide +kernel
theorem dX0_meanIn_42 : decode cX0_meanIn 42 = .ok (.iconst 1, 1) := by decide +kernel
theorem dX0_meanIn_43 : decode cX0_meanIn 43 = .ok (.isub, 1) := by decide +kernel
theorem dX0_meanIn_44 : decode cX0_meanIn 44 = .ok (.iload_n 3, 1) := by decide +kernel
theorem dX0_meanIn_45 : decode cX0_meanIn 45 = .ok (.aload_n 0, 1) := by decide +kernel
theorem dX0_meanIn_46 : decode cX0_meanIn 46 = .ok (.getfield 18, 3) := by decide +kernel
theorem dX0_meanIn_49 : decode cX0_meanIn 49 = .ok (.iload_n 1, 1) := by decide +kernel
theorem dX0_meanIn_50 : decode cX0_meanIn 50 = .ok (.iload 6, 2) := by decide +kernel
theorem dX0_meanIn_52 : decode cX0_meanIn 52 = .ok (.iconst 1, 1) := by decide +kernel
theorem dX0_meanIn_53 : decode cX0_meanIn 53 = .ok (.invokevirtual 48, 3) := by decide +kernel
theorem dX0_meanIn_56 : decode cX0_meanIn 56 = .ok (.isub, 1) := by decide +kernel
theorem dX0_meanIn_57 : decode cX0_meanIn 57 = .ok (.invokevirtual 56, 3) := by decide +kernel
theorem dX0_meanIn_60 : decode cX0_meanIn 60 = .ok (.lstore 9, 2) := by decide +kernel
theorem dX0_meanIn_62 : decode cX0_meanIn 62 = .ok (.lload 4, 2) := by decide +kernel
theorem dX0_meanIn_64 : decode cX0_meanIn 64 = .ok (.aload_n 0, 1) := by decide +kernel
theorem dX0_meanIn_65 : decode cX0_meanIn 65 = .ok (.getfield 18, 3) := by decide +kernel
theorem dX0_meanIn_68 : decode cX0_meanIn 68 = .ok (.iload_n 1, 1) := by decide +kernel
theorem dX0_meanIn_69 : decode cX0_meanIn 69 = .ok (.iload 6, 2) := by decide +kernel
theorem dX0_meanIn_71 : decode cX0_meanIn 71 = .ok (.iconst 2, 1) := by decide +kernel
theorem dX0_meanIn_72 : decode cX0_meanIn 72 = .ok (.invokevirtual 48, 3) := by decide +kernel
theorem dX0_meanIn_75 : decode cX0_meanIn 75 = .ok (.i2l, 1) := by decide +kernel
theorem dX0_meanIn_76 : decode cX0_meanIn 76 = .ok (.lload 7, 2) := by decide +kernel
theorem dX0_meanIn_78 : decode cX0_meanIn 78 = .ok (.lload 9, 2) := by decide +kernel
theorem dX0_meanIn_80 : decode cX0_meanIn 80 = .ok (.ladd, 1) := by decide +kernel
theorem dX0_meanIn_81 : decode cX0_meanIn 81 = .ok (.lmul, 1) := by decide +kernel
theorem dX0_meanIn_82 : decode cX0_meanIn 82 = .ok (.ladd, 1) := by decide +kernel
theorem dX0_meanIn_83 : decode cX0_meanIn 83 = .ok (.lstore 4, 2) := by decide +kernel
theorem dX0_meanIn_85 : decode cX0_meanIn 85 = .ok (.iinc 6 1, 3) := by decide +kernel
theorem dX0_meanIn_88 : decode cX0_meanIn 88 = .ok (.goto (-82), 3) := by decide +kernel
theorem dX0_meanIn_91 : decode cX0_meanIn 91 = .ok (.lload 4, 2) := by decide +kernel
theorem dX0_meanIn_93 : decode cX0_meanIn 93 = .ok (.lreturn, 1) := by decide +kernel
theorem dX0_chance_0 : decode cX0_chance 0 = .ok (.iload_n 3, 1) := by decide +kernel
theorem dX0_chance_1 : decode cX0_chance 1 = .ok (.ifCond .gt 8, 3) := by decide +kernel
theorem dX0_chance_4 : decode cX0_chance 4 = .ok (.iload_n 1, 1) := by decide +kernel
theorem dX0_chance_5 : decode cX0_chance 5 = .ok (.invokestatic 52, 3) := by decide +kernel
theorem dX0_chance_8 : decode cX0_chance 8 = .ok (.lreturn, 1) := by decide +kernel
theorem dX0_chance_9 : decode cX0_chance 9 = .ok (.iload_n 1, 1) := by decide +kernel
theorem dX0_chance_10 : decode cX0_chance 10 = .ok (.iconst 1, 1) := by decide +kernel
theorem dX0_chance_11 : decode cX0_chance 11 = .ok (.bipush 12, 2) := by decide +kernel
theorem dX0_chance_13 : decode cX0_chance 13 = .ok (.invokestatic 38, 3) := by decide +kernel
theorem dX0_chance_16 : decode cX0_chance 16 = .ok (.ifCond .eq 21, 3) := by decide +kernel
theorem dX0_chance_19 : decode cX0_chance 19 = .ok (.iload_n 2, 1) := by decide +kernel
theorem dX0_chance_20 : decode cX0_chance 20 = .ok (.iconst 1, 1) := by decide +kernel
theorem dX0_chance_21 : decode cX0_chance 21 = .ok (.bipush 10, 2) := by decide +kernel
theorem dX0_chance_23 : decode cX0_chance 23 = .ok (.invokestatic 38, 3) := by decide +kernel
theorem dX0_chance_26 : decode cX0_chance 26 = .ok (.ifCond .eq 11, 3) := by decide +kernel
theorem dX0_chance_29 : decode cX0_chance 29 = .ok (.iload_n 3, 1) := by decide +kernel
theorem dX0_chance_30 : decode cX0_chance 30 = .ok (.bipush 36, 2) := by decide +kernel
theorem dX0_chance_32 : decode cX0_chance 32 = .ok (.iload_n 1, 1) := by decide +kernel
theorem dX0_chance_33 : decode cX0_chance 33 = .ok (.imul, 1) := by decide +kernel
theorem dX0_chance_34 : decode cX0_chance 34 = .ok (.if_icmp .le 5, 3) := by decide +kernel
theorem dX0_chance_37 : decode cX0_chance 37 = .ok (.lconst 0, 1) := by decide +kernel
theorem dX0_chance_38 : decode cX0_chance 38 = .ok (.lreturn, 1) := by decide +kernel
theorem dX0_chance_39 : decode cX0_chance 39 = .ok (.iload_n 2, 1) := by decide +kernel
theorem dX0_chance_40 : decode cX0_chance 40 = .ok (.iconst 1, 1) := by decide +kernel
theorem dX0_chance_41 : decode cX0_chance 41 = .ok (.isub, 1) := by decide +kernel
theorem dX0_chance_42 : decode cX0_chance 42 = .ok (.sipush 2808, 3) := by decide +kernel
theorem dX0_chance_45 : decode cX0_chance 45 = .ok (.imul, 1) := by decide +kernel
theorem dX0_chance_46 : decode cX0_chance 46 = .ok (.bipush 36, 2) := by decide +kernel
theorem dX0_chance_48 : decode cX0_chance 48 = .ok (.iload_n 1, 1) := by decide +kernel
theorem dX0_chance_49 : decode cX0_chance 49 = .ok (.imul, 1) := by decide +kernel
theorem dX0_chance_50 : decode cX0_chance 50 = .ok (.iload_n 1, 1) := by decide +kernel
theorem dX0_chance_51 : decode cX0_chance 51 = .ok (.iconst 1, 1) := by decide +kernel
theorem dX0_chance_52 : decode cX0_chance 52 = .ok (.isub, 1) := by decide +kernel
theorem dX0_chance_53 : decode cX0_chance 53 = .ok (.imul, 1) := by decide +kernel
theorem dX0_chance_54 : decode cX0_chance 54 = .ok (.iconst 2, 1) := by decide +kernel
theorem dX0_chance_55 : decode cX0_chance 55 = .ok (.idiv, 1) := by decide +kernel
theorem dX0_chance_56 : decode cX0_chance 56 = .ok (.iadd, 1) := by decide +kernel
theorem dX0_chance_57 : decode cX0_chance 57 = .ok (.iload_n 3, 1) := by decide +kernel
theorem dX0_chance_58 : decode cX0_chance 58 = .ok (.iadd, 1) := by decide +kernel
theorem dX0_chance_59 : decode cX0_chance 59 = .ok (.iconst 1, 1) := by decide +kernel
theorem dX0_chance_60 : decode cX0_chance 60 = .ok (.isub, 1) := by decide +kernel
theorem dX0_chance_61 : decode cX0_chance 61 = .ok (.istore 4, 2) := by decide +kernel
theorem dX0_chance_63 : decode cX0_chance 63 = .ok (.aload_n 0, 1) := by decide +kernel
theorem dX0_chance_64 : decode cX0_chance 64 = .ok (.getfield 15, 3) := by decide +kernel
theorem dX0_chance_67 : decode cX0_chance 67 = .ok (.iload 4, 2) := by decide +kernel
theorem dX0_chance_69 : decode cX0_chance 69 = .ok (.laload, 1) := by decide +kernel
theorem dX0_chance_70 : decode cX0_chance 70 = .ok (.lconst 0, 1) := by decide +kernel
theorem dX0_chance_71 : decode cX0_chance 71 = .ok (.lcmp, 1) := by decide +kernel
theorem dX0_chance_72 : decode cX0_chance 72 = .ok (.ifCond .ne 48, 3) := by decide +kernel
theorem dX0_chance_75 : decode cX0_chance 75 = .ok (.lconst 0, 1) := by decide +kernel
theorem dX0_chance_76 : decode cX0_chance 76 = .ok (.lstore 5, 2) := by decide +kernel
theorem dX0_chance_78 : decode cX0_chance 78 = .ok (.iconst 0, 1) := by decide +kernel
theorem dX0_chance_79 : decode cX0_chance 79 = .ok (.istore 7, 2) := by decide +kernel
theorem dX0_chance_81 : decode cX0_chance 81 = .ok (.iload 7, 2) := by decide +kernel
theorem dX0_chance_83 : decode cX0_chance 83 = .ok (.iconst 4, 1) := by decide +kernel
theorem dX0_chance_84 : decode cX0_chance 84 = .ok (.if_icmp .ge 25, 3) := by decide +kernel
theorem dX0_chance_87 : decode cX0_chance 87 = .ok (.lload 5, 2) := by decide +kernel
theorem dX0_chance_89 : decode cX0_chance 89 = .ok (.aload_n 0, 1) := by decide +kernel
theorem dX0_chance_90 : decode cX0_chance 90 = .ok (.iload 7, 2) := by decide +kernel
theorem dX0_chance_92 : decode cX0_chance 92 = .ok (.iload_n 1, 1) := by decide +kernel
theorem dX0_chance_93 : decode cX0_chance 93 = .ok (.iload_n 2, 1) := by decide +kernel
theorem dX0_chance_94 : decode cX0_chance 94 = .ok (.iload_n 3, 1) := by decide +kernel
theorem dX0_chance_95 : decode cX0_chance 95 = .ok (.invokevirtual 60, 3) := by decide +kernel
theorem dX0_chance_98 : decode cX0_chance 98 = .ok (.invokestatic 32, 3) := by decide +kernel
theorem dX0_chance_101 : decode cX0_chance 101 = .ok (.lstore 5, 2) := by decide +kernel
theorem dX0_chance_103 : decode cX0_chance 103 = .ok (.iinc 7 1, 3) := by decide +kernel
theorem dX0_chance_106 : decode cX0_chance 106 = .ok (.goto (-25), 3) := by decide +kernel
theorem dX0_chance_109 : decode cX0_chance 109 = .ok (.aload_n 0, 1) := by decide +kernel
theorem dX0_chance_110 : decode cX0_chance 110 = .ok (.getfield 15, 3) := by decide +kernel
theorem dX0_chance_113 : decode cX0_chance 113 = .ok (.iload 4, 2) := by decide +kernel
theorem dX0_chance_115 : decode cX0_chance 115 = .ok (.lload 5, 2) := by decide +kernel
theorem dX0_chance_117 : decode cX0_chance 117 = .ok (.lconst 1, 1) := by decide +kernel
theorem dX0_chance_118 : decode cX0_chance 118 = .ok (.ladd, 1) := by decide +kernel
theorem dX0_chance_119 : decode cX0_chance 119 = .ok (.lastore, 1) := by decide +kernel
theorem dX0_chance_120 : decode cX0_chance 120 = .ok (.aload_n 0, 1) := by decide +kernel
theorem dX0_chance_121 : decode cX0_chance 121 = .ok (.getfield 15, 3) := by decide +kernel
theorem dX0_chance_124 : decode cX0_chance 124 = .ok (.iload 4, 2) := by decide +kernel
theorem dX0_chance_126 : decode cX0_chance 126 = .ok (.laload, 1) := by decide +kernel
theorem dX0_chance_127 : decode cX0_chance 127 = .ok (.lconst 1, 1) := by decide +kernel
theorem dX0_chance_128 : decode cX0_chance 128 = .ok (.lsub, 1) := by decide +kernel
theorem dX0_chance_129 : decode cX0_chance 129 = .ok (.lreturn, 1) := by decide +kernel
theorem dX0_chanceIn_0 : decode cX0_chanceIn 0 = .ok (.lconst 0, 1) := by decide +kernel
theorem dX0_chanceIn_1 : decode cX0_chanceIn 1 = .ok (.lstore 5, 2) := by decide +kernel
theorem dX0_chanceIn_3 : decode cX0_chanceIn 3 = .ok (.iconst 0, 1) := by decide +kernel
theorem dX0_chanceIn_4 : decode cX0_chanceIn 4 = .ok (.istore 7, 2) := by decide +kernel
theorem dX0_chanceIn_6 : decode cX0_chanceIn 6 = .ok (.iload 7, 2) := by decide +kernel
theorem dX0_chanceIn_8 : decode cX0_chanceIn 8 = .ok (.aload_n 0, 1) := by decide +kernel
theorem dX0_chanceIn_9 : decode cX0_chanceIn 9 = .ok (.getfield 18, 3) := by decide +kernel
theorem dX0_chanceIn_12 : decode cX0_chanceIn 12 = .ok (.iload_n 1, 1) := by decide +kernel
theorem dX0_chanceIn_13 : decode cX0_chanceIn 13 = .ok (.invokevirtual 42, 3) := by decide +kernel
theorem dX0_chanceIn_16 : decode cX0_chanceIn 16 = .ok (.if_icmp .ge 65, 3) := by decide +kernel
theorem dX0_chanceIn_19 : decode cX0_chanceIn 19 = .ok (.iload_n 3, 1) := by decide +kernel
theorem dX0_chanceIn_20 : decode cX0_chanceIn 20 = .ok (.aload_n 0, 1) := by decide +kernel
theorem dX0_chanceIn_21 : decode cX0_chanceIn 21 = .ok (.getfield 18, 3) := by decide +kernel
theorem dX0_chanceIn_24 : decode cX0_chanceIn 24 = .ok (.iload_n 1, 1) := by decide +kernel
theorem dX0_chanceIn_25 : decode cX0_chanceIn 25 = .ok (.iload 7, 2) := by decide +kernel
theorem dX0_chanceIn_27 : decode cX0_chanceIn 27 = .ok (.iconst 1, 1) := by decide +kernel
theorem dX0_chanceIn_28 : decode cX0_chanceIn 28 = .ok (.invokevirtual 48, 3) := by decide +kernel
theorem dX0_chanceIn_31 : decode cX0_chanceIn 31 = .ok (.isub, 1) := by decide +kernel
theorem dX0_chanceIn_32 : decode cX0_chanceIn 32 = .ok (.istore 8, 2) := by decide +kernel
theorem dX0_chanceIn_34 : decode cX0_chanceIn 34 = .ok (.lload 5, 2) := by decide +kernel
theorem dX0_chanceIn_36 : decode cX0_chanceIn 36 = .ok (.aload_n 0, 1) := by decide +kernel
theorem dX0_chanceIn_37 : decode cX0_chanceIn 37 = .ok (.getfield 18, 3) := by decide +kernel
theorem dX0_chanceIn_40 : decode cX0_chanceIn 40 = .ok (.iload_n 1, 1) := by decide +kernel
theorem dX0_chanceIn_41 : decode cX0_chanceIn 41 = .ok (.iload 7, 2) := by decide +kernel
theorem dX0_chanceIn_43 : decode cX0_chanceIn 43 = .ok (.iconst 2, 1) := by decide +kernel
theorem dX0_chanceIn_44 : decode cX0_chanceIn 44 = .ok (.invokevirtual 48, 3) := by decide +kernel
theorem dX0_chanceIn_47 : decode cX0_chanceIn 47 = .ok (.i2l, 1) := by decide +kernel
theorem dX0_chanceIn_48 : decode cX0_chanceIn 48 = .ok (.aload_n 0, 1) := by decide +kernel
theorem dX0_chanceIn_49 : decode cX0_chanceIn 49 = .ok (.iload_n 2, 1) := by decide +kernel
theorem dX0_chanceIn_50 : decode cX0_chanceIn 50 = .ok (.iconst 1, 1) := by decide +kernel
theorem dX0_chanceIn_51 : decode cX0_chanceIn 51 = .ok (.isub, 1) := by decide +kernel
theorem dX0_chanceIn_52 : decode cX0_chanceIn 52 = .ok (.iload 8, 2) := by decide +kernel
theorem dX0_chanceIn_54 : decode cX0_chanceIn 54 = .ok (.iload 4, 2) := by decide +kernel
theorem dX0_chanceIn_56 : decode cX0_chanceIn 56 = .ok (.aload_n 0, 1) := by decide +kernel
theorem dX0_chanceIn_57 : decode cX0_chanceIn 57 = .ok (.getfield 18, 3) := by decide +kernel
theorem dX0_chanceIn_60 : decode cX0_chanceIn 60 = .ok (.iload_n 1, 1) := by decide +kernel
theorem dX0_chanceIn_61 : decode cX0_chanceIn 61 = .ok (.iload 7, 2) := by decide +kernel
theorem dX0_chanceIn_63 : decode cX0_chanceIn 63 = .ok (.iconst 0, 1) := by decide +kernel
theorem dX0_chanceIn_64 : decode cX0_chanceIn 64 = .ok (.invokevirtual 48, 3) := by decide +kernel
theorem dX0_chanceIn_67 : decode cX0_chanceIn 67 = .ok (.isub, 1) := by decide +kernel
theorem dX0_chanceIn_68 : decode cX0_chanceIn 68 = .ok (.invokevirtual 64, 3) := by decide +kernel
theorem dX0_chanceIn_71 : decode cX0_chanceIn 71 = .ok (.lmul, 1) := by decide +kernel
theorem dX0_chanceIn_72 : decode cX0_chanceIn 72 = .ok (.ladd, 1) := by decide +kernel
theorem dX0_chanceIn_73 : decode cX0_chanceIn 73 = .ok (.lstore 5, 2) := by decide +kernel
theorem dX0_chanceIn_75 : decode cX0_chanceIn 75 = .ok (.iinc 7 1, 3) := by decide +kernel
theorem dX0_chanceIn_78 : decode cX0_chanceIn 78 = .ok (.goto (-72), 3) := by decide +kernel
theorem dX0_chanceIn_81 : decode cX0_chanceIn 81 = .ok (.lload 5, 2) := by decide +kernel
theorem dX0_chanceIn_83 : decode cX0_chanceIn 83 = .ok (.lreturn, 1) := by decide +kernel
theorem dX0_moodForMean_0 : decode cX0_moodForMean 0 = .ok (.iconst 0, 1) := by decide +kernel
theorem dX0_moodForMean_1 : decode cX0_moodForMean 1 = .ok (.istore_n 3, 1) := by decide +kernel
theorem dX0_moodForMean_2 : decode cX0_moodForMean 2 = .ok (.iload_n 3, 1) := by decide +kernel
theorem dX0_moodForMean_3 : decode cX0_moodForMean 3 = .ok (.iconst 4, 1) := by decide +kernel
theorem dX0_moodForMean_4 : decode cX0_moodForMean 4 = .ok (.if_icmp .ge 39, 3) := by decide +kernel
theorem dX0_moodForMean_7 : decode cX0_moodForMean 7 = .ok (.aload_n 0, 1) := by decide +kernel
theorem dX0_moodForMean_8 : decode cX0_moodForMean 8 = .ok (.getfield 18, 3) := by decide +kernel
theorem dX0_moodForMean_11 : decode cX0_moodForMean 11 = .ok (.iload_n 3, 1) := by decide +kernel
theorem dX0_moodForMean_12 : decode cX0_moodForMean 12 = .ok (.invokevirtual 42, 3) := by decide +kernel
theorem dX0_moodForMean_15 : decode cX0_moodForMean 15 = .ok (.ifCond .le 22, 3) := by decide +kernel
theorem dX0_moodForMean_18 : decode cX0_moodForMean 18 = .ok (.aload_n 0, 1) := by decide +kernel
theorem dX0_moodForMean_19 : decode cX0_moodForMean 19 = .ok (.iload_n 3, 1) := by decide +kernel
theorem dX0_moodForMean_20 : decode cX0_moodForMean 20 = .ok (.iload_n 1, 1) := by decide +kernel
theorem dX0_moodForMean_21 : decode cX0_moodForMean 21 = .ok (.iload_n 2, 1) := by decide +kernel
theorem dX0_moodForMean_22 : decode cX0_moodForMean 22 = .ok (.invokevirtual 28, 3) := by decide +kernel
theorem dX0_moodForMean_25 : decode cX0_moodForMean 25 = .ok (.aload_n 0, 1) := by decide +kernel
theorem dX0_moodForMean_26 : decode cX0_moodForMean 26 = .ok (.iload_n 1, 1) := by decide +kernel
theorem dX0_moodForMean_27 : decode cX0_moodForMean 27 = .ok (.iload_n 2, 1) := by decide +kernel
theorem dX0_moodForMean_28 : decode cX0_moodForMean 28 = .ok (.invokevirtual 56, 3) := by decide +kernel
theorem dX0_moodForMean_31 : decode cX0_moodForMean 31 = .ok (.lcmp, 1) := by decide +kernel
theorem dX0_moodForMean_32 : decode cX0_moodForMean 32 = .ok (.ifCond .ne 5, 3) := by decide +kernel
theorem dX0_moodForMean_35 : decode cX0_moodForMean 35 = .ok (.iload_n 3, 1) := by decide +kernel
theorem dX0_moodForMean_36 : decode cX0_moodForMean 36 = .ok (.ireturn, 1) := by decide +kernel
theorem dX0_moodForMean_37 : decode cX0_moodForMean 37 = .ok (.iinc 3 1, 3) := by decide +kernel
theorem dX0_moodForMean_40 : decode cX0_moodForMean 40 = .ok (.goto (-38), 3) := by decide +kernel
theorem dX0_moodForMean_43 : decode cX0_moodForMean 43 = .ok (.iconst (-1), 1) := by decide +kernel
theorem dX0_moodForMean_44 : decode cX0_moodForMean 44 = .ok (.ireturn, 1) := by decide +kernel
theorem dX0_moodForChance_0 : decode cX0_moodForChance 0 = .ok (.iconst 0, 1) := by decide +kernel
theorem dX0_moodForChance_1 : decode cX0_moodForChance 1 = .ok (.istore 4, 2) := by decide +kernel
theorem dX0_moodForChance_3 : decode cX0_moodForChance 3 = .ok (.iload 4, 2) := by decide +kernel
theorem dX0_moodForChance_5 : decode cX0_moodForChance 5 = .ok (.iconst 4, 1) := by decide +kernel
theorem dX0_moodForChance_6 : decode cX0_moodForChance 6 = .ok (.if_icmp .ge 44, 3) := by decide +kernel
theorem dX0_moodForChance_9 : decode cX0_moodForChance 9 = .ok (.aload_n 0, 1) := by decide +kernel
theorem dX0_moodForChance_10 : decode cX0_moodForChance 10 = .ok (.getfield 18, 3) := by decide +kernel
theorem dX0_moodForChance_13 : decode cX0_moodForChance 13 = .ok (.iload 4, 2) := by decide +kernel
theorem dX0_moodForChance_15 : decode cX0_moodForChance 15 = .ok (.invokevirtual 42, 3) := by decide +kernel
theorem dX0_moodForChance_18 : decode cX0_moodForChance 18 = .ok (.ifCond .le 26, 3) := by decide +kernel
theorem dX0_moodForChance_21 : decode cX0_moodForChance 21 = .ok (.aload_n 0, 1) := by decide +kernel
theorem dX0_moodForChance_22 : decode cX0_moodForChance 22 = .ok (.iload 4, 2) := by decide +kernel
theorem dX0_moodForChance_24 : decode cX0_moodForChance 24 = .ok (.iload_n 1, 1) := by decide +kernel
theorem dX0_moodForChance_25 : decode cX0_moodForChance 25 = .ok (.iload_n 2, 1) := by decide +kernel
theorem dX0_moodForChance_26 : decode cX0_moodForChance 26 = .ok (.iload_n 3, 1) := by decide +kernel
theorem dX0_moodForChance_27 : decode cX0_moodForChance 27 = .ok (.invokevirtual 60, 3) := by decide +kernel
theorem dX0_moodForChance_30 : decode cX0_moodForChance 30 = .ok (.aload_n 0, 1) := by decide +kernel
theorem dX0_moodForChance_31 : decode cX0_moodForChance 31 = .ok (.iload_n 1, 1) := by decide +kernel
theorem dX0_moodForChance_32 : decode cX0_moodForChance 32 = .ok (.iload_n 2, 1) := by decide +kernel
theorem dX0_moodForChance_33 : decode cX0_moodForChance 33 = .ok (.iload_n 3, 1) := by decide +kernel
theorem dX0_moodForChance_34 : decode cX0_moodForChance 34 = .ok (.invokevirtual 64, 3) := by decide +kernel
theorem dX0_moodForChance_37 : decode cX0_moodForChance 37 = .ok (.lcmp, 1) := by decide +kernel
theorem dX0_moodForChance_38 : decode cX0_moodForChance 38 = .ok (.ifCond .ne 6, 3) := by decide +kernel
theorem dX0_moodForChance_41 : decode cX0_moodForChance 41 = .ok (.iload 4, 2) := by decide +kernel
theorem dX0_moodForChance_43 : decode cX0_moodForChance 43 = .ok (.ireturn, 1) := by decide +kernel
theorem dX0_moodForChance_44 : decode cX0_moodForChance 44 = .ok (.iinc 4 1, 3) := by decide +kernel
theorem dX0_moodForChance_47 : decode cX0_moodForChance 47 = .ok (.goto (-44), 3) := by decide +kernel
theorem dX0_moodForChance_50 : decode cX0_moodForChance 50 = .ok (.iconst (-1), 1) := by decide +kernel
theorem dX0_moodForChance_51 : decode cX0_moodForChance 51 = .ok (.ireturn, 1) := by decide +kernel
theorem dX0_share_0 : decode cX0_share 0 = .ok (.aload_n 0, 1) := by decide +kernel
theorem dX0_share_1 : decode cX0_share 1 = .ok (.iload_n 1, 1) := by decide +kernel
theorem dX0_share_2 : decode cX0_share 2 = .ok (.iload_n 2, 1) := by decide +kernel
theorem dX0_share_3 : decode cX0_share 3 = .ok (.invokevirtual 56, 3) := by decide +kernel
theorem dX0_share_6 : decode cX0_share 6 = .ok (.aload_n 3, 1) := by decide +kernel
theorem dX0_share_7 : decode cX0_share 7 = .ok (.getfield 67, 3) := by decide +kernel
theorem dX0_share_10 : decode cX0_share 10 = .ok (.iload_n 1, 1) := by decide +kernel
theorem dX0_share_11 : decode cX0_share 11 = .ok (.isub, 1) := by decide +kernel
theorem dX0_share_12 : decode cX0_share 12 = .ok (.invokestatic 52, 3) := by decide +kernel
theorem dX0_share_15 : decode cX0_share 15 = .ok (.lmul, 1) := by decide +kernel
theorem dX0_share_16 : decode cX0_share 16 = .ok (.lstore 4, 2) := by decide +kernel
theorem dX0_share_18 : decode cX0_share 18 = .ok (.ldc2_w 73, 3) := by decide +kernel
theorem dX0_share_21 : decode cX0_share 21 = .ok (.lload 4, 2) := by decide +kernel
theorem dX0_share_23 : decode cX0_share 23 = .ok (.lmul, 1) := by decide +kernel
theorem dX0_share_24 : decode cX0_share 24 = .ok (.aload_n 0, 1) := by decide +kernel
theorem dX0_share_25 : decode cX0_share 25 = .ok (.aload_n 3, 1) := by decide +kernel
theorem dX0_share_26 : decode cX0_share 26 = .ok (.getfield 67, 3) := by decide +kernel
theorem dX0_share_29 : decode cX0_share 29 = .ok (.aload_n 3, 1) := by decide +kernel
theorem dX0_share_30 : decode cX0_share 30 = .ok (.getfield 75, 3) := by decide +kernel
theorem dX0_share_33 : decode cX0_share 33 = .ok (.invokevirtual 56, 3) := by decide +kernel
theorem dX0_share_36 : decode cX0_share 36 = .ok (.invokestatic 78, 3) := by decide +kernel
theorem dX0_share_39 : decode cX0_share 39 = .ok (.l2i, 1) := by decide +kernel
theorem dX0_share_40 : decode cX0_share 40 = .ok (.ireturn, 1) := by decide +kernel
theorem dX0_millionths_0 : decode cX0_millionths 0 = .ok (.aload_n 0, 1) := by decide +kernel
theorem dX0_millionths_1 : decode cX0_millionths 1 = .ok (.iload_n 1, 1) := by decide +kernel
theorem dX0_millionths_2 : decode cX0_millionths 2 = .ok (.iload_n 2, 1) := by decide +kernel
theorem dX0_millionths_3 : decode cX0_millionths 3 = .ok (.iload_n 3, 1) := by decide +kernel
theorem dX0_millionths_4 : decode cX0_millionths 4 = .ok (.invokevirtual 64, 3) := by decide +kernel
theorem dX0_millionths_7 : decode cX0_millionths 7 = .ok (.iload_n 1, 1) := by decide +kernel
theorem dX0_millionths_8 : decode cX0_millionths 8 = .ok (.invokestatic 81, 3) := by decide +kernel
theorem dX0_millionths_11 : decode cX0_millionths 11 = .ok (.ireturn, 1) := by decide +kernel
theorem dX1_init_0 : decode cX1_init 0 = .ok (.aload_n 0, 1) := by decide +kernel
theorem dX1_init_1 : decode cX1_init 1 = .ok (.invokespecial 3, 3) := by decide +kernel
theorem dX1_init_4 : decode cX1_init 4 = .ok (.aload_n 0, 1) := by decide +kernel
theorem dX1_init_5 : decode cX1_init 5 = .ok (.bipush 12, 2) := by decide +kernel
theorem dX1_init_7 : decode cX1_init 7 = .ok (.newarray .int, 2) := by decide +kernel
theorem dX1_init_9 : decode cX1_init 9 = .ok (.putfield 9, 3) := by decide +kernel
theorem dX1_init_12 : decode cX1_init 12 = .ok (.return_, 1) := by decide +kernel
theorem dX1_begin_0 : decode cX1_begin 0 = .ok (.aload_n 0, 1) := by decide +kernel
theorem dX1_begin_1 : decode cX1_begin 1 = .ok (.getfield 9, 3) := by decide +kernel
theorem dX1_begin_4 : decode cX1_begin 4 = .ok (.iconst 0, 1) := by decide +kernel
theorem dX1_begin_5 : decode cX1_begin 5 = .ok (.invokestatic 15, 3) := by decide +kernel
theorem dX1_begin_8 : decode cX1_begin 8 = .ok (.aload_n 0, 1) := by decide +kernel
theorem dX1_begin_9 : decode cX1_begin 9 = .ok (.iconst 0, 1) := by decide +kernel
theorem dX1_begin_10 : decode cX1_begin 10 = .ok (.putfield 21, 3) := by decide +kernel
theorem dX1_begin_13 : decode cX1_begin 13 = .ok (.aload_n 0, 1) := by decide +kernel
theorem dX1_begin_14 : decode cX1_begin 14 = .ok (.iconst 0, 1) := by decide +kernel
theorem dX1_begin_15 : decode cX1_begin 15 = .ok (.putfield 25, 3) := by decide +kernel
theorem dX1_begin_18 : decode cX1_begin 18 = .ok (.return_, 1) := by decide +kernel
theorem dX1_add_0 : decode cX1_add 0 = .ok (.aload_n 0, 1) := by decide +kernel
theorem dX1_add_1 : decode cX1_add 1 = .ok (.getfield 21, 3) := by decide +kernel
theorem dX1_add_4 : decode cX1_add 4 = .ok (.iconst 0, 1) := by decide +kernel
theorem dX1_add_5 : decode cX1_add 5 = .ok (.bipush 11, 2) := by decide +kernel
theorem dX1_add_7 : decode cX1_add 7 = .ok (.invokestatic 28, 3) := by decide +kernel
theorem dX1_add_10 : decode cX1_add 10 = .ok (.ifCond .eq 33, 3) := by decide +kernel
theorem dX1_add_13 : decode cX1_add 13 = .ok (.aload_n 0, 1) := by decide +kernel
theorem dX1_add_14 : decode cX1_add 14 = .ok (.getfield 9, 3) := by decide +kernel
theorem dX1_add_17 : decode cX1_add 17 = .ok (.aload_n 0, 1) := by decide +kernel
theorem dX1_add_18 : decode cX1_add 18 = .ok (.getfield 21, 3) := by decide +kernel
theorem dX1_add_21 : decode cX1_add 21 = .ok (.iload_n 1, 1) := by decide +kernel
theorem dX1_add_22 : decode cX1_add 22 = .ok (.iastore, 1) := by decide +kernel
theorem dX1_add_23 : decode cX1_add 23 = .ok (.aload_n 0, 1) := by decide +kernel
theorem dX1_add_24 : decode cX1_add 24 = .ok (.dup, 1) := by decide +kernel
theorem dX1_add_25 : decode cX1_add 25 = .ok (.getfield 21, 3) := by decide +kernel
theorem dX1_add_28 : decode cX1_add 28 = .ok (.iconst 1, 1) := by decide +kernel
theorem dX1_add_29 : decode cX1_add 29 = .ok (.iadd, 1) := by decide +kernel
theorem dX1_add_30 : decode cX1_add 30 = .ok (.putfield 21, 3) := by decide +kernel
theorem dX1_add_33 : decode cX1_add 33 = .ok (.aload_n 0, 1) := by decide +kernel
theorem dX1_add_34 : decode cX1_add 34 = .ok (.dup, 1) := by decide +kernel
theorem dX1_add_35 : decode cX1_add 35 = .ok (.getfield 25, 3) := by decide +kernel
theorem dX1_add_38 : decode cX1_add 38 = .ok (.iload_n 1, 1) := by decide +kernel
theorem dX1_add_39 : decode cX1_add 39 = .ok (.iadd, 1) := by decide +kernel
theorem dX1_add_40 : decode cX1_add 40 = .ok (.putfield 25, 3) := by decide +kernel
theorem dX1_add_43 : decode cX1_add 43 = .ok (.return_, 1) := by decide +kernel
theorem dX1_withoutLeast_0 : decode cX1_withoutLeast 0 = .ok (.iconst 0, 1) := by decide +kernel
theorem dX1_withoutLeast_1 : decode cX1_withoutLeast 1 = .ok (.istore_n 3, 1) := by decide +kernel
theorem dX1_withoutLeast_2 : decode cX1_withoutLeast 2 = .ok (.iconst 0, 1) := by decide +kernel
theorem dX1_withoutLeast_3 : decode cX1_withoutLeast 3 = .ok (.istore 4, 2) := by decide +kernel
theorem dX1_withoutLeast_5 : decode cX1_withoutLeast 5 = .ok (.iload 4, 2) := by decide +kernel
theorem dX1_withoutLeast_7 : decode cX1_withoutLeast 7 = .ok (.iload_n 2, 1) := by decide +kernel
theorem dX1_withoutLeast_8 : decode cX1_withoutLeast 8 = .ok (.if_icmp .ge 37, 3) := by decide +kernel
theorem dX1_withoutLeast_11 : decode cX1_withoutLeast 11 = .ok (.iload 4, 2) := by decide +kernel
theorem dX1_withoutLeast_13 : decode cX1_withoutLeast 13 = .ok (.bipush 12, 2) := by decide +kernel
theorem dX1_withoutLeast_15 : decode cX1_withoutLeast 15 = .ok (.if_icmp .ge 30, 3) := by decide +kernel
theorem dX1_withoutLeast_18 : decode cX1_withoutLeast 18 = .ok (.aload_n 0, 1) := by decide +kernel
theorem dX1_withoutLeast_19 : decode cX1_withoutLeast 19 = .ok (.iload 4, 2) := by decide +kernel
theorem dX1_withoutLeast_21 : decode cX1_withoutLeast 21 = .ok (.iload_n 2, 1) := by decide +kernel
theorem dX1_withoutLeast_22 : decode cX1_withoutLeast 22 = .ok (.invokevirtual 32, 3) := by decide +kernel
theorem dX1_withoutLeast_25 : decode cX1_withoutLeast 25 = .ok (.iload_n 1, 1) := by decide +kernel
theorem dX1_withoutLeast_26 : decode cX1_withoutLeast 26 = .ok (.if_icmp .lt 13, 3) := by decide +kernel
theorem dX1_withoutLeast_29 : decode cX1_withoutLeast 29 = .ok (.iload_n 3, 1) := by decide +kernel
theorem dX1_withoutLeast_30 : decode cX1_withoutLeast 30 = .ok (.aload_n 0, 1) := by decide +kernel
theorem dX1_withoutLeast_31 : decode cX1_withoutLeast 31 = .ok (.getfield 9, 3) := by decide +kernel
theorem dX1_withoutLeast_34 : decode cX1_withoutLeast 34 = .ok (.iload 4, 2) := by decide +kernel
theorem dX1_withoutLeast_36 : decode cX1_withoutLeast 36 = .ok (.iaload, 1) := by decide +kernel
theorem dX1_withoutLeast_37 : decode cX1_withoutLeast 37 = .ok (.iadd, 1) := by decide +kernel
theorem dX1_withoutLeast_38 : decode cX1_withoutLeast 38 = .ok (.istore_n 3, 1) := by decide +kernel
theorem dX1_withoutLeast_39 : decode cX1_withoutLeast 39 = .ok (.iinc 4 1, 3) := by decide +kernel
theorem dX1_withoutLeast_42 : decode cX1_withoutLeast 42 = .ok (.goto (-37), 3) := by decide +kernel
theorem dX1_withoutLeast_45 : decode cX1_withoutLeast 45 = .ok (.iload_n 3, 1) := by decide +kernel
theorem dX1_withoutLeast_46 : decode cX1_withoutLeast 46 = .ok (.ireturn, 1) := by decide +kernel
theorem dX1_rank_0 : decode cX1_rank 0 = .ok (.iconst 0, 1) := by decide +kernel
theorem dX1_rank_1 : decode cX1_rank 1 = .ok (.istore_n 3, 1) := by decide +kernel
theorem dX1_rank_2 : decode cX1_rank 2 = .ok (.iconst 0, 1) := by decide +kernel
theorem dX1_rank_3 : decode cX1_rank 3 = .ok (.istore 4, 2) := by decide +kernel
theorem dX1_rank_5 : decode cX1_rank 5 = .ok (.iload 4, 2) := by decide +kernel
theorem dX1_rank_7 : decode cX1_rank 7 = .ok (.iload_n 2, 1) := by decide +kernel
theorem dX1_rank_8 : decode cX1_rank 8 = .ok (.if_icmp .ge 67, 3) := by decide +kernel
theorem dX1_rank_11 : decode cX1_rank 11 = .ok (.iload 4, 2) := by decide +kernel
theorem dX1_rank_13 : decode cX1_rank 13 = .ok (.bipush 12, 2) := by decide +kernel
theorem dX1_rank_15 : decode cX1_rank 15 = .ok (.if_icmp .ge 60, 3) := by decide +kernel
theorem dX1_rank_18 : decode cX1_rank 18 = .ok (.iload_n 1, 1) := by decide +kernel
theorem dX1_rank_19 : decode cX1_rank 19 = .ok (.iconst 0, 1) := by decide +kernel
theorem dX1_rank_20 : decode cX1_rank 20 = .ok (.bipush 11, 2) := by decide +kernel
theorem dX1_rank_22 : decode cX1_rank 22 = .ok (.invokestatic 28, 3) := by decide +kernel
theorem dX1_rank_25 : decode cX1_rank 25 = .ok (.ifCond .eq 44, 3) := by decide +kernel
theorem dX1_rank_28 : decode cX1_rank 28 = .ok (.aload_n 0, 1) := by decide +kernel
theorem dX1_rank_29 : decode cX1_rank 29 = .ok (.getfield 9, 3) := by decide +kernel
theorem dX1_rank_32 : decode cX1_rank 32 = .ok (.iload 4, 2) := by decide +kernel
theorem dX1_rank_34 : decode cX1_rank 34 = .ok (.iaload, 1) := by decide +kernel
theorem dX1_rank_35 : decode cX1_rank 35 = .ok (.aload_n 0, 1) := by decide +kernel
theorem dX1_rank_36 : decode cX1_rank 36 = .ok (.getfield 9, 3) := by decide +kernel
theorem dX1_rank_39 : decode cX1_rank 39 = .ok (.iload_n 1, 1) := by decide +kernel
theorem dX1_rank_40 : decode cX1_rank 40 = .ok (.iaload, 1) := by decide +kernel
theorem dX1_rank_41 : decode cX1_rank 41 = .ok (.if_icmp .lt 25, 3) := by decide +kernel
theorem dX1_rank_44 : decode cX1_rank 44 = .ok (.aload_n 0, 1) := by decide +kernel
theorem dX1_rank_45 : decode cX1_rank 45 = .ok (.getfield 9, 3) := by decide +kernel
theorem dX1_rank_48 : decode cX1_rank 48 = .ok (.iload 4, 2) := by decide +kernel
theorem dX1_rank_50 : decode cX1_rank 50 = .ok (.iaload, 1) := by decide +kernel
theorem dX1_rank_51 : decode cX1_rank 51 = .ok (.aload_n 0, 1) := by decide +kernel
theorem dX1_rank_52 : decode cX1_rank 52 = .ok (.getfield 9, 3) := by decide +kernel
theorem dX1_rank_55 : decode cX1_rank 55 = .ok (.iload_n 1, 1) := by decide +kernel
theorem dX1_rank_56 : decode cX1_rank 56 = .ok (.iaload, 1) := by decide +kernel
theorem dX1_rank_57 : decode cX1_rank 57 = .ok (.if_icmp .ne 12, 3) := by decide +kernel
theorem dX1_rank_60 : decode cX1_rank 60 = .ok (.iload 4, 2) := by decide +kernel
theorem dX1_rank_62 : decode cX1_rank 62 = .ok (.iload_n 1, 1) := by decide +kernel
theorem dX1_rank_63 : decode cX1_rank 63 = .ok (.if_icmp .ge 6, 3) := by decide +kernel
theorem dX1_rank_66 : decode cX1_rank 66 = .ok (.iinc 3 1, 3) := by decide +kernel
theorem dX1_rank_69 : decode cX1_rank 69 = .ok (.iinc 4 1, 3) := by decide +kernel
theorem dX1_rank_72 : decode cX1_rank 72 = .ok (.goto (-67), 3) := by decide +kernel
theorem dX1_rank_75 : decode cX1_rank 75 = .ok (.iload_n 3, 1) := by decide +kernel
theorem dX1_rank_76 : decode cX1_rank 76 = .ok (.ireturn, 1) := by decide +kernel
theorem dX2_init_0 : decode cX2_init 0 = .ok (.aload_n 0, 1) := by decide +kernel
theorem dX2_init_1 : decode cX2_init 1 = .ok (.invokespecial 3, 3) := by decide +kernel
theorem dX2_init_4 : decode cX2_init 4 = .ok (.aload_n 0, 1) := by decide +kernel
theorem dX2_init_5 : decode cX2_init 5 = .ok (.bipush 72, 2) := by decide +kernel
theorem dX2_init_7 : decode cX2_init 7 = .ok (.newarray .int, 2) := by decide +kernel
theorem dX2_init_9 : decode cX2_init 9 = .ok (.putfield 11, 3) := by decide +kernel
theorem dX2_init_12 : decode cX2_init 12 = .ok (.return_, 1) := by decide +kernel
theorem dX2_add_0 : decode cX2_add 0 = .ok (.aload_n 0, 1) := by decide +kernel
theorem dX2_add_1 : decode cX2_add 1 = .ok (.getfield 15, 3) := by decide +kernel
theorem dX2_add_4 : decode cX2_add 4 = .ok (.iconst 0, 1) := by decide +kernel
theorem dX2_add_5 : decode cX2_add 5 = .ok (.bipush 23, 2) := by decide +kernel
theorem dX2_add_7 : decode cX2_add 7 = .ok (.invokestatic 19, 3) := by decide +kernel
theorem dX2_add_10 : decode cX2_add 10 = .ok (.ifCond .ne 4, 3) := by decide +kernel
theorem dX2_add_13 : decode cX2_add 13 = .ok (.return_, 1) := by decide +kernel
theorem dX2_add_14 : decode cX2_add 14 = .ok (.aload_n 0, 1) := by decide +kernel
theorem dX2_add_15 : decode cX2_add 15 = .ok (.getfield 15, 3) := by decide +kernel
theorem dX2_add_18 : decode cX2_add 18 = .ok (.iconst 3, 1) := by decide +kernel
theorem dX2_add_19 : decode cX2_add 19 = .ok (.imul, 1) := by decide +kernel
theorem dX2_add_20 : decode cX2_add 20 = .ok (.istore 4, 2) := by decide +kernel
theorem dX2_add_22 : decode cX2_add 22 = .ok (.aload_n 0, 1) := by decide +kernel
theorem dX2_add_23 : decode cX2_add 23 = .ok (.getfield 11, 3) := by decide +kernel
theorem dX2_add_26 : decode cX2_add 26 = .ok (.iload 4, 2) := by decide +kernel
theorem dX2_add_28 : decode cX2_add 28 = .ok (.iload_n 1, 1) := by decide +kernel
theorem dX2_add_29 : decode cX2_add 29 = .ok (.iastore, 1) := by decide +kernel
theorem dX2_add_30 : decode cX2_add 30 = .ok (.aload_n 0, 1) := by decide +kernel
theorem dX2_add_31 : decode cX2_add 31 = .ok (.getfield 11, 3) := by decide +kernel
theorem dX2_add_34 : decode cX2_add 34 = .ok (.iload 4, 2) := by decide +kernel
theorem dX2_add_36 : decode cX2_add 36 = .ok (.iconst 1, 1) := by decide +kernel
theorem dX2_add_37 : decode cX2_add 37 = .ok (.iadd, 1) := by decide +kernel
theorem dX2_add_38 : decode cX2_add 38 = .ok (.iload_n 2, 1) := by decide +kernel
theorem dX2_add_39 : decode cX2_add 39 = .ok (.iastore, 1) := by decide +kernel
theorem dX2_add_40 : decode cX2_add 40 = .ok (.aload_n 0, 1) := by decide +kernel
theorem dX2_add_41 : decode cX2_add 41 = .ok (.getfield 11, 3) := by decide +kernel
theorem dX2_add_44 : decode cX2_add 44 = .ok (.iload 4, 2) := by decide +kernel
theorem dX2_add_46 : decode cX2_add 46 = .ok (.iconst 2, 1) := by decide +kernel
theorem dX2_add_47 : decode cX2_add 47 = .ok (.iadd, 1) := by decide +kernel
theorem dX2_add_48 : decode cX2_add 48 = .ok (.iload_n 3, 1) := by decide +kernel
theorem dX2_add_49 : decode cX2_add 49 = .ok (.iastore, 1) := by decide +kernel
theorem dX2_add_50 : decode cX2_add 50 = .ok (.aload_n 0, 1) := by decide +kernel
theorem dX2_add_51 : decode cX2_add 51 = .ok (.dup, 1) := by decide +kernel
theorem dX2_add_52 : decode cX2_add 52 = .ok (.getfield 15, 3) := by decide +kernel
theorem dX2_add_55 : decode cX2_add 55 = .ok (.iconst 1, 1) := by decide +kernel
theorem dX2_add_56 : decode cX2_add 56 = .ok (.iadd, 1) := by decide +kernel
theorem dX2_add_57 : decode cX2_add 57 = .ok (.putfield 15, 3) := by decide +kernel
theorem dX2_add_60 : decode cX2_add 60 = .ok (.return_, 1) := by decide +kernel
theorem dX2_differenceOf_0 : decode cX2_differenceOf 0 = .ok (.iconst 0, 1) := by decide +kernel
theorem dX2_differenceOf_1 : decode cX2_differenceOf 1 = .ok (.istore_n 3, 1) := by decide +kernel
theorem dX2_differenceOf_2 : decode cX2_differenceOf 2 = .ok (.iconst 0, 1) := by decide +kernel
theorem dX2_differenceOf_3 : decode cX2_differenceOf 3 = .ok (.istore 4, 2) := by decide +kernel
theorem dX2_differenceOf_5 : decode cX2_differenceOf 5 = .ok (.iload 4, 2) := by decide +kernel
theorem dX2_differenceOf_7 : decode cX2_differenceOf 7 = .ok (.aload_n 0, 1) := by decide +kernel
theorem dX2_differenceOf_8 : decode cX2_differenceOf 8 = .ok (.getfield 15, 3) := by decide +kernel
theorem dX2_differenceOf_11 : decode cX2_differenceOf 11 = .ok (.if_icmp .ge 97, 3) := by decide +kernel
theorem dX2_differenceOf_14 : decode cX2_differenceOf 14 = .ok (.iload 4, 2) := by decide +kernel
theorem dX2_differenceOf_16 : decode cX2_differenceOf 16 = .ok (.bipush 24, 2) := by decide +kernel
theorem dX2_differenceOf_18 : decode cX2_differenceOf 18 = .ok (.if_icmp .ge 90, 3) := by decide +kernel
theorem dX2_differenceOf_21 : decode cX2_differenceOf 21 = .ok (.aload_n 0, 1) := by decide +kernel
theorem dX2_differenceOf_22 : decode cX2_differenceOf 22 = .ok (.getfield 11, 3) := by decide +kernel
theorem dX2_differenceOf_25 : decode cX2_differenceOf 25 = .ok (.iload 4, 2) := by decide +kernel
theorem dX2_differenceOf_27 : decode cX2_differenceOf 27 = .ok (.iconst 3, 1) := by decide +kernel
theorem dX2_differenceOf_28 : decode cX2_differenceOf 28 = .ok (.imul, 1) := by decide +kernel
theorem dX2_differenceOf_29 : decode cX2_differenceOf 29 = .ok (.iaload, 1) := by decide +kernel
theorem dX2_differenceOf_30 : decode cX2_differenceOf 30 = .ok (.istore 5, 2) := by decide +kernel
theorem dX2_differenceOf_32 : decode cX2_differenceOf 32 = .ok (.aload_n 0, 1) := by decide +kernel
theorem dX2_differenceOf_33 : decode cX2_differenceOf 33 = .ok (.getfield 11, 3) := by decide +kernel
theorem dX2_differenceOf_36 : decode cX2_differenceOf 36 = .ok (.iload 4, 2) := by decide +kernel
theorem dX2_differenceOf_38 : decode cX2_differenceOf 38 = .ok (.iconst 3, 1) := by decide +kernel
theorem dX2_differenceOf_39 : decode cX2_differenceOf 39 = .ok (.imul, 1) := by decide +kernel
theorem dX2_differenceOf_40 : decode cX2_differenceOf 40 = .ok (.iconst 1, 1) := by decide +kernel
theorem dX2_differenceOf_41 : decode cX2_differenceOf 41 = .ok (.iadd, 1) := by decide +kernel
theorem dX2_differenceOf_42 : decode cX2_differenceOf 42 = .ok (.iaload, 1) := by decide +kernel
theorem dX2_differenceOf_43 : decode cX2_differenceOf 43 = .ok (.istore 6, 2) := by decide +kernel
theorem dX2_differenceOf_45 : decode cX2_differenceOf 45 = .ok (.iload 5, 2) := by decide +kernel
theorem dX2_differenceOf_47 : decode cX2_differenceOf 47 = .ok (.aload_n 2, 1) := by decide +kernel
theorem dX2_differenceOf_48 : decode cX2_differenceOf 48 = .ok (.getfield 23, 3) := by decide +kernel
theorem dX2_differenceOf_51 : decode cX2_differenceOf 51 = .ok (.if_icmp .gt 51, 3) := by decide +kernel
theorem dX2_differenceOf_54 : decode cX2_differenceOf 54 = .ok (.iload 6, 2) := by decide +kernel
theorem dX2_differenceOf_56 : decode cX2_differenceOf 56 = .ok (.aload_n 2, 1) := by decide +kernel
theorem dX2_differenceOf_57 : decode cX2_differenceOf 57 = .ok (.getfield 28, 3) := by decide +kernel
theorem dX2_differenceOf_60 : decode cX2_differenceOf 60 = .ok (.if_icmp .gt 42, 3) := by decide +kernel
theorem dX2_differenceOf_63 : decode cX2_differenceOf 63 = .ok (.aload_n 1, 1) := by decide +kernel
theorem dX2_differenceOf_64 : decode cX2_differenceOf 64 = .ok (.iload 5, 2) := by decide +kernel
theorem dX2_differenceOf_66 : decode cX2_differenceOf 66 = .ok (.iload 6, 2) := by decide +kernel
theorem dX2_differenceOf_68 : decode cX2_differenceOf 68 = .ok (.invokevirtual 31, 3) := by decide +kernel
theorem dX2_differenceOf_71 : decode cX2_differenceOf 71 = .ok (.iload 5, 2) := by decide +kernel
theorem dX2_differenceOf_73 : decode cX2_differenceOf 73 = .ok (.invokestatic 37, 3) := by decide +kernel
theorem dX2_differenceOf_76 : decode cX2_differenceOf 76 = .ok (.invokestatic 41, 3) := by decide +kernel
theorem dX2_differenceOf_79 : decode cX2_differenceOf 79 = .ok (.l2i, 1) := by decide +kernel
theorem dX2_differenceOf_80 : decode cX2_differenceOf 80 = .ok (.istore 7, 2) := by decide +kernel
theorem dX2_differenceOf_82 : decode cX2_differenceOf 82 = .ok (.iload_n 3, 1) := by decide +kernel
theorem dX2_differenceOf_83 : decode cX2_differenceOf 83 = .ok (.iload 7, 2) := by decide +kernel
theorem dX2_differenceOf_85 : decode cX2_differenceOf 85 = .ok (.aload_n 0, 1) := by decide +kernel
theorem dX2_differenceOf_86 : decode cX2_differenceOf 86 = .ok (.getfield 11, 3) := by decide +kernel
theorem dX2_differenceOf_89 : decode cX2_differenceOf 89 = .ok (.iload 4, 2) := by decide +kernel
theorem dX2_differenceOf_91 : decode cX2_differenceOf 91 = .ok (.iconst 3, 1) := by decide +kernel
theorem dX2_differenceOf_92 : decode cX2_differenceOf 92 = .ok (.imul, 1) := by decide +kernel
theorem dX2_differenceOf_93 : decode cX2_differenceOf 93 = .ok (.iconst 2, 1) := by decide +kernel
theorem dX2_differenceOf_94 : decode cX2_differenceOf 94 = .ok (.iadd, 1) := by decide +kernel
theorem dX2_differenceOf_95 : decode cX2_differenceOf 95 = .ok (.iaload, 1) := by decide +kernel
theorem dX2_differenceOf_96 : decode cX2_differenceOf 96 = .ok (.isub, 1) := by decide +kernel
theorem dX2_differenceOf_97 : decode cX2_differenceOf 97 = .ok (.invokestatic 45, 3) := by decide +kernel
theorem dX2_differenceOf_100 : decode cX2_differenceOf 100 = .ok (.iadd, 1) := by decide +kernel
theorem dX2_differenceOf_101 : decode cX2_differenceOf 101 = .ok (.istore_n 3, 1) := by decide +kernel
theorem dX2_differenceOf_102 : decode cX2_differenceOf 102 = .ok (.iinc 4 1, 3) := by decide +kernel
theorem dX2_differenceOf_105 : decode cX2_differenceOf 105 = .ok (.goto (-100), 3) := by decide +kernel
theorem dX2_differenceOf_108 : decode cX2_differenceOf 108 = .ok (.iload_n 3, 1) := by decide +kernel
theorem dX2_differenceOf_109 : decode cX2_differenceOf 109 = .ok (.ireturn, 1) := by decide +kernel
theorem dX3_init_0 : decode cX3_init 0 = .ok (.aload_n 0, 1) := by decide +kernel
theorem dX3_init_1 : decode cX3_init 1 = .ok (.invokespecial 3, 3) := by decide +kernel
theorem dX3_init_4 : decode cX3_init 4 = .ok (.aload_n 0, 1) := by decide +kernel
theorem dX3_init_5 : decode cX3_init 5 = .ok (.iconst 4, 1) := by decide +kernel
theorem dX3_init_6 : decode cX3_init 6 = .ok (.newarray .int, 2) := by decide +kernel
theorem dX3_init_8 : decode cX3_init 8 = .ok (.putfield 9, 3) := by decide +kernel
theorem dX3_init_11 : decode cX3_init 11 = .ok (.aload_n 0, 1) := by decide +kernel
theorem dX3_init_12 : decode cX3_init 12 = .ok (.bipush 48, 2) := by decide +kernel
theorem dX3_init_14 : decode cX3_init 14 = .ok (.newarray .int, 2) := by decide +kernel
theorem dX3_init_16 : decode cX3_init 16 = .ok (.putfield 15, 3) := by decide +kernel
theorem dX3_init_19 : decode cX3_init 19 = .ok (.aload_n 0, 1) := by decide +kernel
theorem dX3_init_20 : decode cX3_init 20 = .ok (.iconst 0, 1) := by decide +kernel
theorem dX3_init_21 : decode cX3_init 21 = .ok (.iconst 4, 1) := by decide +kernel
theorem dX3_init_22 : decode cX3_init 22 = .ok (.iconst 0, 1) := by decide +kernel
theorem dX3_init_23 : decode cX3_init 23 = .ok (.bipush 10, 2) := by decide +kernel
theorem dX3_init_25 : decode cX3_init 25 = .ok (.invokevirtual 18, 3) := by decide +kernel
theorem dX3_init_28 : decode cX3_init 28 = .ok (.return_, 1) := by decide +kernel
theorem dX3_forget_0 : decode cX3_forget 0 = .ok (.iload_n 1, 1) := by decide +kernel
theorem dX3_forget_1 : decode cX3_forget 1 = .ok (.iconst 0, 1) := by decide +kernel
theorem dX3_forget_2 : decode cX3_forget 2 = .ok (.iconst 3, 1) := by decide +kernel
theorem dX3_forget_3 : decode cX3_forget 3 = .ok (.invokestatic 22, 3) := by decide +kernel
theorem dX3_forget_6 : decode cX3_forget 6 = .ok (.ifCond .eq 10, 3) := by decide +kernel
theorem dX3_forget_9 : decode cX3_forget 9 = .ok (.aload_n 0, 1) := by decide +kernel
theorem dX3_forget_10 : decode cX3_forget 10 = .ok (.getfield 9, 3) := by decide +kernel
theorem dX3_forget_13 : decode cX3_forget 13 = .ok (.iload_n 1, 1) := by decide +kernel
theorem dX3_forget_14 : decode cX3_forget 14 = .ok (.iconst 0, 1) := by decide +kernel
theorem dX3_forget_15 : decode cX3_forget 15 = .ok (.iastore, 1) := by decide +kernel
theorem dX3_forget_16 : decode cX3_forget 16 = .ok (.return_, 1) := by decide +kernel
theorem dX3_add_0 : decode cX3_add 0 = .ok (.iload_n 1, 1) := by decide +kernel
theorem dX3_add_1 : decode cX3_add 1 = .ok (.iconst 0, 1) := by decide +kernel
theorem dX3_add_2 : decode cX3_add 2 = .ok (.iconst 3, 1) := by decide +kernel
theorem dX3_add_3 : decode cX3_add 3 = .ok (.invokestatic 22, 3) := by decide +kernel
theorem dX3_add_6 : decode cX3_add 6 = .ok (.ifCond .eq 17, 3) := by decide +kernel
theorem dX3_add_9 : decode cX3_add 9 = .ok (.aload_n 0, 1) := by decide +kernel
theorem dX3_add_10 : decode cX3_add 10 = .ok (.getfield 9, 3) := by decide +kernel
theorem dX3_add_13 : decode cX3_add 13 = .ok (.iload_n 1, 1) := by decide +kernel
theorem dX3_add_14 : decode cX3_add 14 = .ok (.iaload, 1) := by decide +kernel
theorem dX3_add_15 : decode cX3_add 15 = .ok (.iconst 0, 1) := by decide +kernel
theorem dX3_add_16 : decode cX3_add 16 = .ok (.iconst 3, 1) := by decide +kernel
theorem dX3_add_17 : decode cX3_add 17 = .ok (.invokestatic 22, 3) := by decide +kernel
theorem dX3_add_20 : decode cX3_add 20 = .ok (.ifCond .ne 4, 3) := by decide +kernel
theorem dX3_add_23 : decode cX3_add 23 = .ok (.return_, 1) := by decide +kernel
theorem dX3_add_24 : decode cX3_add 24 = .ok (.iload_n 1, 1) := by decide +kernel
theorem dX3_add_25 : decode cX3_add 25 = .ok (.iconst 4, 1) := by decide +kernel
theorem dX3_add_26 : decode cX3_add 26 = .ok (.imul, 1) := by decide +kernel
theorem dX3_add_27 : decode cX3_add 27 = .ok (.aload_n 0, 1) := by decide +kernel
theorem dX3_add_28 : decode cX3_add 28 = .ok (.getfield 9, 3) := by decide +kernel
theorem dX3_add_31 : decode cX3_add 31 = .ok (.iload_n 1, 1) := by decide +kernel
theorem dX3_add_32 : decode cX3_add 32 = .ok (.iaload, 1) := by decide +kernel
theorem dX3_add_33 : decode cX3_add 33 = .ok (.iadd, 1) := by decide +kernel
theorem dX3_add_34 : decode cX3_add 34 = .ok (.iconst 3, 1) := by decide +kernel
theorem dX3_add_35 : decode cX3_add 35 = .ok (.imul, 1) := by decide +kernel
theorem dX3_add_36 : decode cX3_add 36 = .ok (.istore 5, 2) := by decide +kernel
theorem dX3_add_38 : decode cX3_add 38 = .ok (.aload_n 0, 1) := by decide +kernel
theorem dX3_add_39 : decode cX3_add 39 = .ok (.getfield 15, 3) := by decide +kernel
theorem dX3_add_42 : decode cX3_add 42 = .ok (.iload 5, 2) := by decide +kernel
theorem dX3_add_44 : decode cX3_add 44 = .ok (.iconst 0, 1) := by decide +kernel
theorem dX3_add_45 : decode cX3_add 45 = .ok (.iadd, 1) := by decide +kernel
theorem dX3_add_46 : decode cX3_add 46 = .ok (.iload_n 2, 1) := by decide +kernel
theorem dX3_add_47 : decode cX3_add 47 = .ok (.iastore, 1) := by decide +kernel
theorem dX3_add_48 : decode cX3_add 48 = .ok (.aload_n 0, 1) := by decide +kernel
theorem dX3_add_49 : decode cX3_add 49 = .ok (.getfield 15, 3) := by decide +kernel
theorem dX3_add_52 : decode cX3_add 52 = .ok (.iload 5, 2) := by decide +kernel
theorem dX3_add_54 : decode cX3_add 54 = .ok (.iconst 1, 1) := by decide +kernel
theorem dX3_add_55 : decode cX3_add 55 = .ok (.iadd, 1) := by decide +kernel
theorem dX3_add_56 : decode cX3_add 56 = .ok (.iload_n 3, 1) := by decide +kernel
theorem dX3_add_57 : decode cX3_add 57 = .ok (.iastore, 1) := by decide +kernel
theorem dX3_add_58 : decode cX3_add 58 = .ok (.aload_n 0, 1) := by decide +kernel
theorem dX3_add_59 : decode cX3_add 59 = .ok (.getfield 15, 3) := by decide +kernel
theorem dX3_add_62 : decode cX3_add 62 = .ok (.iload 5, 2) := by decide +kernel
theorem dX3_add_64 : decode cX3_add 64 = .ok (.iconst 2, 1) := by decide +kernel
theorem dX3_add_65 : decode cX3_add 65 = .ok (.iadd, 1) := by decide +kernel
theorem dX3_add_66 : decode cX3_add 66 = .ok (.iload 4, 2) := by decide +kernel
theorem dX3_add_68 : decode cX3_add 68 = .ok (.iastore, 1) := by decide +kernel
theorem dX3_add_69 : decode cX3_add 69 = .ok (.aload_n 0, 1) := by decide +kernel
theorem dX3_add_70 : decode cX3_add 70 = .ok (.getfield 9, 3) := by decide +kernel
theorem dX3_add_73 : decode cX3_add 73 = .ok (.iload_n 1, 1) := by decide +kernel
theorem dX3_add_74 : decode cX3_add 74 = .ok (.dup2, 1) := by decide +kernel
theorem dX3_add_75 : decode cX3_add 75 = .ok (.iaload, 1) := by decide +kernel
theorem dX3_add_76 : decode cX3_add 76 = .ok (.iconst 1, 1) := by decide +kernel
theorem dX3_add_77 : decode cX3_add 77 = .ok (.iadd, 1) := by decide +kernel
theorem dX3_add_78 : decode cX3_add 78 = .ok (.iastore, 1) := by decide +kernel
theorem dX3_add_79 : decode cX3_add 79 = .ok (.return_, 1) := by decide +kernel
theorem dX3_size_0 : decode cX3_size 0 = .ok (.iload_n 1, 1) := by decide +kernel
theorem dX3_size_1 : decode cX3_size 1 = .ok (.ifCond .lt 21, 3) := by decide +kernel
theorem dX3_size_4 : decode cX3_size 4 = .ok (.iload_n 1, 1) := by decide +kernel
theorem dX3_size_5 : decode cX3_size 5 = .ok (.aload_n 0, 1) := by decide +kernel
theorem dX3_size_6 : decode cX3_size 6 = .ok (.getfield 9, 3) := by decide +kernel
theorem dX3_size_9 : decode cX3_size 9 = .ok (.arraylength, 1) := by decide +kernel
theorem dX3_size_10 : decode cX3_size 10 = .ok (.if_icmp .ge 12, 3) := by decide +kernel
theorem dX3_size_13 : decode cX3_size 13 = .ok (.aload_n 0, 1) := by decide +kernel
theorem dX3_size_14 : decode cX3_size 14 = .ok (.getfield 9, 3) := by decide +kernel
theorem dX3_size_17 : decode cX3_size 17 = .ok (.iload_n 1, 1) := by decide +kernel
theorem dX3_size_18 : decode cX3_size 18 = .ok (.iaload, 1) := by decide +kernel
theorem dX3_size_19 : decode cX3_size 19 = .ok (.goto 4, 3) := by decide +kernel
theorem dX3_size_22 : decode cX3_size 22 = .ok (.iconst 0, 1) := by decide +kernel
theorem dX3_size_23 : decode cX3_size 23 = .ok (.ireturn, 1) := by decide +kernel
theorem dX3_part_0 : decode cX3_part 0 = .ok (.iload_n 1, 1) := by decide +kernel
theorem dX3_part_1 : decode cX3_part 1 = .ok (.iconst 4, 1) := by decide +kernel
theorem dX3_part_2 : decode cX3_part 2 = .ok (.imul, 1) := by decide +kernel
theorem dX3_part_3 : decode cX3_part 3 = .ok (.iload_n 2, 1) := by decide +kernel
theorem dX3_part_4 : decode cX3_part 4 = .ok (.iadd, 1) := by decide +kernel
theorem dX3_part_5 : decode cX3_part 5 = .ok (.iconst 3, 1) := by decide +kernel
theorem dX3_part_6 : decode cX3_part 6 = .ok (.imul, 1) := by decide +kernel
theorem dX3_part_7 : decode cX3_part 7 = .ok (.iload_n 3, 1) := by decide +kernel
theorem dX3_part_8 : decode cX3_part 8 = .ok (.iadd, 1) := by decide +kernel
theorem dX3_part_9 : decode cX3_part 9 = .ok (.istore 4, 2) := by decide +kernel
theorem dX3_part_11 : decode cX3_part 11 = .ok (.iload 4, 2) := by decide +kernel
theorem dX3_part_13 : decode cX3_part 13 = .ok (.ifCond .lt 23, 3) := by decide +kernel
theorem dX3_part_16 : decode cX3_part 16 = .ok (.iload 4, 2) := by decide +kernel
theorem dX3_part_18 : decode cX3_part 18 = .ok (.aload_n 0, 1) := by decide +kernel
theorem dX3_part_19 : decode cX3_part 19 = .ok (.getfield 15, 3) := by decide +kernel
theorem dX3_part_22 : decode cX3_part 22 = .ok (.arraylength, 1) := by decide +kernel
theorem dX3_part_23 : decode cX3_part 23 = .ok (.if_icmp .ge 13, 3) := by decide +kernel
theorem dX3_part_26 : decode cX3_part 26 = .ok (.aload_n 0, 1) := by decide +kernel
theorem dX3_part_27 : decode cX3_part 27 = .ok (.getfield 15, 3) := by decide +kernel
theorem dX3_part_30 : decode cX3_part 30 = .ok (.iload 4, 2) := by decide +kernel
theorem dX3_part_32 : decode cX3_part 32 = .ok (.iaload, 1) := by decide +kernel
theorem dX3_part_33 : decode cX3_part 33 = .ok (.goto 4, 3) := by decide +kernel
theorem dX3_part_36 : decode cX3_part 36 = .ok (.iconst 0, 1) := by decide +kernel
theorem dX3_part_37 : decode cX3_part 37 = .ok (.ireturn, 1) := by decide +kernel
theorem dX4_init_0 : decode cX4_init 0 = .ok (.aload_n 0, 1) := by decide +kernel
theorem dX4_init_1 : decode cX4_init 1 = .ok (.invokespecial 3, 3) := by decide +kernel
theorem dX4_init_4 : decode cX4_init 4 = .ok (.aload_n 0, 1) := by decide +kernel
theorem dX4_init_5 : decode cX4_init 5 = .ok (.bipush 8, 2) := by decide +kernel
theorem dX4_init_7 : decode cX4_init 7 = .ok (.newarray .int, 2) := by decide +kernel
theorem dX4_init_9 : decode cX4_init 9 = .ok (.putfield 9, 3) := by decide +kernel
theorem dX4_init_12 : decode cX4_init 12 = .ok (.aload_n 0, 1) := by decide +kernel
theorem dX4_init_13 : decode cX4_init 13 = .ok (.bipush 104, 2) := by decide +kernel
theorem dX4_init_15 : decode cX4_init 15 = .ok (.newarray .int, 2) := by decide +kernel
theorem dX4_init_17 : decode cX4_init 17 = .ok (.putfield 15, 3) := by decide +kernel
theorem dX4_init_20 : decode cX4_init 20 = .ok (.aload_n 0, 1) := by decide +kernel
theorem dX4_init_21 : decode cX4_init 21 = .ok (.aload_n 1, 1) := by decide +kernel
theorem dX4_init_22 : decode cX4_init 22 = .ok (.putfield 18, 3) := by decide +kernel
theorem dX4_init_25 : decode cX4_init 25 = .ok (.return_, 1) := by decide +kernel
theorem dX4_read_0 : decode cX4_read 0 = .ok (.aload_n 0, 1) := by decide +kernel
theorem dX4_read_1 : decode cX4_read 1 = .ok (.iconst 0, 1) := by decide +kernel
theorem dX4_read_2 : decode cX4_read 2 = .ok (.putfield 22, 3) := by decide +kernel
theorem dX4_read_5 : decode cX4_read 5 = .ok (.aload_n 0, 1) := by decide +kernel
theorem dX4_read_6 : decode cX4_read 6 = .ok (.iconst 0, 1) := by decide +kernel
theorem dX4_read_7 : decode cX4_read 7 = .ok (.putfield 26, 3) := by decide +kernel
theorem dX4_read_10 : decode cX4_read 10 = .ok (.iconst 0, 1) := by decide +kernel
theorem dX4_read_11 : decode cX4_read 11 = .ok (.istore_n 1, 1) := by decide +kernel
theorem dX4_read_12 : decode cX4_read 12 = .ok (.iload_n 1, 1) := by decide +kernel
theorem dX4_read_13 : decode cX4_read 13 = .ok (.bipush 8, 2) := by decide +kernel
theorem dX4_read_15 : decode cX4_read 15 = .ok (.if_icmp .ge 55, 3) := by decide +kernel
theorem dX4_read_18 : decode cX4_read 18 = .ok (.aload_n 0, 1) := by decide +kernel
theorem dX4_read_19 : decode cX4_read 19 = .ok (.iload_n 1, 1) := by decide +kernel
theorem dX4_read_20 : decode cX4_read 20 = .ok (.invokevirtual 29, 3) := by decide +kernel
theorem dX4_read_23 : decode cX4_read 23 = .ok (.ifCond .ne 8, 3) := by decide +kernel
theorem dX4_read_26 : decode cX4_read 26 = .ok (.aload_n 0, 1) := by decide +kernel
theorem dX4_read_27 : decode cX4_read 27 = .ok (.getfield 33, 3) := by decide +kernel
theorem dX4_read_30 : decode cX4_read 30 = .ok (.ireturn, 1) := by decide +kernel
theorem dX4_read_31 : decode cX4_read 31 = .ok (.aload_n 0, 1) := by decide +kernel
theorem dX4_read_32 : decode cX4_read 32 = .ok (.iload_n 1, 1) := by decide +kernel
theorem dX4_read_33 : decode cX4_read 33 = .ok (.iconst 1, 1) := by decide +kernel
theorem dX4_read_34 : decode cX4_read 34 = .ok (.iadd, 1) := by decide +kernel
theorem dX4_read_35 : decode cX4_read 35 = .ok (.putfield 22, 3) := by decide +kernel
theorem dX4_read_38 : decode cX4_read 38 = .ok (.aload_n 0, 1) := by decide +kernel
theorem dX4_read_39 : decode cX4_read 39 = .ok (.invokevirtual 36, 3) := by decide +kernel
theorem dX4_read_42 : decode cX4_read 42 = .ok (.aload_n 0, 1) := by decide +kernel
theorem dX4_read_43 : decode cX4_read 43 = .ok (.getfield 39, 3) := by decide +kernel
theorem dX4_read_46 : decode cX4_read 46 = .ok (.ifCond .ne 5, 3) := by decide +kernel
theorem dX4_read_49 : decode cX4_read 49 = .ok (.iconst (-1), 1) := by decide +kernel
theorem dX4_read_50 : decode cX4_read 50 = .ok (.ireturn, 1) := by decide +kernel
theorem dX4_read_51 : decode cX4_read 51 = .ok (.aload_n 0, 1) := by decide +kernel
theorem dX4_read_52 : decode cX4_read 52 = .ok (.getfield 39, 3) := by decide +kernel
theorem dX4_read_55 : decode cX4_read 55 = .ok (.iconst 3, 1) := by decide +kernel
theorem dX4_read_56 : decode cX4_read 56 = .ok (.if_icmp .eq 8, 3) := by decide +kernel
theorem dX4_read_59 : decode cX4_read 59 = .ok (.aload_n 0, 1) := by decide +kernel
theorem dX4_read_60 : decode cX4_read 60 = .ok (.getfield 33, 3) := by decide +kernel
theorem dX4_read_63 : decode cX4_read 63 = .ok (.ireturn, 1) := by decide +kernel
theorem dX4_read_64 : decode cX4_read 64 = .ok (.iinc 1 1, 3) := by decide +kernel
theorem dX4_read_67 : decode cX4_read 67 = .ok (.goto (-55), 3) := by decide +kernel
theorem dX4_read_70 : decode cX4_read 70 = .ok (.aload_n 0, 1) := by decide +kernel
theorem dX4_read_71 : decode cX4_read 71 = .ok (.getfield 33, 3) := by decide +kernel
theorem dX4_read_74 : decode cX4_read 74 = .ok (.ireturn, 1) := by decide +kernel
theorem dX4_has_0 : decode cX4_has 0 = .ok (.iconst 0, 1) := by decide +kernel
theorem dX4_has_1 : decode cX4_has 1 = .ok (.istore_n 2, 1) := by decide +kernel
theorem dX4_has_2 : decode cX4_has 2 = .ok (.iload_n 2, 1) := by decide +kernel
theorem dX4_has_3 : decode cX4_has 3 = .ok (.aload_n 0, 1) := by decide +kernel
theorem dX4_has_4 : decode cX4_has 4 = .ok (.getfield 22, 3) := by decide +kernel
theorem dX4_has_7 : decode cX4_has 7 = .ok (.if_icmp .ge 20, 3) := by decide +kernel
theorem dX4_has_10 : decode cX4_has 10 = .ok (.aload_n 0, 1) := by decide +kernel
theorem dX4_has_11 : decode cX4_has 11 = .ok (.iload_n 2, 1) := by decide +kernel
theorem dX4_has_12 : decode cX4_has 12 = .ok (.invokevirtual 42, 3) := by decide +kernel
theorem dX4_has_15 : decode cX4_has 15 = .ok (.iload_n 1, 1) := by decide +kernel
theorem dX4_has_16 : decode cX4_has 16 = .ok (.if_icmp .ne 5, 3) := by decide +kernel
theorem dX4_has_19 : decode cX4_has 19 = .ok (.iconst 1, 1) := by decide +kernel
theorem dX4_has_20 : decode cX4_has 20 = .ok (.ireturn, 1) := by decide +kernel
theorem dX4_has_21 : decode cX4_has 21 = .ok (.iinc 2 1, 3) := by decide +kernel
theorem dX4_has_24 : decode cX4_has 24 = .ok (.goto (-22), 3) := by decide +kernel
theorem dX4_has_27 : decode cX4_has 27 = .ok (.iconst 0, 1) := by decide +kernel
theorem dX4_has_28 : decode cX4_has 28 = .ok (.ireturn, 1) := by decide +kernel
theorem dX4_word_0 : decode cX4_word 0 = .ok (.iload_n 1, 1) := by decide +kernel
theorem dX4_word_1 : decode cX4_word 1 = .ok (.iconst 0, 1) := by decide +kernel
theorem dX4_word_2 : decode cX4_word 2 = .ok (.bipush 7, 2) := by decide +kernel
theorem dX4_word_4 : decode cX4_word 4 = .ok (.invokestatic 46, 3) := by decide +kernel
theorem dX4_word_7 : decode cX4_word 7 = .ok (.ifCond .eq 12, 3) := by decide +kernel
theorem dX4_word_10 : decode cX4_word 10 = .ok (.aload_n 0, 1) := by decide +kernel
theorem dX4_word_11 : decode cX4_word 11 = .ok (.getfield 9, 3) := by decide +kernel
theorem dX4_word_14 : decode cX4_word 14 = .ok (.iload_n 1, 1) := by decide +kernel
theorem dX4_word_15 : decode cX4_word 15 = .ok (.iaload, 1) := by decide +kernel
theorem dX4_word_16 : decode cX4_word 16 = .ok (.goto 4, 3) := by decide +kernel
theorem dX4_word_19 : decode cX4_word 19 = .ok (.iconst (-1), 1) := by decide +kernel
theorem dX4_word_20 : decode cX4_word 20 = .ok (.ireturn, 1) := by decide +kernel
theorem dX4_number_0 : decode cX4_number 0 = .ok (.iload_n 1, 1) := by decide +kernel
theorem dX4_number_1 : decode cX4_number 1 = .ok (.iconst 0, 1) := by decide +kernel
theorem dX4_number_2 : decode cX4_number 2 = .ok (.bipush 7, 2) := by decide +kernel
theorem dX4_number_4 : decode cX4_number 4 = .ok (.invokestatic 46, 3) := by decide +kernel
theorem dX4_number_7 : decode cX4_number 7 = .ok (.ifCond .eq 13, 3) := by decide +kernel
theorem dX4_number_10 : decode cX4_number 10 = .ok (.iload_n 2, 1) := by decide +kernel
theorem dX4_number_11 : decode cX4_number 11 = .ok (.iconst 0, 1) := by decide +kernel
theorem dX4_number_12 : decode cX4_number 12 = .ok (.bipush 12, 2) := by decide +kernel
theorem dX4_number_14 : decode cX4_number 14 = .ok (.invokestatic 46, 3) := by decide +kernel
theorem dX4_number_17 : decode cX4_number 17 = .ok (.ifCond .ne 5, 3) := by decide +kernel
theorem dX4_number_20 : decode cX4_number 20 = .ok (.iconst 0, 1) := by decide +kernel
theorem dX4_number_21 : decode cX4_number 21 = .ok (.ireturn, 1) := by decide +kernel
theorem dX4_number_22 : decode cX4_number 22 = .ok (.aload_n 0, 1) := by decide +kernel
theorem dX4_number_23 : decode cX4_number 23 = .ok (.getfield 15, 3) := by decide +kernel
theorem dX4_number_26 : decode cX4_number 26 = .ok (.iload_n 1, 1) := by decide +kernel
theorem dX4_number_27 : decode cX4_number 27 = .ok (.bipush 13, 2) := by decide +kernel
theorem dX4_number_29 : decode cX4_number 29 = .ok (.imul, 1) := by decide +kernel
theorem dX4_number_30 : decode cX4_number 30 = .ok (.iload_n 2, 1) := by decide +kernel
theorem dX4_number_31 : decode cX4_number 31 = .ok (.iadd, 1) := by decide +kernel
theorem dX4_number_32 : decode cX4_number 32 = .ok (.iaload, 1) := by decide +kernel
theorem dX4_number_33 : decode cX4_number 33 = .ok (.ireturn, 1) := by decide +kernel
theorem dX4_readLine_0 : decode cX4_readLine 0 = .ok (.aload_n 0, 1) := by decide +kernel
theorem dX4_readLine_1 : decode cX4_readLine 1 = .ok (.invokevirtual 36, 3) := by decide +kernel
theorem dX4_readLine_4 : decode cX4_readLine 4 = .ok (.aload_n 0, 1) := by decide +kernel
theorem dX4_readLine_5 : decode cX4_readLine 5 = .ok (.invokevirtual 50, 3) := by decide +kernel
theorem dX4_readLine_8 : decode cX4_readLine 8 = .ok (.istore_n 2, 1) := by decide +kernel
theorem dX4_readLine_9 : decode cX4_readLine 9 = .ok (.iload_n 1, 1) := by decide +kernel
theorem dX4_readLine_10 : decode cX4_readLine 10 = .ok (.iconst 0, 1) := by decide +kernel
theorem dX4_readLine_11 : decode cX4_readLine 11 = .ok (.bipush 7, 2) := by decide +kernel
theorem dX4_readLine_13 : decode cX4_readLine 13 = .ok (.invokestatic 46, 3) := by decide +kernel
theorem dX4_readLine_16 : decode cX4_readLine 16 = .ok (.ifCond .ne 5, 3) := by decide +kernel
theorem dX4_readLine_19 : decode cX4_readLine 19 = .ok (.iconst 0, 1) := by decide +kernel
theorem dX4_readLine_20 : decode cX4_readLine 20 = .ok (.ireturn, 1) := by decide +kernel
theorem dX4_readLine_21 : decode cX4_readLine 21 = .ok (.aload_n 0, 1) := by decide +kernel
theorem dX4_readLine_22 : decode cX4_readLine 22 = .ok (.getfield 9, 3) := by decide +kernel
theorem dX4_readLine_25 : decode cX4_readLine 25 = .ok (.iload_n 1, 1) := by decide +kernel
theorem dX4_readLine_26 : decode cX4_readLine 26 = .ok (.iload_n 2, 1) := by decide +kernel
theorem dX4_readLine_27 : decode cX4_readLine 27 = .ok (.iastore, 1) := by decide +kernel
theorem dX4_readLine_28 : decode cX4_readLine 28 = .ok (.iload_n 2, 1) := by decide +kernel
theorem dX4_readLine_29 : decode cX4_readLine 29 = .ok (.tableswitch 137 0 5 #[39, 49, 59, 65, 97, 127], 39) := by decide +kernel
theorem dX4_readLine_68 : decode cX4_readLine 68 = .ok (.aload_n 0, 1) := by decide +kernel
theorem dX4_readLine_69 : decode cX4_readLine 69 = .ok (.iload_n 1, 1) := by decide +kernel
theorem dX4_readLine_70 : decode cX4_readLine 70 = .ok (.iconst 0, 1) := by decide +kernel
theorem dX4_readLine_71 : decode cX4_readLine 71 = .ok (.iconst 1, 1) := by decide +kernel
theorem dX4_readLine_72 : decode cX4_readLine 72 = .ok (.bipush 12, 2) := by decide +kernel
theorem dX4_readLine_74 : decode cX4_readLine 74 = .ok (.invokevirtual 54, 3) := by decide +kernel
theorem dX4_readLine_77 : decode cX4_readLine 77 = .ok (.ireturn, 1) := by decide +kernel
theorem dX4_readLine_78 : decode cX4_readLine 78 = .ok (.aload_n 0, 1) := by decide +kernel
theorem dX4_readLine_79 : decode cX4_readLine 79 = .ok (.iload_n 1, 1) := by decide +kernel
theorem dX4_readLine_80 : decode cX4_readLine 80 = .ok (.iconst 0, 1) := by decide +kernel
theorem dX4_readLine_81 : decode cX4_readLine 81 = .ok (.iconst 1, 1) := by decide +kernel
theorem dX4_readLine_82 : decode cX4_readLine 82 = .ok (.bipush 10, 2) := by decide +kernel
theorem dX4_readLine_84 : decode cX4_readLine 84 = .ok (.invokevirtual 54, 3) := by decide +kernel
theorem dX4_readLine_87 : decode cX4_readLine 87 = .ok (.ireturn, 1) := by decide +kernel
theorem dX4_readLine_88 : decode cX4_readLine 88 = .ok (.aload_n 0, 1) := by decide +kernel
theorem dX4_readLine_89 : decode cX4_readLine 89 = .ok (.iload_n 1, 1) := by decide +kernel
theorem dX4_readLine_90 : decode cX4_readLine 90 = .ok (.invokevirtual 58, 3) := by decide +kernel
theorem dX4_readLine_93 : decode cX4_readLine 93 = .ok (.ireturn, 1) := by decide +kernel
theorem dX4_readLine_94 : decode cX4_readLine 94 = .ok (.aload_n 0, 1) := by decide +kernel
theorem dX4_readLine_95 : decode cX4_readLine 95 = .ok (.iload_n 1, 1) := by decide +kernel
theorem dX4_readLine_96 : decode cX4_readLine 96 = .ok (.iconst 0, 1) := by decide +kernel
theorem dX4_readLine_97 : decode cX4_readLine 97 = .ok (.iconst 0, 1) := by decide +kernel
theorem dX4_readLine_98 : decode cX4_readLine 98 = .ok (.sipush 400, 3) := by decide +kernel
theorem dX4_readLine_101 : decode cX4_readLine 101 = .ok (.invokevirtual 54, 3) := by decide +kernel
theorem dX4_readLine_104 : decode cX4_readLine 104 = .ok (.ifCond .eq 20, 3) := by decide +kernel
theorem dX4_readLine_107 : decode cX4_readLine 107 = .ok (.aload_n 0, 1) := by decide +kernel
theorem dX4_readLine_108 : decode cX4_readLine 108 = .ok (.iload_n 1, 1) := by decide +kernel
theorem dX4_readLine_109 : decode cX4_readLine 109 = .ok (.iconst 1, 1) := by decide +kernel
theorem dX4_readLine_110 : decode cX4_readLine 110 = .ok (.iconst 1, 1) := by decide +kernel
theorem dX4_readLine_111 : decode cX4_readLine 111 = .ok (.sipush 300, 3) := by decide +kernel
theorem dX4_readLine_114 : decode cX4_readLine 114 = .ok (.invokevirtual 54, 3) := by decide +kernel
theorem dX4_readLine_117 : decode cX4_readLine 117 = .ok (.ifCond .eq 7, 3) := by decide +kernel
theorem dX4_readLine_120 : decode cX4_readLine 120 = .ok (.iconst 1, 1) := by decide +kernel
theorem dX4_readLine_121 : decode cX4_readLine 121 = .ok (.goto 4, 3) := by decide +kernel
theorem dX4_readLine_124 : decode cX4_readLine 124 = .ok (.iconst 0, 1) := by decide +kernel
theorem dX4_readLine_125 : decode cX4_readLine 125 = .ok (.ireturn, 1) := by decide +kernel
theorem dX4_readLine_126 : decode cX4_readLine 126 = .ok (.aload_n 0, 1) := by decide +kernel
theorem dX4_readLine_127 : decode cX4_readLine 127 = .ok (.iload_n 1, 1) := by decide +kernel
theorem dX4_readLine_128 : decode cX4_readLine 128 = .ok (.iconst 0, 1) := by decide +kernel
theorem dX4_readLine_129 : decode cX4_readLine 129 = .ok (.iconst 0, 1) := by decide +kernel
theorem dX4_readLine_130 : decode cX4_readLine 130 = .ok (.bipush 10, 2) := by decide +kernel
theorem dX4_readLine_132 : decode cX4_readLine 132 = .ok (.invokevirtual 54, 3) := by decide +kernel
theorem dX4_readLine_135 : decode cX4_readLine 135 = .ok (.ifCond .eq 19, 3) := by decide +kernel
theorem dX4_readLine_138 : decode cX4_readLine 138 = .ok (.aload_n 0, 1) := by decide +kernel
theorem dX4_readLine_139 : decode cX4_readLine 139 = .ok (.iload_n 1, 1) := by decide +kernel
theorem dX4_readLine_140 : decode cX4_readLine 140 = .ok (.iconst 1, 1) := by decide +kernel
theorem dX4_readLine_141 : decode cX4_readLine 141 = .ok (.iconst 0, 1) := by decide +kernel
theorem dX4_readLine_142 : decode cX4_readLine 142 = .ok (.bipush 12, 2) := by decide +kernel
theorem dX4_readLine_144 : decode cX4_readLine 144 = .ok (.invokevirtual 54, 3) := by decide +kernel
theorem dX4_readLine_147 : decode cX4_readLine 147 = .ok (.ifCond .eq 7, 3) := by decide +kernel
theorem dX4_readLine_150 : decode cX4_readLine 150 = .ok (.iconst 1, 1) := by decide +kernel
theorem dX4_readLine_151 : decode cX4_readLine 151 = .ok (.goto 4, 3) := by decide +kernel
theorem dX4_readLine_154 : decode cX4_readLine 154 = .ok (.iconst 0, 1) := by decide +kernel
theorem dX4_readLine_155 : decode cX4_readLine 155 = .ok (.ireturn, 1) := by decide +kernel
theorem dX4_readLine_156 : decode cX4_readLine 156 = .ok (.aload_n 0, 1) := by decide +kernel
theorem dX4_readLine_157 : decode cX4_readLine 157 = .ok (.iload_n 1, 1) := by decide +kernel
theorem dX4_readLine_158 : decode cX4_readLine 158 = .ok (.iconst 0, 1) := by decide +kernel
theorem dX4_readLine_159 : decode cX4_readLine 159 = .ok (.iconst 0, 1) := by decide +kernel
theorem dX4_readLine_160 : decode cX4_readLine 160 = .ok (.bipush 99, 2) := by decide +kernel
theorem dX4_readLine_162 : decode cX4_readLine 162 = .ok (.invokevirtual 54, 3) := by decide +kernel
theorem dX4_readLine_165 : decode cX4_readLine 165 = .ok (.ireturn, 1) := by decide +kernel
theorem dX4_readLine_166 : decode cX4_readLine 166 = .ok (.iconst 0, 1) := by decide +kernel
theorem dX4_readLine_167 : decode cX4_readLine 167 = .ok (.ireturn, 1) := by decide +kernel
theorem dX4_readMood_0 : decode cX4_readMood 0 = .ok (.aload_n 0, 1) := by decide +kernel
theorem dX4_readMood_1 : decode cX4_readMood 1 = .ok (.iload_n 1, 1) := by decide +kernel
theorem dX4_readMood_2 : decode cX4_readMood 2 = .ok (.iconst 0, 1) := by decide +kernel
theorem dX4_readMood_3 : decode cX4_readMood 3 = .ok (.iconst 0, 1) := by decide +kernel
theorem dX4_readMood_4 : decode cX4_readMood 4 = .ok (.iconst 3, 1) := by decide +kernel
theorem dX4_readMood_5 : decode cX4_readMood 5 = .ok (.invokevirtual 54, 3) := by decide +kernel
theorem dX4_readMood_8 : decode cX4_readMood 8 = .ok (.ifCond .ne 5, 3) := by decide +kernel
theorem dX4_readMood_11 : decode cX4_readMood 11 = .ok (.iconst 0, 1) := by decide +kernel
theorem dX4_readMood_12 : decode cX4_readMood 12 = .ok (.ireturn, 1) := by decide +kernel
theorem dX4_readMood_13 : decode cX4_readMood 13 = .ok (.bipush 10, 2) := by decide +kernel
theorem dX4_readMood_15 : decode cX4_readMood 15 = .ok (.istore_n 2, 1) := by decide +kernel
theorem dX4_readMood_16 : decode cX4_readMood 16 = .ok (.iconst 0, 1) := by decide +kernel
theorem dX4_readMood_17 : decode cX4_readMood 17 = .ok (.istore_n 3, 1) := by decide +kernel
theorem dX4_readMood_18 : decode cX4_readMood 18 = .ok (.iload_n 3, 1) := by decide +kernel
theorem dX4_readMood_19 : decode cX4_readMood 19 = .ok (.iconst 4, 1) := by decide +kernel
theorem dX4_readMood_20 : decode cX4_readMood 20 = .ok (.if_icmp .ge 90, 3) := by decide +kernel
theorem dX4_readMood_23 : decode cX4_readMood 23 = .ok (.iload_n 2, 1) := by decide +kernel
theorem dX4_readMood_24 : decode cX4_readMood 24 = .ok (.ifCond .le 86, 3) := by decide +kernel
theorem dX4_readMood_27 : decode cX4_readMood 27 = .ok (.iconst 1, 1) := by decide +kernel
theorem dX4_readMood_28 : decode cX4_readMood 28 = .ok (.iload_n 3, 1) := by decide +kernel
theorem dX4_readMood_29 : decode cX4_readMood 29 = .ok (.iconst 3, 1) := by decide +kernel
theorem dX4_readMood_30 : decode cX4_readMood 30 = .ok (.imul, 1) := by decide +kernel
theorem dX4_readMood_31 : decode cX4_readMood 31 = .ok (.iadd, 1) := by decide +kernel
theorem dX4_readMood_32 : decode cX4_readMood 32 = .ok (.istore 4, 2) := by decide +kernel
theorem dX4_readMood_34 : decode cX4_readMood 34 = .ok (.iload_n 3, 1) := by decide +kernel
theorem dX4_readMood_35 : decode cX4_readMood 35 = .ok (.iconst 3, 1) := by decide +kernel
theorem dX4_readMood_36 : decode cX4_readMood 36 = .ok (.if_icmp .ne 7, 3) := by decide +kernel
theorem dX4_readMood_39 : decode cX4_readMood 39 = .ok (.iload_n 2, 1) := by decide +kernel
theorem dX4_readMood_40 : decode cX4_readMood 40 = .ok (.goto 4, 3) := by decide +kernel
theorem dX4_readMood_43 : decode cX4_readMood 43 = .ok (.iconst 1, 1) := by decide +kernel
theorem dX4_readMood_44 : decode cX4_readMood 44 = .ok (.istore 5, 2) := by decide +kernel
theorem dX4_readMood_46 : decode cX4_readMood 46 = .ok (.aload_n 0, 1) := by decide +kernel
theorem dX4_readMood_47 : decode cX4_readMood 47 = .ok (.iload_n 1, 1) := by decide +kernel
theorem dX4_readMood_48 : decode cX4_readMood 48 = .ok (.iload 4, 2) := by decide +kernel
theorem dX4_readMood_50 : decode cX4_readMood 50 = .ok (.iconst 0, 1) := by decide +kernel
theorem dX4_readMood_51 : decode cX4_readMood 51 = .ok (.iadd, 1) := by decide +kernel
theorem dX4_readMood_52 : decode cX4_readMood 52 = .ok (.iconst 0, 1) := by decide +kernel
theorem dX4_readMood_53 : decode cX4_readMood 53 = .ok (.bipush 36, 2) := by decide +kernel
theorem dX4_readMood_55 : decode cX4_readMood 55 = .ok (.invokevirtual 54, 3) := by decide +kernel
theorem dX4_readMood_58 : decode cX4_readMood 58 = .ok (.ifCond .eq 32, 3) := by decide +kernel
theorem dX4_readMood_61 : decode cX4_readMood 61 = .ok (.aload_n 0, 1) := by decide +kernel
theorem dX4_readMood_62 : decode cX4_readMood 62 = .ok (.iload_n 1, 1) := by decide +kernel
theorem dX4_readMood_63 : decode cX4_readMood 63 = .ok (.iload 4, 2) := by decide +kernel
theorem dX4_readMood_65 : decode cX4_readMood 65 = .ok (.iconst 1, 1) := by decide +kernel
theorem dX4_readMood_66 : decode cX4_readMood 66 = .ok (.iadd, 1) := by decide +kernel
theorem dX4_readMood_67 : decode cX4_readMood 67 = .ok (.iconst 0, 1) := by decide +kernel
theorem dX4_readMood_68 : decode cX4_readMood 68 = .ok (.iconst 3, 1) := by decide +kernel
theorem dX4_readMood_69 : decode cX4_readMood 69 = .ok (.invokevirtual 54, 3) := by decide +kernel
theorem dX4_readMood_72 : decode cX4_readMood 72 = .ok (.ifCond .eq 18, 3) := by decide +kernel
theorem dX4_readMood_75 : decode cX4_readMood 75 = .ok (.aload_n 0, 1) := by decide +kernel
theorem dX4_readMood_76 : decode cX4_readMood 76 = .ok (.iload_n 1, 1) := by decide +kernel
theorem dX4_readMood_77 : decode cX4_readMood 77 = .ok (.iload 4, 2) := by decide +kernel
theorem dX4_readMood_79 : decode cX4_readMood 79 = .ok (.iconst 2, 1) := by decide +kernel
theorem dX4_readMood_80 : decode cX4_readMood 80 = .ok (.iadd, 1) := by decide +kernel
theorem dX4_readMood_81 : decode cX4_readMood 81 = .ok (.iload 5, 2) := by decide +kernel
theorem dX4_readMood_83 : decode cX4_readMood 83 = .ok (.iload_n 2, 1) := by decide +kernel
theorem dX4_readMood_84 : decode cX4_readMood 84 = .ok (.invokevirtual 54, 3) := by decide +kernel
theorem dX4_readMood_87 : decode cX4_readMood 87 = .ok (.ifCond .ne 5, 3) := by decide +kernel
theorem dX4_readMood_90 : decode cX4_readMood 90 = .ok (.iconst 0, 1) := by decide +kernel
theorem dX4_readMood_91 : decode cX4_readMood 91 = .ok (.ireturn, 1) := by decide +kernel
theorem dX4_readMood_92 : decode cX4_readMood 92 = .ok (.iload_n 2, 1) := by decide +kernel
theorem dX4_readMood_93 : decode cX4_readMood 93 = .ok (.aload_n 0, 1) := by decide +kernel
theorem dX4_readMood_94 : decode cX4_readMood 94 = .ok (.iload_n 1, 1) := by decide +kernel
theorem dX4_readMood_95 : decode cX4_readMood 95 = .ok (.iload 4, 2) := by decide +kernel
theorem dX4_readMood_97 : decode cX4_readMood 97 = .ok (.iconst 2, 1) := by decide +kernel
theorem dX4_readMood_98 : decode cX4_readMood 98 = .ok (.iadd, 1) := by decide +kernel
theorem dX4_readMood_99 : decode cX4_readMood 99 = .ok (.invokevirtual 61, 3) := by decide +kernel
theorem dX4_readMood_102 : decode cX4_readMood 102 = .ok (.isub, 1) := by decide +kernel
theorem dX4_readMood_103 : decode cX4_readMood 103 = .ok (.istore_n 2, 1) := by decide +kernel
theorem dX4_readMood_104 : decode cX4_readMood 104 = .ok (.iinc 3 1, 3) := by decide +kernel
theorem dX4_readMood_107 : decode cX4_readMood 107 = .ok (.goto (-89), 3) := by decide +kernel
theorem dX4_readMood_110 : decode cX4_readMood 110 = .ok (.iconst 1, 1) := by decide +kernel
theorem dX4_readMood_111 : decode cX4_readMood 111 = .ok (.ireturn, 1) := by decide +kernel
theorem dX4_readNumber_0 : decode cX4_readNumber 0 = .ok (.aload_n 0, 1) := by decide +kernel
theorem dX4_readNumber_1 : decode cX4_readNumber 1 = .ok (.invokevirtual 36, 3) := by decide +kernel
theorem dX4_readNumber_4 : decode cX4_readNumber 4 = .ok (.aload_n 0, 1) := by decide +kernel
theorem dX4_readNumber_5 : decode cX4_readNumber 5 = .ok (.getfield 39, 3) := by decide +kernel
theorem dX4_readNumber_8 : decode cX4_readNumber 8 = .ok (.iconst 2, 1) := by decide +kernel
theorem dX4_readNumber_9 : decode cX4_readNumber 9 = .ok (.if_icmp .ne 16, 3) := by decide +kernel
theorem dX4_readNumber_12 : decode cX4_readNumber 12 = .ok (.aload_n 0, 1) := by decide +kernel
theorem dX4_readNumber_13 : decode cX4_readNumber 13 = .ok (.getfield 26, 3) := by decide +kernel
theorem dX4_readNumber_16 : decode cX4_readNumber 16 = .ok (.aload_n 0, 1) := by decide +kernel
theorem dX4_readNumber_17 : decode cX4_readNumber 17 = .ok (.getfield 33, 3) := by decide +kernel
theorem dX4_readNumber_20 : decode cX4_readNumber 20 = .ok (.isub, 1) := by decide +kernel
theorem dX4_readNumber_21 : decode cX4_readNumber 21 = .ok (.iconst 3, 1) := by decide +kernel
theorem dX4_readNumber_22 : decode cX4_readNumber 22 = .ok (.if_icmp .le 5, 3) := by decide +kernel
theorem dX4_readNumber_25 : decode cX4_readNumber 25 = .ok (.iconst 0, 1) := by decide +kernel
theorem dX4_readNumber_26 : decode cX4_readNumber 26 = .ok (.ireturn, 1) := by decide +kernel
theorem dX4_readNumber_27 : decode cX4_readNumber 27 = .ok (.iconst 0, 1) := by decide +kernel
theorem dX4_readNumber_28 : decode cX4_readNumber 28 = .ok (.istore 5, 2) := by decide +kernel
theorem dX4_readNumber_30 : decode cX4_readNumber 30 = .ok (.aload_n 0, 1) := by decide +kernel
theorem dX4_readNumber_31 : decode cX4_readNumber 31 = .ok (.getfield 33, 3) := by decide +kernel
theorem dX4_readNumber_34 : decode cX4_readNumber 34 = .ok (.istore 6, 2) := by decide +kernel
theorem dX4_readNumber_36 : decode cX4_readNumber 36 = .ok (.iload 6, 2) := by decide +kernel
theorem dX4_readNumber_38 : decode cX4_readNumber 38 = .ok (.aload_n 0, 1) := by decide +kernel
theorem dX4_readNumber_39 : decode cX4_readNumber 39 = .ok (.getfield 26, 3) := by decide +kernel
theorem dX4_readNumber_42 : decode cX4_readNumber 42 = .ok (.if_icmp .ge 29, 3) := by decide +kernel
theorem dX4_readNumber_45 : decode cX4_readNumber 45 = .ok (.iload 5, 2) := by decide +kernel
theorem dX4_readNumber_47 : decode cX4_readNumber 47 = .ok (.bipush 10, 2) := by decide +kernel
theorem dX4_readNumber_49 : decode cX4_readNumber 49 = .ok (.imul, 1) := by decide +kernel
theorem dX4_readNumber_50 : decode cX4_readNumber 50 = .ok (.aload_n 0, 1) := by decide +kernel
theorem dX4_readNumber_51 : decode cX4_readNumber 51 = .ok (.getfield 18, 3) := by decide +kernel
theorem dX4_readNumber_54 : decode cX4_readNumber 54 = .ok (.iload 6, 2) := by decide +kernel
theorem dX4_readNumber_56 : decode cX4_readNumber 56 = .ok (.invokevirtual 65, 3) := by decide +kernel
theorem dX4_readNumber_59 : decode cX4_readNumber 59 = .ok (.iadd, 1) := by decide +kernel
theorem dX4_readNumber_60 : decode cX4_readNumber 60 = .ok (.bipush 48, 2) := by decide +kernel
theorem dX4_readNumber_62 : decode cX4_readNumber 62 = .ok (.isub, 1) := by decide +kernel
theorem dX4_readNumber_63 : decode cX4_readNumber 63 = .ok (.istore 5, 2) := by decide +kernel
theorem dX4_readNumber_65 : decode cX4_readNumber 65 = .ok (.iinc 6 1, 3) := by decide +kernel
theorem dX4_readNumber_68 : decode cX4_readNumber 68 = .ok (.goto (-32), 3) := by decide +kernel
theorem dX4_readNumber_71 : decode cX4_readNumber 71 = .ok (.iload 5, 2) := by decide +kernel
theorem dX4_readNumber_73 : decode cX4_readNumber 73 = .ok (.iload_n 3, 1) := by decide +kernel
theorem dX4_readNumber_74 : decode cX4_readNumber 74 = .ok (.iload 4, 2) := by decide +kernel
theorem dX4_readNumber_76 : decode cX4_readNumber 76 = .ok (.invokestatic 46, 3) := by decide +kernel
theorem dX4_readNumber_79 : decode cX4_readNumber 79 = .ok (.ifCond .eq 23, 3) := by decide +kernel
theorem dX4_readNumber_82 : decode cX4_readNumber 82 = .ok (.iload_n 1, 1) := by decide +kernel
theorem dX4_readNumber_83 : decode cX4_readNumber 83 = .ok (.iconst 0, 1) := by decide +kernel
theorem dX4_readNumber_84 : decode cX4_readNumber 84 = .ok (.bipush 7, 2) := by decide +kernel
theorem dX4_readNumber_86 : decode cX4_readNumber 86 = .ok (.invokestatic 46, 3) := by decide +kernel
theorem dX4_readNumber_89 : decode cX4_readNumber 89 = .ok (.ifCond .eq 13, 3) := by decide +kernel
theorem dX4_readNumber_92 : decode cX4_readNumber 92 = .ok (.iload_n 2, 1) := by decide +kernel
theorem dX4_readNumber_93 : decode cX4_readNumber 93 = .ok (.iconst 0, 1) := by decide +kernel
theorem dX4_readNumber_94 : decode cX4_readNumber 94 = .ok (.bipush 12, 2) := by decide +kernel
theorem dX4_readNumber_96 : decode cX4_readNumber 96 = .ok (.invokestatic 46, 3) := by decide +kernel
theorem dX4_readNumber_99 : decode cX4_readNumber 99 = .ok (.ifCond .ne 5, 3) := by decide +kernel
theorem dX4_readNumber_102 : decode cX4_readNumber 102 = .ok (.iconst 0, 1) := by decide +kernel
theorem dX4_readNumber_103 : decode cX4_readNumber 103 = .ok (.ireturn, 1) := by decide +kernel
theorem dX4_readNumber_104 : decode cX4_readNumber 104 = .ok (.aload_n 0, 1) := by decide +kernel
theorem dX4_readNumber_105 : decode cX4_readNumber 105 = .ok (.getfield 15, 3) := by decide +kernel
theorem dX4_readNumber_108 : decode cX4_readNumber 108 = .ok (.iload_n 1, 1) := by decide +kernel
theorem dX4_readNumber_109 : decode cX4_readNumber 109 = .ok (.bipush 13, 2) := by decide +kernel
theorem dX4_readNumber_111 : decode cX4_readNumber 111 = .ok (.imul, 1) := by decide +kernel
theorem dX4_readNumber_112 : decode cX4_readNumber 112 = .ok (.iload_n 2, 1) := by decide +kernel
theorem dX4_readNumber_113 : decode cX4_readNumber 113 = .ok (.iadd, 1) := by decide +kernel
theorem dX4_readNumber_114 : decode cX4_readNumber 114 = .ok (.iload 5, 2) := by decide +kernel
theorem dX4_readNumber_116 : decode cX4_readNumber 116 = .ok (.iastore, 1) := by decide +kernel
theorem dX4_readNumber_117 : decode cX4_readNumber 117 = .ok (.iconst 1, 1) := by decide +kernel
theorem dX4_readNumber_118 : decode cX4_readNumber 118 = .ok (.ireturn, 1) := by decide +kernel
theorem dX4_step_0 : decode cX4_step 0 = .ok (.aload_n 0, 1) := by decide +kernel
theorem dX4_step_1 : decode cX4_step 1 = .ok (.getfield 26, 3) := by decide +kernel
theorem dX4_step_4 : decode cX4_step 4 = .ok (.istore_n 1, 1) := by decide +kernel
theorem dX4_step_5 : decode cX4_step 5 = .ok (.iload_n 1, 1) := by decide +kernel
theorem dX4_step_6 : decode cX4_step 6 = .ok (.aload_n 0, 1) := by decide +kernel
theorem dX4_step_7 : decode cX4_step 7 = .ok (.getfield 18, 3) := by decide +kernel
theorem dX4_step_10 : decode cX4_step 10 = .ok (.getfield 70, 3) := by decide +kernel
theorem dX4_step_13 : decode cX4_step 13 = .ok (.if_icmp .ge 22, 3) := by decide +kernel
theorem dX4_step_16 : decode cX4_step 16 = .ok (.aload_n 0, 1) := by decide +kernel
theorem dX4_step_17 : decode cX4_step 17 = .ok (.getfield 18, 3) := by decide +kernel
theorem dX4_step_20 : decode cX4_step 20 = .ok (.iload_n 1, 1) := by decide +kernel
theorem dX4_step_21 : decode cX4_step 21 = .ok (.invokevirtual 65, 3) := by decide +kernel
theorem dX4_step_24 : decode cX4_step 24 = .ok (.bipush 32, 2) := by decide +kernel
theorem dX4_step_26 : decode cX4_step 26 = .ok (.if_icmp .ne 9, 3) := by decide +kernel
theorem dX4_step_29 : decode cX4_step 29 = .ok (.iinc 1 1, 3) := by decide +kernel
theorem dX4_step_32 : decode cX4_step 32 = .ok (.goto (-27), 3) := by decide +kernel
theorem dX4_step_35 : decode cX4_step 35 = .ok (.aload_n 0, 1) := by decide +kernel
theorem dX4_step_36 : decode cX4_step 36 = .ok (.iload_n 1, 1) := by decide +kernel
theorem dX4_step_37 : decode cX4_step 37 = .ok (.putfield 33, 3) := by decide +kernel
theorem dX4_step_40 : decode cX4_step 40 = .ok (.aload_n 0, 1) := by decide +kernel
theorem dX4_step_41 : decode cX4_step 41 = .ok (.aload_n 0, 1) := by decide +kernel
theorem dX4_step_42 : decode cX4_step 42 = .ok (.getfield 18, 3) := by decide +kernel
theorem dX4_step_45 : decode cX4_step 45 = .ok (.iload_n 1, 1) := by decide +kernel
theorem dX4_step_46 : decode cX4_step 46 = .ok (.invokevirtual 65, 3) := by decide +kernel
theorem dX4_step_49 : decode cX4_step 49 = .ok (.invokestatic 73, 3) := by decide +kernel
theorem dX4_step_52 : decode cX4_step 52 = .ok (.putfield 39, 3) := by decide +kernel
theorem dX4_step_55 : decode cX4_step 55 = .ok (.aload_n 0, 1) := by decide +kernel
theorem dX4_step_56 : decode cX4_step 56 = .ok (.getfield 39, 3) := by decide +kernel
theorem dX4_step_59 : decode cX4_step 59 = .ok (.ifCond .eq 6, 3) := by decide +kernel
theorem dX4_step_62 : decode cX4_step 62 = .ok (.iinc 1 1, 3) := by decide +kernel
theorem dX4_step_65 : decode cX4_step 65 = .ok (.iload_n 1, 1) := by decide +kernel
theorem dX4_step_66 : decode cX4_step 66 = .ok (.aload_n 0, 1) := by decide +kernel
theorem dX4_step_67 : decode cX4_step 67 = .ok (.getfield 18, 3) := by decide +kernel
theorem dX4_step_70 : decode cX4_step 70 = .ok (.getfield 70, 3) := by decide +kernel
theorem dX4_step_73 : decode cX4_step 73 = .ok (.if_icmp .ge 43, 3) := by decide +kernel
theorem dX4_step_76 : decode cX4_step 76 = .ok (.aload_n 0, 1) := by decide +kernel
theorem dX4_step_77 : decode cX4_step 77 = .ok (.getfield 39, 3) := by decide +kernel
theorem dX4_step_80 : decode cX4_step 80 = .ok (.iconst 1, 1) := by decide +kernel
theorem dX4_step_81 : decode cX4_step 81 = .ok (.if_icmp .eq 11, 3) := by decide +kernel
theorem dX4_step_84 : decode cX4_step 84 = .ok (.aload_n 0, 1) := by decide +kernel
theorem dX4_step_85 : decode cX4_step 85 = .ok (.getfield 39, 3) := by decide +kernel
theorem dX4_step_88 : decode cX4_step 88 = .ok (.iconst 2, 1) := by decide +kernel
theorem dX4_step_89 : decode cX4_step 89 = .ok (.if_icmp .ne 27, 3) := by decide +kernel
theorem dX4_step_92 : decode cX4_step 92 = .ok (.aload_n 0, 1) := by decide +kernel
theorem dX4_step_93 : decode cX4_step 93 = .ok (.getfield 18, 3) := by decide +kernel
theorem dX4_step_96 : decode cX4_step 96 = .ok (.iload_n 1, 1) := by decide +kernel
theorem dX4_step_97 : decode cX4_step 97 = .ok (.invokevirtual 65, 3) := by decide +kernel
theorem dX4_step_100 : decode cX4_step 100 = .ok (.invokestatic 73, 3) := by decide +kernel
theorem dX4_step_103 : decode cX4_step 103 = .ok (.aload_n 0, 1) := by decide +kernel
theorem dX4_step_104 : decode cX4_step 104 = .ok (.getfield 39, 3) := by decide +kernel
theorem dX4_step_107 : decode cX4_step 107 = .ok (.if_icmp .ne 9, 3) := by decide +kernel
theorem dX4_step_110 : decode cX4_step 110 = .ok (.iinc 1 1, 3) := by decide +kernel
theorem dX4_step_113 : decode cX4_step 113 = .ok (.goto (-48), 3) := by decide +kernel
theorem dX4_step_116 : decode cX4_step 116 = .ok (.aload_n 0, 1) := by decide +kernel
theorem dX4_step_117 : decode cX4_step 117 = .ok (.iload_n 1, 1) := by decide +kernel
theorem dX4_step_118 : decode cX4_step 118 = .ok (.putfield 26, 3) := by decide +kernel
theorem dX4_step_121 : decode cX4_step 121 = .ok (.return_, 1) := by decide +kernel
theorem dX4_kindOf_0 : decode cX4_kindOf 0 = .ok (.iload_n 0, 1) := by decide +kernel
theorem dX4_kindOf_1 : decode cX4_kindOf 1 = .ok (.iconst (-1), 1) := by decide +kernel
theorem dX4_kindOf_2 : decode cX4_kindOf 2 = .ok (.if_icmp .ne 5, 3) := by decide +kernel
theorem dX4_kindOf_5 : decode cX4_kindOf 5 = .ok (.iconst 0, 1) := by decide +kernel
theorem dX4_kindOf_6 : decode cX4_kindOf 6 = .ok (.ireturn, 1) := by decide +kernel
theorem dX4_kindOf_7 : decode cX4_kindOf 7 = .ok (.iload_n 0, 1) := by decide +kernel
theorem dX4_kindOf_8 : decode cX4_kindOf 8 = .ok (.bipush 97, 2) := by decide +kernel
theorem dX4_kindOf_10 : decode cX4_kindOf 10 = .ok (.bipush 122, 2) := by decide +kernel
theorem dX4_kindOf_12 : decode cX4_kindOf 12 = .ok (.invokestatic 46, 3) := by decide +kernel
theorem dX4_kindOf_15 : decode cX4_kindOf 15 = .ok (.ifCond .eq 5, 3) := by decide +kernel
theorem dX4_kindOf_18 : decode cX4_kindOf 18 = .ok (.iconst 1, 1) := by decide +kernel
theorem dX4_kindOf_19 : decode cX4_kindOf 19 = .ok (.ireturn, 1) := by decide +kernel
theorem dX4_kindOf_20 : decode cX4_kindOf 20 = .ok (.iload_n 0, 1) := by decide +kernel
theorem dX4_kindOf_21 : decode cX4_kindOf 21 = .ok (.bipush 48, 2) := by decide +kernel
theorem dX4_kindOf_23 : decode cX4_kindOf 23 = .ok (.bipush 57, 2) := by decide +kernel
theorem dX4_kindOf_25 : decode cX4_kindOf 25 = .ok (.invokestatic 46, 3) := by decide +kernel
theorem dX4_kindOf_28 : decode cX4_kindOf 28 = .ok (.ifCond .eq 5, 3) := by decide +kernel
theorem dX4_kindOf_31 : decode cX4_kindOf 31 = .ok (.iconst 2, 1) := by decide +kernel
theorem dX4_kindOf_32 : decode cX4_kindOf 32 = .ok (.ireturn, 1) := by decide +kernel
theorem dX4_kindOf_33 : decode cX4_kindOf 33 = .ok (.iload_n 0, 1) := by decide +kernel
theorem dX4_kindOf_34 : decode cX4_kindOf 34 = .ok (.bipush 59, 2) := by decide +kernel
theorem dX4_kindOf_36 : decode cX4_kindOf 36 = .ok (.if_icmp .ne 7, 3) := by decide +kernel
theorem dX4_kindOf_39 : decode cX4_kindOf 39 = .ok (.iconst 3, 1) := by decide +kernel
theorem dX4_kindOf_40 : decode cX4_kindOf 40 = .ok (.goto 4, 3) := by decide +kernel
theorem dX4_kindOf_43 : decode cX4_kindOf 43 = .ok (.iconst 4, 1) := by decide +kernel
theorem dX4_kindOf_44 : decode cX4_kindOf 44 = .ok (.ireturn, 1) := by decide +kernel
theorem dX4_spelled_0 : decode cX4_spelled 0 = .ok (.aload_n 0, 1) := by decide +kernel
theorem dX4_spelled_1 : decode cX4_spelled 1 = .ok (.ldc 76, 2) := by decide +kernel
theorem dX4_spelled_3 : decode cX4_spelled 3 = .ok (.invokevirtual 78, 3) := by decide +kernel
theorem dX4_spelled_6 : decode cX4_spelled 6 = .ok (.ifCond .eq 5, 3) := by decide +kernel
theorem dX4_spelled_9 : decode cX4_spelled 9 = .ok (.iconst 0, 1) := by decide +kernel
theorem dX4_spelled_10 : decode cX4_spelled 10 = .ok (.ireturn, 1) := by decide +kernel
theorem dX4_spelled_11 : decode cX4_spelled 11 = .ok (.aload_n 0, 1) := by decide +kernel
theorem dX4_spelled_12 : decode cX4_spelled 12 = .ok (.ldc 82, 2) := by decide +kernel
theorem dX4_spelled_14 : decode cX4_spelled 14 = .ok (.invokevirtual 78, 3) := by decide +kernel
theorem dX4_spelled_17 : decode cX4_spelled 17 = .ok (.ifCond .eq 5, 3) := by decide +kernel
theorem dX4_spelled_20 : decode cX4_spelled 20 = .ok (.iconst 1, 1) := by decide +kernel
theorem dX4_spelled_21 : decode cX4_spelled 21 = .ok (.ireturn, 1) := by decide +kernel
theorem dX4_spelled_22 : decode cX4_spelled 22 = .ok (.aload_n 0, 1) := by decide +kernel
theorem dX4_spelled_23 : decode cX4_spelled 23 = .ok (.ldc 84, 2) := by decide +kernel
theorem dX4_spelled_25 : decode cX4_spelled 25 = .ok (.invokevirtual 78, 3) := by decide +kernel
theorem dX4_spelled_28 : decode cX4_spelled 28 = .ok (.ifCond .eq 5, 3) := by decide +kernel
theorem dX4_spelled_31 : decode cX4_spelled 31 = .ok (.iconst 2, 1) := by decide +kernel
theorem dX4_spelled_32 : decode cX4_spelled 32 = .ok (.ireturn, 1) := by decide +kernel
theorem dX4_spelled_33 : decode cX4_spelled 33 = .ok (.aload_n 0, 1) := by decide +kernel
theorem dX4_spelled_34 : decode cX4_spelled 34 = .ok (.ldc 86, 2) := by decide +kernel
theorem dX4_spelled_36 : decode cX4_spelled 36 = .ok (.invokevirtual 78, 3) := by decide +kernel
theorem dX4_spelled_39 : decode cX4_spelled 39 = .ok (.ifCond .eq 5, 3) := by decide +kernel
theorem dX4_spelled_42 : decode cX4_spelled 42 = .ok (.iconst 3, 1) := by decide +kernel
theorem dX4_spelled_43 : decode cX4_spelled 43 = .ok (.ireturn, 1) := by decide +kernel
theorem dX4_spelled_44 : decode cX4_spelled 44 = .ok (.aload_n 0, 1) := by decide +kernel
theorem dX4_spelled_45 : decode cX4_spelled 45 = .ok (.ldc 88, 2) := by decide +kernel
theorem dX4_spelled_47 : decode cX4_spelled 47 = .ok (.invokevirtual 78, 3) := by decide +kernel
theorem dX4_spelled_50 : decode cX4_spelled 50 = .ok (.ifCond .eq 5, 3) := by decide +kernel
theorem dX4_spelled_53 : decode cX4_spelled 53 = .ok (.iconst 4, 1) := by decide +kernel
theorem dX4_spelled_54 : decode cX4_spelled 54 = .ok (.ireturn, 1) := by decide +kernel
theorem dX4_spelled_55 : decode cX4_spelled 55 = .ok (.aload_n 0, 1) := by decide +kernel
theorem dX4_spelled_56 : decode cX4_spelled 56 = .ok (.ldc 90, 2) := by decide +kernel
theorem dX4_spelled_58 : decode cX4_spelled 58 = .ok (.invokevirtual 78, 3) := by decide +kernel
theorem dX4_spelled_61 : decode cX4_spelled 61 = .ok (.ifCond .eq 7, 3) := by decide +kernel
theorem dX4_spelled_64 : decode cX4_spelled 64 = .ok (.iconst 5, 1) := by decide +kernel
theorem dX4_spelled_65 : decode cX4_spelled 65 = .ok (.goto 4, 3) := by decide +kernel
theorem dX4_spelled_68 : decode cX4_spelled 68 = .ok (.iconst (-1), 1) := by decide +kernel
theorem dX4_spelled_69 : decode cX4_spelled 69 = .ok (.ireturn, 1) := by decide +kernel
theorem dX4_spells_0 : decode cX4_spells 0 = .ok (.aload_n 0, 1) := by decide +kernel
theorem dX4_spells_1 : decode cX4_spells 1 = .ok (.getfield 26, 3) := by decide +kernel
theorem dX4_spells_4 : decode cX4_spells 4 = .ok (.aload_n 0, 1) := by decide +kernel
theorem dX4_spells_5 : decode cX4_spells 5 = .ok (.getfield 33, 3) := by decide +kernel
theorem dX4_spells_8 : decode cX4_spells 8 = .ok (.isub, 1) := by decide +kernel
theorem dX4_spells_9 : decode cX4_spells 9 = .ok (.aload_n 1, 1) := by decide +kernel
theorem dX4_spells_10 : decode cX4_spells 10 = .ok (.invokevirtual 92, 3) := by decide +kernel
theorem dX4_spells_13 : decode cX4_spells 13 = .ok (.if_icmp .eq 5, 3) := by decide +kernel
theorem dX4_spells_16 : decode cX4_spells 16 = .ok (.iconst 0, 1) := by decide +kernel
theorem dX4_spells_17 : decode cX4_spells 17 = .ok (.ireturn, 1) := by decide +kernel
theorem dX4_spells_18 : decode cX4_spells 18 = .ok (.iconst 0, 1) := by decide +kernel
theorem dX4_spells_19 : decode cX4_spells 19 = .ok (.istore_n 2, 1) := by decide +kernel
theorem dX4_spells_20 : decode cX4_spells 20 = .ok (.iload_n 2, 1) := by decide +kernel
theorem dX4_spells_21 : decode cX4_spells 21 = .ok (.aload_n 1, 1) := by decide +kernel
theorem dX4_spells_22 : decode cX4_spells 22 = .ok (.invokevirtual 92, 3) := by decide +kernel
theorem dX4_spells_25 : decode cX4_spells 25 = .ok (.if_icmp .ge 32, 3) := by decide +kernel
theorem dX4_spells_28 : decode cX4_spells 28 = .ok (.aload_n 0, 1) := by decide +kernel
theorem dX4_spells_29 : decode cX4_spells 29 = .ok (.getfield 18, 3) := by decide +kernel
theorem dX4_spells_32 : decode cX4_spells 32 = .ok (.aload_n 0, 1) := by decide +kernel
theorem dX4_spells_33 : decode cX4_spells 33 = .ok (.getfield 33, 3) := by decide +kernel
theorem dX4_spells_36 : decode cX4_spells 36 = .ok (.iload_n 2, 1) := by decide +kernel
theorem dX4_spells_37 : decode cX4_spells 37 = .ok (.iadd, 1) := by decide +kernel
theorem dX4_spells_38 : decode cX4_spells 38 = .ok (.invokevirtual 65, 3) := by decide +kernel
theorem dX4_spells_41 : decode cX4_spells 41 = .ok (.aload_n 1, 1) := by decide +kernel
theorem dX4_spells_42 : decode cX4_spells 42 = .ok (.iload_n 2, 1) := by decide +kernel
theorem dX4_spells_43 : decode cX4_spells 43 = .ok (.invokevirtual 96, 3) := by decide +kernel
theorem dX4_spells_46 : decode cX4_spells 46 = .ok (.if_icmp .eq 5, 3) := by decide +kernel
theorem dX4_spells_49 : decode cX4_spells 49 = .ok (.iconst 0, 1) := by decide +kernel
theorem dX4_spells_50 : decode cX4_spells 50 = .ok (.ireturn, 1) := by decide +kernel
theorem dX4_spells_51 : decode cX4_spells 51 = .ok (.iinc 2 1, 3) := by decide +kernel
theorem dX4_spells_54 : decode cX4_spells 54 = .ok (.goto (-34), 3) := by decide +kernel
theorem dX4_spells_57 : decode cX4_spells 57 = .ok (.iconst 1, 1) := by decide +kernel
theorem dX4_spells_58 : decode cX4_spells 58 = .ok (.ireturn, 1) := by decide +kernel
theorem dX5_init_0 : decode cX5_init 0 = .ok (.aload_n 0, 1) := by decide +kernel
theorem dX5_init_1 : decode cX5_init 1 = .ok (.invokespecial 3, 3) := by decide +kernel
theorem dX5_init_4 : decode cX5_init 4 = .ok (.aload_n 0, 1) := by decide +kernel
theorem dX5_init_5 : decode cX5_init 5 = .ok (.sipush 144, 3) := by decide +kernel
theorem dX5_init_8 : decode cX5_init 8 = .ok (.newarray .int, 2) := by decide +kernel
theorem dX5_init_10 : decode cX5_init 10 = .ok (.putfield 11, 3) := by decide +kernel
theorem dX5_init_13 : decode cX5_init 13 = .ok (.return_, 1) := by decide +kernel
theorem dX5_begin_0 : decode cX5_begin 0 = .ok (.aload_n 0, 1) := by decide +kernel
theorem dX5_begin_1 : decode cX5_begin 1 = .ok (.iconst 0, 1) := by decide +kernel
theorem dX5_begin_2 : decode cX5_begin 2 = .ok (.putfield 15, 3) := by decide +kernel
theorem dX5_begin_5 : decode cX5_begin 5 = .ok (.aload_n 0, 1) := by decide +kernel
theorem dX5_begin_6 : decode cX5_begin 6 = .ok (.aload_n 1, 1) := by decide +kernel
theorem dX5_begin_7 : decode cX5_begin 7 = .ok (.getfield 19, 3) := by decide +kernel
theorem dX5_begin_10 : decode cX5_begin 10 = .ok (.putfield 24, 3) := by decide +kernel
theorem dX5_begin_13 : decode cX5_begin 13 = .ok (.aload_n 0, 1) := by decide +kernel
theorem dX5_begin_14 : decode cX5_begin 14 = .ok (.aload_n 1, 1) := by decide +kernel
theorem dX5_begin_15 : decode cX5_begin 15 = .ok (.getfield 25, 3) := by decide +kernel
theorem dX5_begin_18 : decode cX5_begin 18 = .ok (.putfield 28, 3) := by decide +kernel
theorem dX5_begin_21 : decode cX5_begin 21 = .ok (.aload_n 0, 1) := by decide +kernel
theorem dX5_begin_22 : decode cX5_begin 22 = .ok (.iconst 0, 1) := by decide +kernel
theorem dX5_begin_23 : decode cX5_begin 23 = .ok (.putfield 29, 3) := by decide +kernel
theorem dX5_begin_26 : decode cX5_begin 26 = .ok (.return_, 1) := by decide +kernel
theorem dX5_isAtEnd_0 : decode cX5_isAtEnd 0 = .ok (.aload_n 0, 1) := by decide +kernel
theorem dX5_isAtEnd_1 : decode cX5_isAtEnd 1 = .ok (.getfield 24, 3) := by decide +kernel
theorem dX5_isAtEnd_4 : decode cX5_isAtEnd 4 = .ok (.ifCond .le 10, 3) := by decide +kernel
theorem dX5_isAtEnd_7 : decode cX5_isAtEnd 7 = .ok (.aload_n 0, 1) := by decide +kernel
theorem dX5_isAtEnd_8 : decode cX5_isAtEnd 8 = .ok (.getfield 28, 3) := by decide +kernel
theorem dX5_isAtEnd_11 : decode cX5_isAtEnd 11 = .ok (.ifCond .gt 7, 3) := by decide +kernel
theorem dX5_isAtEnd_14 : decode cX5_isAtEnd 14 = .ok (.iconst 1, 1) := by decide +kernel
theorem dX5_isAtEnd_15 : decode cX5_isAtEnd 15 = .ok (.goto 4, 3) := by decide +kernel
theorem dX5_isAtEnd_18 : decode cX5_isAtEnd 18 = .ok (.iconst 0, 1) := by decide +kernel
theorem dX5_isAtEnd_19 : decode cX5_isAtEnd 19 = .ok (.ireturn, 1) := by decide +kernel
theorem dX5_addOver_0 : decode cX5_addOver 0 = .ok (.aload_n 0, 1) := by decide +kernel
theorem dX5_addOver_1 : decode cX5_addOver 1 = .ok (.iconst 0, 1) := by decide +kernel
theorem dX5_addOver_2 : decode cX5_addOver 2 = .ok (.iload_n 1, 1) := by decide +kernel
theorem dX5_addOver_3 : decode cX5_addOver 3 = .ok (.iload_n 2, 1) := by decide +kernel
theorem dX5_addOver_4 : decode cX5_addOver 4 = .ok (.invokevirtual 32, 3) := by decide +kernel
theorem dX5_addOver_7 : decode cX5_addOver 7 = .ok (.aload_n 0, 1) := by decide +kernel
theorem dX5_addOver_8 : decode cX5_addOver 8 = .ok (.dup, 1) := by decide +kernel
theorem dX5_addOver_9 : decode cX5_addOver 9 = .ok (.getfield 24, 3) := by decide +kernel
theorem dX5_addOver_12 : decode cX5_addOver 12 = .ok (.iconst 1, 1) := by decide +kernel
theorem dX5_addOver_13 : decode cX5_addOver 13 = .ok (.isub, 1) := by decide +kernel
theorem dX5_addOver_14 : decode cX5_addOver 14 = .ok (.putfield 24, 3) := by decide +kernel
theorem dX5_addOver_17 : decode cX5_addOver 17 = .ok (.aload_n 0, 1) := by decide +kernel
theorem dX5_addOver_18 : decode cX5_addOver 18 = .ok (.iconst 0, 1) := by decide +kernel
theorem dX5_addOver_19 : decode cX5_addOver 19 = .ok (.aload_n 0, 1) := by decide +kernel
theorem dX5_addOver_20 : decode cX5_addOver 20 = .ok (.getfield 28, 3) := by decide +kernel
theorem dX5_addOver_23 : decode cX5_addOver 23 = .ok (.iload_n 2, 1) := by decide +kernel
theorem dX5_addOver_24 : decode cX5_addOver 24 = .ok (.isub, 1) := by decide +kernel
theorem dX5_addOver_25 : decode cX5_addOver 25 = .ok (.invokestatic 36, 3) := by decide +kernel
theorem dX5_addOver_28 : decode cX5_addOver 28 = .ok (.putfield 28, 3) := by decide +kernel
theorem dX5_addOver_31 : decode cX5_addOver 31 = .ok (.aload_n 0, 1) := by decide +kernel
theorem dX5_addOver_32 : decode cX5_addOver 32 = .ok (.dup, 1) := by decide +kernel
theorem dX5_addOver_33 : decode cX5_addOver 33 = .ok (.getfield 29, 3) := by decide +kernel
theorem dX5_addOver_36 : decode cX5_addOver 36 = .ok (.iload_n 1, 1) := by decide +kernel
theorem dX5_addOver_37 : decode cX5_addOver 37 = .ok (.iadd, 1) := by decide +kernel
theorem dX5_addOver_38 : decode cX5_addOver 38 = .ok (.putfield 29, 3) := by decide +kernel
theorem dX5_addOver_41 : decode cX5_addOver 41 = .ok (.return_, 1) := by decide +kernel
theorem dX5_addRain_0 : decode cX5_addRain 0 = .ok (.aload_n 0, 1) := by decide +kernel
theorem dX5_addRain_1 : decode cX5_addRain 1 = .ok (.iconst 1, 1) := by decide +kernel
theorem dX5_addRain_2 : decode cX5_addRain 2 = .ok (.iload_n 1, 1) := by decide +kernel
theorem dX5_addRain_3 : decode cX5_addRain 3 = .ok (.iconst 0, 1) := by decide +kernel
theorem dX5_addRain_4 : decode cX5_addRain 4 = .ok (.invokevirtual 32, 3) := by decide +kernel
theorem dX5_addRain_7 : decode cX5_addRain 7 = .ok (.aload_n 0, 1) := by decide +kernel
theorem dX5_addRain_8 : decode cX5_addRain 8 = .ok (.dup, 1) := by decide +kernel
theorem dX5_addRain_9 : decode cX5_addRain 9 = .ok (.getfield 24, 3) := by decide +kernel
theorem dX5_addRain_12 : decode cX5_addRain 12 = .ok (.iload_n 1, 1) := by decide +kernel
theorem dX5_addRain_13 : decode cX5_addRain 13 = .ok (.isub, 1) := by decide +kernel
theorem dX5_addRain_14 : decode cX5_addRain 14 = .ok (.putfield 24, 3) := by decide +kernel
theorem dX5_addRain_17 : decode cX5_addRain 17 = .ok (.return_, 1) := by decide +kernel
theorem dX5_addEvent_0 : decode cX5_addEvent 0 = .ok (.aload_n 0, 1) := by decide +kernel
theorem dX5_addEvent_1 : decode cX5_addEvent 1 = .ok (.getfield 15, 3) := by decide +kernel
theorem dX5_addEvent_4 : decode cX5_addEvent 4 = .ok (.iconst 0, 1) := by decide +kernel
theorem dX5_addEvent_5 : decode cX5_addEvent 5 = .ok (.bipush 23, 2) := by decide +kernel
theorem dX5_addEvent_7 : decode cX5_addEvent 7 = .ok (.invokestatic 42, 3) := by decide +kernel
theorem dX5_addEvent_10 : decode cX5_addEvent 10 = .ok (.ifCond .ne 4, 3) := by decide +kernel
theorem dX5_addEvent_13 : decode cX5_addEvent 13 = .ok (.return_, 1) := by decide +kernel
theorem dX5_addEvent_14 : decode cX5_addEvent 14 = .ok (.aload_n 0, 1) := by decide +kernel
theorem dX5_addEvent_15 : decode cX5_addEvent 15 = .ok (.getfield 15, 3) := by decide +kernel
theorem dX5_addEvent_18 : decode cX5_addEvent 18 = .ok (.bipush 6, 2) := by decide +kernel
theorem dX5_addEvent_20 : decode cX5_addEvent 20 = .ok (.imul, 1) := by decide +kernel
theorem dX5_addEvent_21 : decode cX5_addEvent 21 = .ok (.istore 4, 2) := by decide +kernel
theorem dX5_addEvent_23 : decode cX5_addEvent 23 = .ok (.aload_n 0, 1) := by decide +kernel
theorem dX5_addEvent_24 : decode cX5_addEvent 24 = .ok (.getfield 11, 3) := by decide +kernel
theorem dX5_addEvent_27 : decode cX5_addEvent 27 = .ok (.iload 4, 2) := by decide +kernel
theorem dX5_addEvent_29 : decode cX5_addEvent 29 = .ok (.iconst 0, 1) := by decide +kernel
theorem dX5_addEvent_30 : decode cX5_addEvent 30 = .ok (.iadd, 1) := by decide +kernel
theorem dX5_addEvent_31 : decode cX5_addEvent 31 = .ok (.iload_n 1, 1) := by decide +kernel
theorem dX5_addEvent_32 : decode cX5_addEvent 32 = .ok (.iastore, 1) := by decide +kernel
theorem dX5_addEvent_33 : decode cX5_addEvent 33 = .ok (.aload_n 0, 1) := by decide +kernel
theorem dX5_addEvent_34 : decode cX5_addEvent 34 = .ok (.getfield 11, 3) := by decide +kernel
theorem dX5_addEvent_37 : decode cX5_addEvent 37 = .ok (.iload 4, 2) := by decide +kernel
theorem dX5_addEvent_39 : decode cX5_addEvent 39 = .ok (.iconst 1, 1) := by decide +kernel
theorem dX5_addEvent_40 : decode cX5_addEvent 40 = .ok (.iadd, 1) := by decide +kernel
theorem dX5_addEvent_41 : decode cX5_addEvent 41 = .ok (.iload_n 2, 1) := by decide +kernel
theorem dX5_addEvent_42 : decode cX5_addEvent 42 = .ok (.iastore, 1) := by decide +kernel
theorem dX5_addEvent_43 : decode cX5_addEvent 43 = .ok (.aload_n 0, 1) := by decide +kernel
theorem dX5_addEvent_44 : decode cX5_addEvent 44 = .ok (.getfield 11, 3) := by decide +kernel
theorem dX5_addEvent_47 : decode cX5_addEvent 47 = .ok (.iload 4, 2) := by decide +kernel
theorem dX5_addEvent_49 : decode cX5_addEvent 49 = .ok (.iconst 2, 1) := by decide +kernel
theorem dX5_addEvent_50 : decode cX5_addEvent 50 = .ok (.iadd, 1) := by decide +kernel
theorem dX5_addEvent_51 : decode cX5_addEvent 51 = .ok (.iload_n 3, 1) := by decide +kernel
theorem dX5_addEvent_52 : decode cX5_addEvent 52 = .ok (.iastore, 1) := by decide +kernel
theorem dX5_addEvent_53 : decode cX5_addEvent 53 = .ok (.aload_n 0, 1) := by decide +kernel
theorem dX5_addEvent_54 : decode cX5_addEvent 54 = .ok (.getfield 11, 3) := by decide +kernel
theorem dX5_addEvent_57 : decode cX5_addEvent 57 = .ok (.iload 4, 2) := by decide +kernel
theorem dX5_addEvent_59 : decode cX5_addEvent 59 = .ok (.iconst 3, 1) := by decide +kernel
theorem dX5_addEvent_60 : decode cX5_addEvent 60 = .ok (.iadd, 1) := by decide +kernel
theorem dX5_addEvent_61 : decode cX5_addEvent 61 = .ok (.aload_n 0, 1) := by decide +kernel
theorem dX5_addEvent_62 : decode cX5_addEvent 62 = .ok (.getfield 24, 3) := by decide +kernel
theorem dX5_addEvent_65 : decode cX5_addEvent 65 = .ok (.iastore, 1) := by decide +kernel
theorem dX5_addEvent_66 : decode cX5_addEvent 66 = .ok (.aload_n 0, 1) := by decide +kernel
theorem dX5_addEvent_67 : decode cX5_addEvent 67 = .ok (.getfield 11, 3) := by decide +kernel
theorem dX5_addEvent_70 : decode cX5_addEvent 70 = .ok (.iload 4, 2) := by decide +kernel
theorem dX5_addEvent_72 : decode cX5_addEvent 72 = .ok (.iconst 4, 1) := by decide +kernel
theorem dX5_addEvent_73 : decode cX5_addEvent 73 = .ok (.iadd, 1) := by decide +kernel
theorem dX5_addEvent_74 : decode cX5_addEvent 74 = .ok (.aload_n 0, 1) := by decide +kernel
theorem dX5_addEvent_75 : decode cX5_addEvent 75 = .ok (.getfield 28, 3) := by decide +kernel
theorem dX5_addEvent_78 : decode cX5_addEvent 78 = .ok (.iastore, 1) := by decide +kernel
theorem dX5_addEvent_79 : decode cX5_addEvent 79 = .ok (.aload_n 0, 1) := by decide +kernel
theorem dX5_addEvent_80 : decode cX5_addEvent 80 = .ok (.getfield 11, 3) := by decide +kernel
theorem dX5_addEvent_83 : decode cX5_addEvent 83 = .ok (.iload 4, 2) := by decide +kernel
theorem dX5_addEvent_85 : decode cX5_addEvent 85 = .ok (.iconst 5, 1) := by decide +kernel
theorem dX5_addEvent_86 : decode cX5_addEvent 86 = .ok (.iadd, 1) := by decide +kernel
theorem dX5_addEvent_87 : decode cX5_addEvent 87 = .ok (.aload_n 0, 1) := by decide +kernel
theorem dX5_addEvent_88 : decode cX5_addEvent 88 = .ok (.getfield 29, 3) := by decide +kernel
theorem dX5_addEvent_91 : decode cX5_addEvent 91 = .ok (.iastore, 1) := by decide +kernel
theorem dX5_addEvent_92 : decode cX5_addEvent 92 = .ok (.aload_n 0, 1) := by decide +kernel
theorem dX5_addEvent_93 : decode cX5_addEvent 93 = .ok (.dup, 1) := by decide +kernel
theorem dX5_addEvent_94 : decode cX5_addEvent 94 = .ok (.getfield 15, 3) := by decide +kernel
theorem dX5_addEvent_97 : decode cX5_addEvent 97 = .ok (.iconst 1, 1) := by decide +kernel
theorem dX5_addEvent_98 : decode cX5_addEvent 98 = .ok (.iadd, 1) := by decide +kernel
theorem dX5_addEvent_99 : decode cX5_addEvent 99 = .ok (.putfield 15, 3) := by decide +kernel
theorem dX5_addEvent_102 : decode cX5_addEvent 102 = .ok (.return_, 1) := by decide +kernel
theorem dX5_part_0 : decode cX5_part 0 = .ok (.iload_n 1, 1) := by decide +kernel
theorem dX5_part_1 : decode cX5_part 1 = .ok (.iconst 0, 1) := by decide +kernel
theorem dX5_part_2 : decode cX5_part 2 = .ok (.bipush 23, 2) := by decide +kernel
theorem dX5_part_4 : decode cX5_part 4 = .ok (.invokestatic 42, 3) := by decide +kernel
theorem dX5_part_7 : decode cX5_part 7 = .ok (.ifCond .eq 12, 3) := by decide +kernel
theorem dX5_part_10 : decode cX5_part 10 = .ok (.iload_n 2, 1) := by decide +kernel
theorem dX5_part_11 : decode cX5_part 11 = .ok (.iconst 0, 1) := by decide +kernel
theorem dX5_part_12 : decode cX5_part 12 = .ok (.iconst 5, 1) := by decide +kernel
theorem dX5_part_13 : decode cX5_part 13 = .ok (.invokestatic 42, 3) := by decide +kernel
theorem dX5_part_16 : decode cX5_part 16 = .ok (.ifCond .ne 5, 3) := by decide +kernel
theorem dX5_part_19 : decode cX5_part 19 = .ok (.iconst 0, 1) := by decide +kernel
theorem dX5_part_20 : decode cX5_part 20 = .ok (.ireturn, 1) := by decide +kernel
theorem dX5_part_21 : decode cX5_part 21 = .ok (.aload_n 0, 1) := by decide +kernel
theorem dX5_part_22 : decode cX5_part 22 = .ok (.getfield 11, 3) := by decide +kernel
theorem dX5_part_25 : decode cX5_part 25 = .ok (.iload_n 1, 1) := by decide +kernel
theorem dX5_part_26 : decode cX5_part 26 = .ok (.bipush 6, 2) := by decide +kernel
theorem dX5_part_28 : decode cX5_part 28 = .ok (.imul, 1) := by decide +kernel
theorem dX5_part_29 : decode cX5_part 29 = .ok (.iload_n 2, 1) := by decide +kernel
theorem dX5_part_30 : decode cX5_part 30 = .ok (.iadd, 1) := by decide +kernel
theorem dX5_part_31 : decode cX5_part 31 = .ok (.iaload, 1) := by decide +kernel
theorem dX5_part_32 : decode cX5_part 32 = .ok (.ireturn, 1) := by decide +kernel
theorem dX5_lastRain_0 : decode cX5_lastRain 0 = .ok (.aload_n 0, 1) := by decide +kernel
theorem dX5_lastRain_1 : decode cX5_lastRain 1 = .ok (.getfield 15, 3) := by decide +kernel
theorem dX5_lastRain_4 : decode cX5_lastRain 4 = .ok (.iconst 1, 1) := by decide +kernel
theorem dX5_lastRain_5 : decode cX5_lastRain 5 = .ok (.isub, 1) := by decide +kernel
theorem dX5_lastRain_6 : decode cX5_lastRain 6 = .ok (.istore_n 1, 1) := by decide +kernel
theorem dX5_lastRain_7 : decode cX5_lastRain 7 = .ok (.iload_n 1, 1) := by decide +kernel
theorem dX5_lastRain_8 : decode cX5_lastRain 8 = .ok (.ifCond .lt 21, 3) := by decide +kernel
theorem dX5_lastRain_11 : decode cX5_lastRain 11 = .ok (.aload_n 0, 1) := by decide +kernel
theorem dX5_lastRain_12 : decode cX5_lastRain 12 = .ok (.iload_n 1, 1) := by decide +kernel
theorem dX5_lastRain_13 : decode cX5_lastRain 13 = .ok (.iconst 0, 1) := by decide +kernel
theorem dX5_lastRain_14 : decode cX5_lastRain 14 = .ok (.invokevirtual 46, 3) := by decide +kernel
theorem dX5_lastRain_17 : decode cX5_lastRain 17 = .ok (.iconst 1, 1) := by decide +kernel
theorem dX5_lastRain_18 : decode cX5_lastRain 18 = .ok (.if_icmp .ne 5, 3) := by decide +kernel
theorem dX5_lastRain_21 : decode cX5_lastRain 21 = .ok (.iload_n 1, 1) := by decide +kernel
theorem dX5_lastRain_22 : decode cX5_lastRain 22 = .ok (.ireturn, 1) := by decide +kernel
theorem dX5_lastRain_23 : decode cX5_lastRain 23 = .ok (.iinc 1 (-1), 3) := by decide +kernel
theorem dX5_lastRain_26 : decode cX5_lastRain 26 = .ok (.goto (-19), 3) := by decide +kernel
theorem dX5_lastRain_29 : decode cX5_lastRain 29 = .ok (.iconst (-1), 1) := by decide +kernel
theorem dX5_lastRain_30 : decode cX5_lastRain 30 = .ok (.ireturn, 1) := by decide +kernel
theorem dX6_init_0 : decode cX6_init 0 = .ok (.aload_n 0, 1) := by decide +kernel
theorem dX6_init_1 : decode cX6_init 1 = .ok (.invokespecial 1, 3) := by decide +kernel
theorem dX6_init_4 : decode cX6_init 4 = .ok (.aload_n 0, 1) := by decide +kernel
theorem dX6_init_5 : decode cX6_init 5 = .ok (.bipush 6, 2) := by decide +kernel
theorem dX6_init_7 : decode cX6_init 7 = .ok (.putfield 7, 3) := by decide +kernel
theorem dX6_init_10 : decode cX6_init 10 = .ok (.aload_n 0, 1) := by decide +kernel
theorem dX6_init_11 : decode cX6_init 11 = .ok (.iconst 3, 1) := by decide +kernel
theorem dX6_init_12 : decode cX6_init 12 = .ok (.putfield 13, 3) := by decide +kernel
theorem dX6_init_15 : decode cX6_init 15 = .ok (.aload_n 0, 1) := by decide +kernel
theorem dX6_init_16 : decode cX6_init 16 = .ok (.bipush 100, 2) := by decide +kernel
theorem dX6_init_18 : decode cX6_init 18 = .ok (.putfield 16, 3) := by decide +kernel
theorem dX6_init_21 : decode cX6_init 21 = .ok (.aload_n 0, 1) := by decide +kernel
theorem dX6_init_22 : decode cX6_init 22 = .ok (.bipush 100, 2) := by decide +kernel
theorem dX6_init_24 : decode cX6_init 24 = .ok (.putfield 19, 3) := by decide +kernel
theorem dX6_init_27 : decode cX6_init 27 = .ok (.aload_n 0, 1) := by decide +kernel
theorem dX6_init_28 : decode cX6_init 28 = .ok (.iconst 0, 1) := by decide +kernel
theorem dX6_init_29 : decode cX6_init 29 = .ok (.putfield 22, 3) := by decide +kernel
theorem dX6_init_32 : decode cX6_init 32 = .ok (.aload_n 0, 1) := by decide +kernel
theorem dX6_init_33 : decode cX6_init 33 = .ok (.iconst 0, 1) := by decide +kernel
theorem dX6_init_34 : decode cX6_init 34 = .ok (.putfield 25, 3) := by decide +kernel
theorem dX6_init_37 : decode cX6_init 37 = .ok (.aload_n 0, 1) := by decide +kernel
theorem dX6_init_38 : decode cX6_init 38 = .ok (.iconst 5, 1) := by decide +kernel
theorem dX6_init_39 : decode cX6_init 39 = .ok (.putfield 28, 3) := by decide +kernel
theorem dX6_init_42 : decode cX6_init 42 = .ok (.return_, 1) := by decide +kernel
theorem dX7_init_0 : decode cX7_init 0 = .ok (.aload_n 0, 1) := by decide +kernel
theorem dX7_init_1 : decode cX7_init 1 = .ok (.invokespecial 3, 3) := by decide +kernel
theorem dX7_init_4 : decode cX7_init 4 = .ok (.aload_n 0, 1) := by decide +kernel
theorem dX7_init_5 : decode cX7_init 5 = .ok (.sipush 200, 3) := by decide +kernel
theorem dX7_init_8 : decode cX7_init 8 = .ok (.newarray .int, 2) := by decide +kernel
theorem dX7_init_10 : decode cX7_init 10 = .ok (.putfield 9, 3) := by decide +kernel
theorem dX7_init_13 : decode cX7_init 13 = .ok (.return_, 1) := by decide +kernel
theorem dX7_append_0 : decode cX7_append 0 = .ok (.iconst 0, 1) := by decide +kernel
theorem dX7_append_1 : decode cX7_append 1 = .ok (.istore 4, 2) := by decide +kernel
theorem dX7_append_3 : decode cX7_append 3 = .ok (.iload 4, 2) := by decide +kernel
theorem dX7_append_5 : decode cX7_append 5 = .ok (.iload_n 3, 1) := by decide +kernel
theorem dX7_append_6 : decode cX7_append 6 = .ok (.if_icmp .ge 54, 3) := by decide +kernel
theorem dX7_append_9 : decode cX7_append 9 = .ok (.aload_n 0, 1) := by decide +kernel
theorem dX7_append_10 : decode cX7_append 10 = .ok (.getfield 15, 3) := by decide +kernel
theorem dX7_append_13 : decode cX7_append 13 = .ok (.iconst 0, 1) := by decide +kernel
theorem dX7_append_14 : decode cX7_append 14 = .ok (.sipush 199, 3) := by decide +kernel
theorem dX7_append_17 : decode cX7_append 17 = .ok (.invokestatic 19, 3) := by decide +kernel
theorem dX7_append_20 : decode cX7_append 20 = .ok (.ifCond .eq 40, 3) := by decide +kernel
theorem dX7_append_23 : decode cX7_append 23 = .ok (.aload_n 0, 1) := by decide +kernel
theorem dX7_append_24 : decode cX7_append 24 = .ok (.getfield 9, 3) := by decide +kernel
theorem dX7_append_27 : decode cX7_append 27 = .ok (.aload_n 0, 1) := by decide +kernel
theorem dX7_append_28 : decode cX7_append 28 = .ok (.getfield 15, 3) := by decide +kernel
theorem dX7_append_31 : decode cX7_append 31 = .ok (.lload_n 1, 1) := by decide +kernel
theorem dX7_append_32 : decode cX7_append 32 = .ok (.bipush 8, 2) := by decide +kernel
theorem dX7_append_34 : decode cX7_append 34 = .ok (.iload 4, 2) := by decide +kernel
theorem dX7_append_36 : decode cX7_append 36 = .ok (.imul, 1) := by decide +kernel
theorem dX7_append_37 : decode cX7_append 37 = .ok (.lshr, 1) := by decide +kernel
theorem dX7_append_38 : decode cX7_append 38 = .ok (.ldc2_w 23, 3) := by decide +kernel
theorem dX7_append_41 : decode cX7_append 41 = .ok (.land, 1) := by decide +kernel
theorem dX7_append_42 : decode cX7_append 42 = .ok (.l2i, 1) := by decide +kernel
theorem dX7_append_43 : decode cX7_append 43 = .ok (.iastore, 1) := by decide +kernel
theorem dX7_append_44 : decode cX7_append 44 = .ok (.aload_n 0, 1) := by decide +kernel
theorem dX7_append_45 : decode cX7_append 45 = .ok (.dup, 1) := by decide +kernel
theorem dX7_append_46 : decode cX7_append 46 = .ok (.getfield 15, 3) := by decide +kernel
theorem dX7_append_49 : decode cX7_append 49 = .ok (.iconst 1, 1) := by decide +kernel
theorem dX7_append_50 : decode cX7_append 50 = .ok (.iadd, 1) := by decide +kernel
theorem dX7_append_51 : decode cX7_append 51 = .ok (.putfield 15, 3) := by decide +kernel
theorem dX7_append_54 : decode cX7_append 54 = .ok (.iinc 4 1, 3) := by decide +kernel
theorem dX7_append_57 : decode cX7_append 57 = .ok (.goto (-54), 3) := by decide +kernel
theorem dX7_append_60 : decode cX7_append 60 = .ok (.return_, 1) := by decide +kernel
theorem dX7_at_0 : decode cX7_at 0 = .ok (.iload_n 1, 1) := by decide +kernel
theorem dX7_at_1 : decode cX7_at 1 = .ok (.aload_n 0, 1) := by decide +kernel
theorem dX7_at_2 : decode cX7_at 2 = .ok (.getfield 15, 3) := by decide +kernel
theorem dX7_at_5 : decode cX7_at 5 = .ok (.if_icmp .ge 23, 3) := by decide +kernel
theorem dX7_at_8 : decode cX7_at 8 = .ok (.iload_n 1, 1) := by decide +kernel
theorem dX7_at_9 : decode cX7_at 9 = .ok (.iconst 0, 1) := by decide +kernel
theorem dX7_at_10 : decode cX7_at 10 = .ok (.sipush 199, 3) := by decide +kernel
theorem dX7_at_13 : decode cX7_at 13 = .ok (.invokestatic 19, 3) := by decide +kernel
theorem dX7_at_16 : decode cX7_at 16 = .ok (.ifCond .eq 12, 3) := by decide +kernel
theorem dX7_at_19 : decode cX7_at 19 = .ok (.aload_n 0, 1) := by decide +kernel
theorem dX7_at_20 : decode cX7_at 20 = .ok (.getfield 9, 3) := by decide +kernel
theorem dX7_at_23 : decode cX7_at 23 = .ok (.iload_n 1, 1) := by decide +kernel
theorem dX7_at_24 : decode cX7_at 24 = .ok (.iaload, 1) := by decide +kernel
theorem dX7_at_25 : decode cX7_at 25 = .ok (.goto 4, 3) := by decide +kernel
theorem dX7_at_28 : decode cX7_at 28 = .ok (.iconst (-1), 1) := by decide +kernel
theorem dX7_at_29 : decode cX7_at 29 = .ok (.ireturn, 1) := by decide +kernel
theorem dX8_init_0 : decode cX8_init 0 = .ok (.aload_n 0, 1) := by decide +kernel
theorem dX8_init_1 : decode cX8_init 1 = .ok (.invokespecial 3, 3) := by decide +kernel
theorem dX8_init_4 : decode cX8_init 4 = .ok (.aload_n 0, 1) := by decide +kernel
theorem dX8_init_5 : decode cX8_init 5 = .ok (.bipush 13, 2) := by decide +kernel
theorem dX8_init_7 : decode cX8_init 7 = .ok (.newarray .int, 2) := by decide +kernel
theorem dX8_init_9 : decode cX8_init 9 = .ok (.putfield 9, 3) := by decide +kernel
theorem dX8_init_12 : decode cX8_init 12 = .ok (.aload_n 0, 1) := by decide +kernel
theorem dX8_init_13 : decode cX8_init 13 = .ok (.aload_n 1, 1) := by decide +kernel
theorem dX8_init_14 : decode cX8_init 14 = .ok (.putfield 15, 3) := by decide +kernel
theorem dX8_init_17 : decode cX8_init 17 = .ok (.aload_n 0, 1) := by decide +kernel
theorem dX8_init_18 : decode cX8_init 18 = .ok (.aload_n 2, 1) := by decide +kernel
theorem dX8_init_19 : decode cX8_init 19 = .ok (.putfield 19, 3) := by decide +kernel
theorem dX8_init_22 : decode cX8_init 22 = .ok (.aload_n 0, 1) := by decide +kernel
theorem dX8_init_23 : decode cX8_init 23 = .ok (.aload_n 3, 1) := by decide +kernel
theorem dX8_init_24 : decode cX8_init 24 = .ok (.putfield 23, 3) := by decide +kernel
theorem dX8_init_27 : decode cX8_init 27 = .ok (.return_, 1) := by decide +kernel
theorem dX8_behind_0 : decode cX8_behind 0 = .ok (.aload_n 0, 1) := by decide +kernel
theorem dX8_behind_1 : decode cX8_behind 1 = .ok (.iload_n 1, 1) := by decide +kernel
theorem dX8_behind_2 : decode cX8_behind 2 = .ok (.invokevirtual 27, 3) := by decide +kernel
theorem dX8_behind_5 : decode cX8_behind 5 = .ok (.iconst 0, 1) := by decide +kernel
theorem dX8_behind_6 : decode cX8_behind 6 = .ok (.istore 4, 2) := by decide +kernel
theorem dX8_behind_8 : decode cX8_behind 8 = .ok (.iload 4, 2) := by decide +kernel
theorem dX8_behind_10 : decode cX8_behind 10 = .ok (.iload_n 3, 1) := by decide +kernel
theorem dX8_behind_11 : decode cX8_behind 11 = .ok (.if_icmp .ge 52, 3) := by decide +kernel
theorem dX8_behind_14 : decode cX8_behind 14 = .ok (.aload_n 2, 1) := by decide +kernel
theorem dX8_behind_15 : decode cX8_behind 15 = .ok (.iload 4, 2) := by decide +kernel
theorem dX8_behind_17 : decode cX8_behind 17 = .ok (.iconst 0, 1) := by decide +kernel
theorem dX8_behind_18 : decode cX8_behind 18 = .ok (.invokevirtual 33, 3) := by decide +kernel
theorem dX8_behind_21 : decode cX8_behind 21 = .ok (.iconst 1, 1) := by decide +kernel
theorem dX8_behind_22 : decode cX8_behind 22 = .ok (.if_icmp .ne 35, 3) := by decide +kernel
theorem dX8_behind_25 : decode cX8_behind 25 = .ok (.aload_n 0, 1) := by decide +kernel
theorem dX8_behind_26 : decode cX8_behind 26 = .ok (.aload_n 2, 1) := by decide +kernel
theorem dX8_behind_27 : decode cX8_behind 27 = .ok (.iload 4, 2) := by decide +kernel
theorem dX8_behind_29 : decode cX8_behind 29 = .ok (.iconst 1, 1) := by decide +kernel
theorem dX8_behind_30 : decode cX8_behind 30 = .ok (.invokevirtual 33, 3) := by decide +kernel
theorem dX8_behind_33 : decode cX8_behind 33 = .ok (.aload_n 2, 1) := by decide +kernel
theorem dX8_behind_34 : decode cX8_behind 34 = .ok (.iload 4, 2) := by decide +kernel
theorem dX8_behind_36 : decode cX8_behind 36 = .ok (.iconst 3, 1) := by decide +kernel
theorem dX8_behind_37 : decode cX8_behind 37 = .ok (.invokevirtual 33, 3) := by decide +kernel
theorem dX8_behind_40 : decode cX8_behind 40 = .ok (.aload_n 2, 1) := by decide +kernel
theorem dX8_behind_41 : decode cX8_behind 41 = .ok (.iload 4, 2) := by decide +kernel
theorem dX8_behind_43 : decode cX8_behind 43 = .ok (.iconst 4, 1) := by decide +kernel
theorem dX8_behind_44 : decode cX8_behind 44 = .ok (.invokevirtual 33, 3) := by decide +kernel
theorem dX8_behind_47 : decode cX8_behind 47 = .ok (.aload_n 2, 1) := by decide +kernel
theorem dX8_behind_48 : decode cX8_behind 48 = .ok (.iload 4, 2) := by decide +kernel
theorem dX8_behind_50 : decode cX8_behind 50 = .ok (.iconst 5, 1) := by decide +kernel
theorem dX8_behind_51 : decode cX8_behind 51 = .ok (.invokevirtual 33, 3) := by decide +kernel
theorem dX8_behind_54 : decode cX8_behind 54 = .ok (.invokevirtual 37, 3) := by decide +kernel
theorem dX8_behind_57 : decode cX8_behind 57 = .ok (.iinc 4 1, 3) := by decide +kernel
theorem dX8_behind_60 : decode cX8_behind 60 = .ok (.goto (-52), 3) := by decide +kernel
theorem dX8_behind_63 : decode cX8_behind 63 = .ok (.aload_n 0, 1) := by decide +kernel
theorem dX8_behind_64 : decode cX8_behind 64 = .ok (.invokevirtual 41, 3) := by decide +kernel
theorem dX8_behind_67 : decode cX8_behind 67 = .ok (.ireturn, 1) := by decide +kernel
theorem dX8_afterOneRain_0 : decode cX8_afterOneRain 0 = .ok (.aload_n 0, 1) := by decide +kernel
theorem dX8_afterOneRain_1 : decode cX8_afterOneRain 1 = .ok (.iload_n 1, 1) := by decide +kernel
theorem dX8_afterOneRain_2 : decode cX8_afterOneRain 2 = .ok (.invokevirtual 27, 3) := by decide +kernel
theorem dX8_afterOneRain_5 : decode cX8_afterOneRain 5 = .ok (.aload_n 0, 1) := by decide +kernel
theorem dX8_afterOneRain_6 : decode cX8_afterOneRain 6 = .ok (.iload_n 3, 1) := by decide +kernel
theorem dX8_afterOneRain_7 : decode cX8_afterOneRain 7 = .ok (.iload_n 2, 1) := by decide +kernel
theorem dX8_afterOneRain_8 : decode cX8_afterOneRain 8 = .ok (.aload_n 0, 1) := by decide +kernel
theorem dX8_afterOneRain_9 : decode cX8_afterOneRain 9 = .ok (.getfield 15, 3) := by decide +kernel
theorem dX8_afterOneRain_12 : decode cX8_afterOneRain 12 = .ok (.getfield 45, 3) := by decide +kernel
theorem dX8_afterOneRain_15 : decode cX8_afterOneRain 15 = .ok (.iconst 0, 1) := by decide +kernel
theorem dX8_afterOneRain_16 : decode cX8_afterOneRain 16 = .ok (.invokevirtual 37, 3) := by decide +kernel
theorem dX8_afterOneRain_19 : decode cX8_afterOneRain 19 = .ok (.aload_n 0, 1) := by decide +kernel
theorem dX8_afterOneRain_20 : decode cX8_afterOneRain 20 = .ok (.invokevirtual 41, 3) := by decide +kernel
theorem dX8_afterOneRain_23 : decode cX8_afterOneRain 23 = .ok (.ireturn, 1) := by decide +kernel
theorem dX8_keepOddsOnSheet_0 : decode cX8_keepOddsOnSheet 0 = .ok (.aload_n 0, 1) := by decide +kernel
theorem dX8_keepOddsOnSheet_1 : decode cX8_keepOddsOnSheet 1 = .ok (.iconst 4, 1) := by decide +kernel
theorem dX8_keepOddsOnSheet_2 : decode cX8_keepOddsOnSheet 2 = .ok (.invokevirtual 27, 3) := by decide +kernel
theorem dX8_keepOddsOnSheet_5 : decode cX8_keepOddsOnSheet 5 = .ok (.iconst 1, 1) := by decide +kernel
theorem dX8_keepOddsOnSheet_6 : decode cX8_keepOddsOnSheet 6 = .ok (.istore_n 1, 1) := by decide +kernel
theorem dX8_keepOddsOnSheet_7 : decode cX8_keepOddsOnSheet 7 = .ok (.iload_n 1, 1) := by decide +kernel
theorem dX8_keepOddsOnSheet_8 : decode cX8_keepOddsOnSheet 8 = .ok (.aload_n 0, 1) := by decide +kernel
theorem dX8_keepOddsOnSheet_9 : decode cX8_keepOddsOnSheet 9 = .ok (.getfield 15, 3) := by decide +kernel
theorem dX8_keepOddsOnSheet_12 : decode cX8_keepOddsOnSheet 12 = .ok (.getfield 51, 3) := by decide +kernel
theorem dX8_keepOddsOnSheet_15 : decode cX8_keepOddsOnSheet 15 = .ok (.if_icmp .ge 41, 3) := by decide +kernel
theorem dX8_keepOddsOnSheet_18 : decode cX8_keepOddsOnSheet 18 = .ok (.iload_n 1, 1) := by decide +kernel
theorem dX8_keepOddsOnSheet_19 : decode cX8_keepOddsOnSheet 19 = .ok (.bipush 12, 2) := by decide +kernel
theorem dX8_keepOddsOnSheet_21 : decode cX8_keepOddsOnSheet 21 = .ok (.if_icmp .gt 35, 3) := by decide +kernel
theorem dX8_keepOddsOnSheet_24 : decode cX8_keepOddsOnSheet 24 = .ok (.aload_n 0, 1) := by decide +kernel
theorem dX8_keepOddsOnSheet_25 : decode cX8_keepOddsOnSheet 25 = .ok (.getfield 9, 3) := by decide +kernel
theorem dX8_keepOddsOnSheet_28 : decode cX8_keepOddsOnSheet 28 = .ok (.iload_n 1, 1) := by decide +kernel
theorem dX8_keepOddsOnSheet_29 : decode cX8_keepOddsOnSheet 29 = .ok (.aload_n 0, 1) := by decide +kernel
theorem dX8_keepOddsOnSheet_30 : decode cX8_keepOddsOnSheet 30 = .ok (.iload_n 1, 1) := by decide +kernel
theorem dX8_keepOddsOnSheet_31 : decode cX8_keepOddsOnSheet 31 = .ok (.aload_n 0, 1) := by decide +kernel
theorem dX8_keepOddsOnSheet_32 : decode cX8_keepOddsOnSheet 32 = .ok (.getfield 15, 3) := by decide +kernel
theorem dX8_keepOddsOnSheet_35 : decode cX8_keepOddsOnSheet 35 = .ok (.getfield 51, 3) := by decide +kernel
theorem dX8_keepOddsOnSheet_38 : decode cX8_keepOddsOnSheet 38 = .ok (.aload_n 0, 1) := by decide +kernel
theorem dX8_keepOddsOnSheet_39 : decode cX8_keepOddsOnSheet 39 = .ok (.getfield 15, 3) := by decide +kernel
theorem dX8_keepOddsOnSheet_42 : decode cX8_keepOddsOnSheet 42 = .ok (.getfield 45, 3) := by decide +kernel
theorem dX8_keepOddsOnSheet_45 : decode cX8_keepOddsOnSheet 45 = .ok (.iconst 0, 1) := by decide +kernel
theorem dX8_keepOddsOnSheet_46 : decode cX8_keepOddsOnSheet 46 = .ok (.invokevirtual 54, 3) := by decide +kernel
theorem dX8_keepOddsOnSheet_49 : decode cX8_keepOddsOnSheet 49 = .ok (.iastore, 1) := by decide +kernel
theorem dX8_keepOddsOnSheet_50 : decode cX8_keepOddsOnSheet 50 = .ok (.iinc 1 1, 3) := by decide +kernel
theorem dX8_keepOddsOnSheet_53 : decode cX8_keepOddsOnSheet 53 = .ok (.goto (-46), 3) := by decide +kernel
theorem dX8_keepOddsOnSheet_56 : decode cX8_keepOddsOnSheet 56 = .ok (.return_, 1) := by decide +kernel
theorem dX8_differenceOf_0 : decode cX8_differenceOf 0 = .ok (.iconst 0, 1) := by decide +kernel
theorem dX8_differenceOf_1 : decode cX8_differenceOf 1 = .ok (.istore_n 2, 1) := by decide +kernel
theorem dX8_differenceOf_2 : decode cX8_differenceOf 2 = .ok (.iconst 1, 1) := by decide +kernel
theorem dX8_differenceOf_3 : decode cX8_differenceOf 3 = .ok (.istore_n 3, 1) := by decide +kernel
theorem dX8_differenceOf_4 : decode cX8_differenceOf 4 = .ok (.iload_n 3, 1) := by decide +kernel
theorem dX8_differenceOf_5 : decode cX8_differenceOf 5 = .ok (.aload_n 0, 1) := by decide +kernel
theorem dX8_differenceOf_6 : decode cX8_differenceOf 6 = .ok (.getfield 15, 3) := by decide +kernel
theorem dX8_differenceOf_9 : decode cX8_differenceOf 9 = .ok (.getfield 51, 3) := by decide +kernel
theorem dX8_differenceOf_12 : decode cX8_differenceOf 12 = .ok (.if_icmp .ge 34, 3) := by decide +kernel
theorem dX8_differenceOf_15 : decode cX8_differenceOf 15 = .ok (.iload_n 3, 1) := by decide +kernel
theorem dX8_differenceOf_16 : decode cX8_differenceOf 16 = .ok (.bipush 12, 2) := by decide +kernel
theorem dX8_differenceOf_18 : decode cX8_differenceOf 18 = .ok (.if_icmp .gt 28, 3) := by decide +kernel
theorem dX8_differenceOf_21 : decode cX8_differenceOf 21 = .ok (.iload_n 2, 1) := by decide +kernel
theorem dX8_differenceOf_22 : decode cX8_differenceOf 22 = .ok (.aload_n 0, 1) := by decide +kernel
theorem dX8_differenceOf_23 : decode cX8_differenceOf 23 = .ok (.iload_n 1, 1) := by decide +kernel
theorem dX8_differenceOf_24 : decode cX8_differenceOf 24 = .ok (.iload_n 3, 1) := by decide +kernel
theorem dX8_differenceOf_25 : decode cX8_differenceOf 25 = .ok (.invokevirtual 58, 3) := by decide +kernel
theorem dX8_differenceOf_28 : decode cX8_differenceOf 28 = .ok (.aload_n 0, 1) := by decide +kernel
theorem dX8_differenceOf_29 : decode cX8_differenceOf 29 = .ok (.getfield 9, 3) := by decide +kernel
theorem dX8_differenceOf_32 : decode cX8_differenceOf 32 = .ok (.iload_n 3, 1) := by decide +kernel
theorem dX8_differenceOf_33 : decode cX8_differenceOf 33 = .ok (.iaload, 1) := by decide +kernel
theorem dX8_differenceOf_34 : decode cX8_differenceOf 34 = .ok (.isub, 1) := by decide +kernel
theorem dX8_differenceOf_35 : decode cX8_differenceOf 35 = .ok (.invokestatic 61, 3) := by decide +kernel
theorem dX8_differenceOf_38 : decode cX8_differenceOf 38 = .ok (.iadd, 1) := by decide +kernel
theorem dX8_differenceOf_39 : decode cX8_differenceOf 39 = .ok (.istore_n 2, 1) := by decide +kernel
theorem dX8_differenceOf_40 : decode cX8_differenceOf 40 = .ok (.iinc 3 1, 3) := by decide +kernel
theorem dX8_differenceOf_43 : decode cX8_differenceOf 43 = .ok (.goto (-39), 3) := by decide +kernel
theorem dX8_differenceOf_46 : decode cX8_differenceOf 46 = .ok (.iload_n 2, 1) := by decide +kernel
theorem dX8_differenceOf_47 : decode cX8_differenceOf 47 = .ok (.ireturn, 1) := by decide +kernel
theorem dX8_begin_0 : decode cX8_begin 0 = .ok (.aload_n 0, 1) := by decide +kernel
theorem dX8_begin_1 : decode cX8_begin 1 = .ok (.iload_n 1, 1) := by decide +kernel
theorem dX8_begin_2 : decode cX8_begin 2 = .ok (.putfield 67, 3) := by decide +kernel
theorem dX8_begin_5 : decode cX8_begin 5 = .ok (.aload_n 0, 1) := by decide +kernel
theorem dX8_begin_6 : decode cX8_begin 6 = .ok (.iconst 0, 1) := by decide +kernel
theorem dX8_begin_7 : decode cX8_begin 7 = .ok (.putfield 70, 3) := by decide +kernel
theorem dX8_begin_10 : decode cX8_begin 10 = .ok (.aload_n 0, 1) := by decide +kernel
theorem dX8_begin_11 : decode cX8_begin 11 = .ok (.iconst 0, 1) := by decide +kernel
theorem dX8_begin_12 : decode cX8_begin 12 = .ok (.putfield 73, 3) := by decide +kernel
theorem dX8_begin_15 : decode cX8_begin 15 = .ok (.aload_n 0, 1) := by decide +kernel
theorem dX8_begin_16 : decode cX8_begin 16 = .ok (.aload_n 0, 1) := by decide +kernel
theorem dX8_begin_17 : decode cX8_begin 17 = .ok (.getfield 23, 3) := by decide +kernel
theorem dX8_begin_20 : decode cX8_begin 20 = .ok (.getfield 76, 3) := by decide +kernel
theorem dX8_begin_23 : decode cX8_begin 23 = .ok (.iconst 1, 1) := by decide +kernel
theorem dX8_begin_24 : decode cX8_begin 24 = .ok (.iadd, 1) := by decide +kernel
theorem dX8_begin_25 : decode cX8_begin 25 = .ok (.putfield 81, 3) := by decide +kernel
theorem dX8_begin_28 : decode cX8_begin 28 = .ok (.return_, 1) := by decide +kernel
theorem dX8_hear_0 : decode cX8_hear 0 = .ok (.aload_n 0, 1) := by decide +kernel
theorem dX8_hear_1 : decode cX8_hear 1 = .ok (.dup, 1) := by decide +kernel
theorem dX8_hear_2 : decode cX8_hear 2 = .ok (.getfield 70, 3) := by decide +kernel
theorem dX8_hear_5 : decode cX8_hear 5 = .ok (.iload_n 1, 1) := by decide +kernel
theorem dX8_hear_6 : decode cX8_hear 6 = .ok (.iadd, 1) := by decide +kernel
theorem dX8_hear_7 : decode cX8_hear 7 = .ok (.putfield 70, 3) := by decide +kernel
theorem dX8_hear_10 : decode cX8_hear 10 = .ok (.aload_n 0, 1) := by decide +kernel
theorem dX8_hear_11 : decode cX8_hear 11 = .ok (.getfield 67, 3) := by decide +kernel
theorem dX8_hear_14 : decode cX8_hear 14 = .ok (.iconst 2, 1) := by decide +kernel
theorem dX8_hear_15 : decode cX8_hear 15 = .ok (.if_icmp .ne 44, 3) := by decide +kernel
theorem dX8_hear_18 : decode cX8_hear 18 = .ok (.aload_n 0, 1) := by decide +kernel
theorem dX8_hear_19 : decode cX8_hear 19 = .ok (.dup, 1) := by decide +kernel
theorem dX8_hear_20 : decode cX8_hear 20 = .ok (.getfield 73, 3) := by decide +kernel
theorem dX8_hear_23 : decode cX8_hear 23 = .ok (.aload_n 0, 1) := by decide +kernel
theorem dX8_hear_24 : decode cX8_hear 24 = .ok (.getfield 19, 3) := by decide +kernel
theorem dX8_hear_27 : decode cX8_hear 27 = .ok (.iload_n 2, 1) := by decide +kernel
theorem dX8_hear_28 : decode cX8_hear 28 = .ok (.iload_n 3, 1) := by decide +kernel
theorem dX8_hear_29 : decode cX8_hear 29 = .ok (.aload_n 0, 1) := by decide +kernel
theorem dX8_hear_30 : decode cX8_hear 30 = .ok (.getfield 15, 3) := by decide +kernel
theorem dX8_hear_33 : decode cX8_hear 33 = .ok (.invokevirtual 84, 3) := by decide +kernel
theorem dX8_hear_36 : decode cX8_hear 36 = .ok (.aload_n 0, 1) := by decide +kernel
theorem dX8_hear_37 : decode cX8_hear 37 = .ok (.getfield 19, 3) := by decide +kernel
theorem dX8_hear_40 : decode cX8_hear 40 = .ok (.iload_n 2, 1) := by decide +kernel
theorem dX8_hear_41 : decode cX8_hear 41 = .ok (.iload_n 1, 1) := by decide +kernel
theorem dX8_hear_42 : decode cX8_hear 42 = .ok (.isub, 1) := by decide +kernel
theorem dX8_hear_43 : decode cX8_hear 43 = .ok (.iload_n 3, 1) := by decide +kernel
theorem dX8_hear_44 : decode cX8_hear 44 = .ok (.aload_n 0, 1) := by decide +kernel
theorem dX8_hear_45 : decode cX8_hear 45 = .ok (.getfield 15, 3) := by decide +kernel
theorem dX8_hear_48 : decode cX8_hear 48 = .ok (.invokevirtual 84, 3) := by decide +kernel
theorem dX8_hear_51 : decode cX8_hear 51 = .ok (.isub, 1) := by decide +kernel
theorem dX8_hear_52 : decode cX8_hear 52 = .ok (.iadd, 1) := by decide +kernel
theorem dX8_hear_53 : decode cX8_hear 53 = .ok (.putfield 73, 3) := by decide +kernel
theorem dX8_hear_56 : decode cX8_hear 56 = .ok (.goto 59, 3) := by decide +kernel
theorem dX8_hear_59 : decode cX8_hear 59 = .ok (.aload_n 0, 1) := by decide +kernel
theorem dX8_hear_60 : decode cX8_hear 60 = .ok (.getfield 67, 3) := by decide +kernel
theorem dX8_hear_63 : decode cX8_hear 63 = .ok (.iconst 3, 1) := by decide +kernel
theorem dX8_hear_64 : decode cX8_hear 64 = .ok (.if_icmp .ne 30, 3) := by decide +kernel
theorem dX8_hear_67 : decode cX8_hear 67 = .ok (.aload_n 0, 1) := by decide +kernel
theorem dX8_hear_68 : decode cX8_hear 68 = .ok (.dup, 1) := by decide +kernel
theorem dX8_hear_69 : decode cX8_hear 69 = .ok (.getfield 73, 3) := by decide +kernel
theorem dX8_hear_72 : decode cX8_hear 72 = .ok (.aload_n 0, 1) := by decide +kernel
theorem dX8_hear_73 : decode cX8_hear 73 = .ok (.iload_n 2, 1) := by decide +kernel
theorem dX8_hear_74 : decode cX8_hear 74 = .ok (.iload_n 3, 1) := by decide +kernel
theorem dX8_hear_75 : decode cX8_hear 75 = .ok (.invokevirtual 90, 3) := by decide +kernel
theorem dX8_hear_78 : decode cX8_hear 78 = .ok (.aload_n 0, 1) := by decide +kernel
theorem dX8_hear_79 : decode cX8_hear 79 = .ok (.iload_n 2, 1) := by decide +kernel
theorem dX8_hear_80 : decode cX8_hear 80 = .ok (.iload_n 1, 1) := by decide +kernel
theorem dX8_hear_81 : decode cX8_hear 81 = .ok (.isub, 1) := by decide +kernel
theorem dX8_hear_82 : decode cX8_hear 82 = .ok (.iload_n 3, 1) := by decide +kernel
theorem dX8_hear_83 : decode cX8_hear 83 = .ok (.invokevirtual 90, 3) := by decide +kernel
theorem dX8_hear_86 : decode cX8_hear 86 = .ok (.isub, 1) := by decide +kernel
theorem dX8_hear_87 : decode cX8_hear 87 = .ok (.iadd, 1) := by decide +kernel
theorem dX8_hear_88 : decode cX8_hear 88 = .ok (.putfield 73, 3) := by decide +kernel
theorem dX8_hear_91 : decode cX8_hear 91 = .ok (.goto 24, 3) := by decide +kernel
theorem dX8_hear_94 : decode cX8_hear 94 = .ok (.aload_n 0, 1) := by decide +kernel
theorem dX8_hear_95 : decode cX8_hear 95 = .ok (.getfield 67, 3) := by decide +kernel
theorem dX8_hear_98 : decode cX8_hear 98 = .ok (.iconst 4, 1) := by decide +kernel
theorem dX8_hear_99 : decode cX8_hear 99 = .ok (.if_icmp .ne 16, 3) := by decide +kernel
theorem dX8_hear_102 : decode cX8_hear 102 = .ok (.aload_n 0, 1) := by decide +kernel
theorem dX8_hear_103 : decode cX8_hear 103 = .ok (.aload_n 0, 1) := by decide +kernel
theorem dX8_hear_104 : decode cX8_hear 104 = .ok (.iload_n 1, 1) := by decide +kernel
theorem dX8_hear_105 : decode cX8_hear 105 = .ok (.iload_n 2, 1) := by decide +kernel
theorem dX8_hear_106 : decode cX8_hear 106 = .ok (.iload_n 3, 1) := by decide +kernel
theorem dX8_hear_107 : decode cX8_hear 107 = .ok (.iload 4, 2) := by decide +kernel
theorem dX8_hear_109 : decode cX8_hear 109 = .ok (.invokevirtual 54, 3) := by decide +kernel
theorem dX8_hear_112 : decode cX8_hear 112 = .ok (.putfield 81, 3) := by decide +kernel
theorem dX8_hear_115 : decode cX8_hear 115 = .ok (.return_, 1) := by decide +kernel
theorem dX8_ruled_0 : decode cX8_ruled 0 = .ok (.aload_n 0, 1) := by decide +kernel
theorem dX8_ruled_1 : decode cX8_ruled 1 = .ok (.getfield 67, 3) := by decide +kernel
theorem dX8_ruled_4 : decode cX8_ruled 4 = .ok (.tableswitch 148 0 5 #[40, 78, 103, 103, 148, 132], 40) := by decide +kernel
theorem dX8_ruled_44 : decode cX8_ruled 44 = .ok (.aload_n 0, 1) := by decide +kernel
theorem dX8_ruled_45 : decode cX8_ruled 45 = .ok (.getfield 23, 3) := by decide +kernel
theorem dX8_ruled_48 : decode cX8_ruled 48 = .ok (.getfield 76, 3) := by decide +kernel
theorem dX8_ruled_51 : decode cX8_ruled 51 = .ok (.aload_n 0, 1) := by decide +kernel
theorem dX8_ruled_52 : decode cX8_ruled 52 = .ok (.getfield 15, 3) := by decide +kernel
theorem dX8_ruled_55 : decode cX8_ruled 55 = .ok (.getfield 51, 3) := by decide +kernel
theorem dX8_ruled_58 : decode cX8_ruled 58 = .ok (.aload_n 0, 1) := by decide +kernel
theorem dX8_ruled_59 : decode cX8_ruled 59 = .ok (.getfield 70, 3) := by decide +kernel
theorem dX8_ruled_62 : decode cX8_ruled 62 = .ok (.isub, 1) := by decide +kernel
theorem dX8_ruled_63 : decode cX8_ruled 63 = .ok (.imul, 1) := by decide +kernel
theorem dX8_ruled_64 : decode cX8_ruled 64 = .ok (.i2l, 1) := by decide +kernel
theorem dX8_ruled_65 : decode cX8_ruled 65 = .ok (.aload_n 0, 1) := by decide +kernel
theorem dX8_ruled_66 : decode cX8_ruled 66 = .ok (.getfield 15, 3) := by decide +kernel
theorem dX8_ruled_69 : decode cX8_ruled 69 = .ok (.getfield 51, 3) := by decide +kernel
theorem dX8_ruled_72 : decode cX8_ruled 72 = .ok (.i2l, 1) := by decide +kernel
theorem dX8_ruled_73 : decode cX8_ruled 73 = .ok (.invokestatic 93, 3) := by decide +kernel
theorem dX8_ruled_76 : decode cX8_ruled 76 = .ok (.lconst 1, 1) := by decide +kernel
theorem dX8_ruled_77 : decode cX8_ruled 77 = .ok (.ladd, 1) := by decide +kernel
theorem dX8_ruled_78 : decode cX8_ruled 78 = .ok (.invokestatic 97, 3) := by decide +kernel
theorem dX8_ruled_81 : decode cX8_ruled 81 = .ok (.ireturn, 1) := by decide +kernel
theorem dX8_ruled_82 : decode cX8_ruled 82 = .ok (.aload_n 0, 1) := by decide +kernel
theorem dX8_ruled_83 : decode cX8_ruled 83 = .ok (.getfield 23, 3) := by decide +kernel
theorem dX8_ruled_86 : decode cX8_ruled 86 = .ok (.aload_n 0, 1) := by decide +kernel
theorem dX8_ruled_87 : decode cX8_ruled 87 = .ok (.getfield 70, 3) := by decide +kernel
theorem dX8_ruled_90 : decode cX8_ruled 90 = .ok (.aload_n 0, 1) := by decide +kernel
theorem dX8_ruled_91 : decode cX8_ruled 91 = .ok (.getfield 15, 3) := by decide +kernel
theorem dX8_ruled_94 : decode cX8_ruled 94 = .ok (.getfield 51, 3) := by decide +kernel
theorem dX8_ruled_97 : decode cX8_ruled 97 = .ok (.invokevirtual 101, 3) := by decide +kernel
theorem dX8_ruled_100 : decode cX8_ruled 100 = .ok (.iconst 1, 1) := by decide +kernel
theorem dX8_ruled_101 : decode cX8_ruled 101 = .ok (.iadd, 1) := by decide +kernel
theorem dX8_ruled_102 : decode cX8_ruled 102 = .ok (.i2l, 1) := by decide +kernel
theorem dX8_ruled_103 : decode cX8_ruled 103 = .ok (.invokestatic 97, 3) := by decide +kernel
theorem dX8_ruled_106 : decode cX8_ruled 106 = .ok (.ireturn, 1) := by decide +kernel
theorem dX8_ruled_107 : decode cX8_ruled 107 = .ok (.aload_n 0, 1) := by decide +kernel
theorem dX8_ruled_108 : decode cX8_ruled 108 = .ok (.getfield 23, 3) := by decide +kernel
theorem dX8_ruled_111 : decode cX8_ruled 111 = .ok (.getfield 76, 3) := by decide +kernel
theorem dX8_ruled_114 : decode cX8_ruled 114 = .ok (.sipush 1000, 3) := by decide +kernel
theorem dX8_ruled_117 : decode cX8_ruled 117 = .ok (.aload_n 0, 1) := by decide +kernel
theorem dX8_ruled_118 : decode cX8_ruled 118 = .ok (.getfield 73, 3) := by decide +kernel
theorem dX8_ruled_121 : decode cX8_ruled 121 = .ok (.isub, 1) := by decide +kernel
theorem dX8_ruled_122 : decode cX8_ruled 122 = .ok (.imul, 1) := by decide +kernel
theorem dX8_ruled_123 : decode cX8_ruled 123 = .ok (.i2l, 1) := by decide +kernel
theorem dX8_ruled_124 : decode cX8_ruled 124 = .ok (.ldc2_w 104, 3) := by decide +kernel
theorem dX8_ruled_127 : decode cX8_ruled 127 = .ok (.invokestatic 93, 3) := by decide +kernel
theorem dX8_ruled_130 : decode cX8_ruled 130 = .ok (.lconst 1, 1) := by decide +kernel
theorem dX8_ruled_131 : decode cX8_ruled 131 = .ok (.ladd, 1) := by decide +kernel
theorem dX8_ruled_132 : decode cX8_ruled 132 = .ok (.invokestatic 97, 3) := by decide +kernel
theorem dX8_ruled_135 : decode cX8_ruled 135 = .ok (.ireturn, 1) := by decide +kernel
theorem dX8_ruled_136 : decode cX8_ruled 136 = .ok (.aload_n 0, 1) := by decide +kernel
theorem dX8_ruled_137 : decode cX8_ruled 137 = .ok (.aload_n 0, 1) := by decide +kernel
theorem dX8_ruled_138 : decode cX8_ruled 138 = .ok (.getfield 15, 3) := by decide +kernel
theorem dX8_ruled_141 : decode cX8_ruled 141 = .ok (.getfield 106, 3) := by decide +kernel
theorem dX8_ruled_144 : decode cX8_ruled 144 = .ok (.aload_n 0, 1) := by decide +kernel
theorem dX8_ruled_145 : decode cX8_ruled 145 = .ok (.getfield 70, 3) := by decide +kernel
theorem dX8_ruled_148 : decode cX8_ruled 148 = .ok (.invokevirtual 58, 3) := by decide +kernel
theorem dX8_ruled_151 : decode cX8_ruled 151 = .ok (.ireturn, 1) := by decide +kernel
theorem dX8_ruled_152 : decode cX8_ruled 152 = .ok (.aload_n 0, 1) := by decide +kernel
theorem dX8_ruled_153 : decode cX8_ruled 153 = .ok (.getfield 81, 3) := by decide +kernel
theorem dX8_ruled_156 : decode cX8_ruled 156 = .ok (.ireturn, 1) := by decide +kernel
theorem dX8_said_0 : decode cX8_said 0 = .ok (.aload_n 0, 1) := by decide +kernel
theorem dX8_said_1 : decode cX8_said 1 = .ok (.getfield 23, 3) := by decide +kernel
theorem dX8_said_4 : decode cX8_said 4 = .ok (.getfield 76, 3) := by decide +kernel
theorem dX8_said_7 : decode cX8_said 7 = .ok (.iconst 1, 1) := by decide +kernel
theorem dX8_said_8 : decode cX8_said 8 = .ok (.iadd, 1) := by decide +kernel
theorem dX8_said_9 : decode cX8_said 9 = .ok (.iload_n 1, 1) := by decide +kernel
theorem dX8_said_10 : decode cX8_said 10 = .ok (.iload_n 2, 1) := by decide +kernel
theorem dX8_said_11 : decode cX8_said 11 = .ok (.imul, 1) := by decide +kernel
theorem dX8_said_12 : decode cX8_said 12 = .ok (.isub, 1) := by decide +kernel
theorem dX8_said_13 : decode cX8_said 13 = .ok (.i2l, 1) := by decide +kernel
theorem dX8_said_14 : decode cX8_said 14 = .ok (.invokestatic 97, 3) := by decide +kernel
theorem dX8_said_17 : decode cX8_said 17 = .ok (.ireturn, 1) := by decide +kernel
theorem dX8_atLeastOne_0 : decode cX8_atLeastOne 0 = .ok (.lconst 1, 1) := by decide +kernel
theorem dX8_atLeastOne_1 : decode cX8_atLeastOne 1 = .ok (.lload_n 0, 1) := by decide +kernel
theorem dX8_atLeastOne_2 : decode cX8_atLeastOne 2 = .ok (.invokestatic 109, 3) := by decide +kernel
theorem dX8_atLeastOne_5 : decode cX8_atLeastOne 5 = .ok (.l2i, 1) := by decide +kernel
theorem dX8_atLeastOne_6 : decode cX8_atLeastOne 6 = .ok (.ireturn, 1) := by decide +kernel
theorem dX8_bentShare_0 : decode cX8_bentShare 0 = .ok (.aload_n 0, 1) := by decide +kernel
theorem dX8_bentShare_1 : decode cX8_bentShare 1 = .ok (.getfield 15, 3) := by decide +kernel
theorem dX8_bentShare_4 : decode cX8_bentShare 4 = .ok (.getfield 112, 3) := by decide +kernel
theorem dX8_bentShare_7 : decode cX8_bentShare 7 = .ok (.istore_n 3, 1) := by decide +kernel
theorem dX8_bentShare_8 : decode cX8_bentShare 8 = .ok (.iconst 0, 1) := by decide +kernel
theorem dX8_bentShare_9 : decode cX8_bentShare 9 = .ok (.iload_n 3, 1) := by decide +kernel
theorem dX8_bentShare_10 : decode cX8_bentShare 10 = .ok (.aload_n 0, 1) := by decide +kernel
theorem dX8_bentShare_11 : decode cX8_bentShare 11 = .ok (.getfield 23, 3) := by decide +kernel
theorem dX8_bentShare_14 : decode cX8_bentShare 14 = .ok (.getfield 76, 3) := by decide +kernel
theorem dX8_bentShare_17 : decode cX8_bentShare 17 = .ok (.aload_n 0, 1) := by decide +kernel
theorem dX8_bentShare_18 : decode cX8_bentShare 18 = .ok (.getfield 15, 3) := by decide +kernel
theorem dX8_bentShare_21 : decode cX8_bentShare 21 = .ok (.getfield 115, 3) := by decide +kernel
theorem dX8_bentShare_24 : decode cX8_bentShare 24 = .ok (.isub, 1) := by decide +kernel
theorem dX8_bentShare_25 : decode cX8_bentShare 25 = .ok (.invokestatic 118, 3) := by decide +kernel
theorem dX8_bentShare_28 : decode cX8_bentShare 28 = .ok (.invokestatic 121, 3) := by decide +kernel
theorem dX8_bentShare_31 : decode cX8_bentShare 31 = .ok (.istore 4, 2) := by decide +kernel
theorem dX8_bentShare_33 : decode cX8_bentShare 33 = .ok (.aload_n 0, 1) := by decide +kernel
theorem dX8_bentShare_34 : decode cX8_bentShare 34 = .ok (.getfield 19, 3) := by decide +kernel
theorem dX8_bentShare_37 : decode cX8_bentShare 37 = .ok (.iload_n 1, 1) := by decide +kernel
theorem dX8_bentShare_38 : decode cX8_bentShare 38 = .ok (.iload_n 2, 1) := by decide +kernel
theorem dX8_bentShare_39 : decode cX8_bentShare 39 = .ok (.aload_n 0, 1) := by decide +kernel
theorem dX8_bentShare_40 : decode cX8_bentShare 40 = .ok (.getfield 15, 3) := by decide +kernel
theorem dX8_bentShare_43 : decode cX8_bentShare 43 = .ok (.invokevirtual 84, 3) := by decide +kernel
theorem dX8_bentShare_46 : decode cX8_bentShare 46 = .ok (.istore 5, 2) := by decide +kernel
theorem dX8_bentShare_48 : decode cX8_bentShare 48 = .ok (.sipush 1000, 3) := by decide +kernel
theorem dX8_bentShare_51 : decode cX8_bentShare 51 = .ok (.iload_n 1, 1) := by decide +kernel
theorem dX8_bentShare_52 : decode cX8_bentShare 52 = .ok (.imul, 1) := by decide +kernel
theorem dX8_bentShare_53 : decode cX8_bentShare 53 = .ok (.i2l, 1) := by decide +kernel
theorem dX8_bentShare_54 : decode cX8_bentShare 54 = .ok (.aload_n 0, 1) := by decide +kernel
theorem dX8_bentShare_55 : decode cX8_bentShare 55 = .ok (.getfield 15, 3) := by decide +kernel
theorem dX8_bentShare_58 : decode cX8_bentShare 58 = .ok (.getfield 51, 3) := by decide +kernel
theorem dX8_bentShare_61 : decode cX8_bentShare 61 = .ok (.i2l, 1) := by decide +kernel
theorem dX8_bentShare_62 : decode cX8_bentShare 62 = .ok (.invokestatic 93, 3) := by decide +kernel
theorem dX8_bentShare_65 : decode cX8_bentShare 65 = .ok (.lstore 6, 2) := by decide +kernel
theorem dX8_bentShare_67 : decode cX8_bentShare 67 = .ok (.iload 5, 2) := by decide +kernel
theorem dX8_bentShare_69 : decode cX8_bentShare 69 = .ok (.iload_n 3, 1) := by decide +kernel
theorem dX8_bentShare_70 : decode cX8_bentShare 70 = .ok (.iload 4, 2) := by decide +kernel
theorem dX8_bentShare_72 : decode cX8_bentShare 72 = .ok (.isub, 1) := by decide +kernel
theorem dX8_bentShare_73 : decode cX8_bentShare 73 = .ok (.imul, 1) := by decide +kernel
theorem dX8_bentShare_74 : decode cX8_bentShare 74 = .ok (.i2l, 1) := by decide +kernel
theorem dX8_bentShare_75 : decode cX8_bentShare 75 = .ok (.lload 6, 2) := by decide +kernel
theorem dX8_bentShare_77 : decode cX8_bentShare 77 = .ok (.iload 4, 2) := by decide +kernel
theorem dX8_bentShare_79 : decode cX8_bentShare 79 = .ok (.i2l, 1) := by decide +kernel
theorem dX8_bentShare_80 : decode cX8_bentShare 80 = .ok (.lmul, 1) := by decide +kernel
theorem dX8_bentShare_81 : decode cX8_bentShare 81 = .ok (.ladd, 1) := by decide +kernel
theorem dX8_bentShare_82 : decode cX8_bentShare 82 = .ok (.iload_n 3, 1) := by decide +kernel
theorem dX8_bentShare_83 : decode cX8_bentShare 83 = .ok (.i2l, 1) := by decide +kernel
theorem dX8_bentShare_84 : decode cX8_bentShare 84 = .ok (.invokestatic 93, 3) := by decide +kernel
theorem dX8_bentShare_87 : decode cX8_bentShare 87 = .ok (.l2i, 1) := by decide +kernel
theorem dX8_bentShare_88 : decode cX8_bentShare 88 = .ok (.ireturn, 1) := by decide +kernel
theorem dX8_keepingOdds_0 : decode cX8_keepingOdds 0 = .ok (.aload_n 0, 1) := by decide +kernel
theorem dX8_keepingOdds_1 : decode cX8_keepingOdds 1 = .ok (.getfield 19, 3) := by decide +kernel
theorem dX8_keepingOdds_4 : decode cX8_keepingOdds 4 = .ok (.iload_n 2, 1) := by decide +kernel
theorem dX8_keepingOdds_5 : decode cX8_keepingOdds 5 = .ok (.iload_n 3, 1) := by decide +kernel
theorem dX8_keepingOdds_6 : decode cX8_keepingOdds 6 = .ok (.aload_n 0, 1) := by decide +kernel
theorem dX8_keepingOdds_7 : decode cX8_keepingOdds 7 = .ok (.getfield 81, 3) := by decide +kernel
theorem dX8_keepingOdds_10 : decode cX8_keepingOdds 10 = .ok (.iload 4, 2) := by decide +kernel
theorem dX8_keepingOdds_12 : decode cX8_keepingOdds 12 = .ok (.isub, 1) := by decide +kernel
theorem dX8_keepingOdds_13 : decode cX8_keepingOdds 13 = .ok (.invokevirtual 123, 3) := by decide +kernel
theorem dX8_keepingOdds_16 : decode cX8_keepingOdds 16 = .ok (.lstore 5, 2) := by decide +kernel
theorem dX8_keepingOdds_18 : decode cX8_keepingOdds 18 = .ok (.iconst 1, 1) := by decide +kernel
theorem dX8_keepingOdds_19 : decode cX8_keepingOdds 19 = .ok (.istore 7, 2) := by decide +kernel
theorem dX8_keepingOdds_21 : decode cX8_keepingOdds 21 = .ok (.sipush 256, 3) := by decide +kernel
theorem dX8_keepingOdds_24 : decode cX8_keepingOdds 24 = .ok (.istore 8, 2) := by decide +kernel
theorem dX8_keepingOdds_26 : decode cX8_keepingOdds 26 = .ok (.iload 8, 2) := by decide +kernel
theorem dX8_keepingOdds_28 : decode cX8_keepingOdds 28 = .ok (.ifCond .le 59, 3) := by decide +kernel
theorem dX8_keepingOdds_31 : decode cX8_keepingOdds 31 = .ok (.iload 7, 2) := by decide +kernel
theorem dX8_keepingOdds_33 : decode cX8_keepingOdds 33 = .ok (.iload 8, 2) := by decide +kernel
theorem dX8_keepingOdds_35 : decode cX8_keepingOdds 35 = .ok (.iadd, 1) := by decide +kernel
theorem dX8_keepingOdds_36 : decode cX8_keepingOdds 36 = .ok (.istore 9, 2) := by decide +kernel
theorem dX8_keepingOdds_38 : decode cX8_keepingOdds 38 = .ok (.iload 9, 2) := by decide +kernel
theorem dX8_keepingOdds_40 : decode cX8_keepingOdds 40 = .ok (.aload_n 0, 1) := by decide +kernel
theorem dX8_keepingOdds_41 : decode cX8_keepingOdds 41 = .ok (.getfield 81, 3) := by decide +kernel
theorem dX8_keepingOdds_44 : decode cX8_keepingOdds 44 = .ok (.if_icmp .gt 34, 3) := by decide +kernel
theorem dX8_keepingOdds_47 : decode cX8_keepingOdds 47 = .ok (.aload_n 0, 1) := by decide +kernel
theorem dX8_keepingOdds_48 : decode cX8_keepingOdds 48 = .ok (.getfield 19, 3) := by decide +kernel
theorem dX8_keepingOdds_51 : decode cX8_keepingOdds 51 = .ok (.iload_n 2, 1) := by decide +kernel
theorem dX8_keepingOdds_52 : decode cX8_keepingOdds 52 = .ok (.iload_n 1, 1) := by decide +kernel
theorem dX8_keepingOdds_53 : decode cX8_keepingOdds 53 = .ok (.isub, 1) := by decide +kernel
theorem dX8_keepingOdds_54 : decode cX8_keepingOdds 54 = .ok (.iload_n 3, 1) := by decide +kernel
theorem dX8_keepingOdds_55 : decode cX8_keepingOdds 55 = .ok (.iload 9, 2) := by decide +kernel
theorem dX8_keepingOdds_57 : decode cX8_keepingOdds 57 = .ok (.iload 4, 2) := by decide +kernel
theorem dX8_keepingOdds_59 : decode cX8_keepingOdds 59 = .ok (.isub, 1) := by decide +kernel
theorem dX8_keepingOdds_60 : decode cX8_keepingOdds 60 = .ok (.invokevirtual 123, 3) := by decide +kernel
theorem dX8_keepingOdds_63 : decode cX8_keepingOdds 63 = .ok (.iload_n 1, 1) := by decide +kernel
theorem dX8_keepingOdds_64 : decode cX8_keepingOdds 64 = .ok (.invokestatic 127, 3) := by decide +kernel
theorem dX8_keepingOdds_67 : decode cX8_keepingOdds 67 = .ok (.lmul, 1) := by decide +kernel
theorem dX8_keepingOdds_68 : decode cX8_keepingOdds 68 = .ok (.lload 5, 2) := by decide +kernel
theorem dX8_keepingOdds_70 : decode cX8_keepingOdds 70 = .ok (.lcmp, 1) := by decide +kernel
theorem dX8_keepingOdds_71 : decode cX8_keepingOdds 71 = .ok (.ifCond .lt 7, 3) := by decide +kernel
theorem dX8_keepingOdds_74 : decode cX8_keepingOdds 74 = .ok (.iload 9, 2) := by decide +kernel
theorem dX8_keepingOdds_76 : decode cX8_keepingOdds 76 = .ok (.istore 7, 2) := by decide +kernel
theorem dX8_keepingOdds_78 : decode cX8_keepingOdds 78 = .ok (.iload 8, 2) := by decide +kernel
theorem dX8_keepingOdds_80 : decode cX8_keepingOdds 80 = .ok (.iconst 2, 1) := by decide +kernel
theorem dX8_keepingOdds_81 : decode cX8_keepingOdds 81 = .ok (.idiv, 1) := by decide +kernel
theorem dX8_keepingOdds_82 : decode cX8_keepingOdds 82 = .ok (.istore 8, 2) := by decide +kernel
theorem dX8_keepingOdds_84 : decode cX8_keepingOdds 84 = .ok (.goto (-58), 3) := by decide +kernel
theorem dX8_keepingOdds_87 : decode cX8_keepingOdds 87 = .ok (.iload 7, 2) := by decide +kernel
theorem dX8_keepingOdds_89 : decode cX8_keepingOdds 89 = .ok (.ireturn, 1) := by decide +kernel
theorem dX9_init_0 : decode cX9_init 0 = .ok (.aload_n 0, 1) := by decide +kernel
theorem dX9_init_1 : decode cX9_init 1 = .ok (.invokespecial 3, 3) := by decide +kernel
theorem dX9_init_4 : decode cX9_init 4 = .ok (.aload_n 0, 1) := by decide +kernel
theorem dX9_init_5 : decode cX9_init 5 = .ok (.new 9, 3) := by decide +kernel
theorem dX9_init_8 : decode cX9_init 8 = .ok (.dup, 1) := by decide +kernel
theorem dX9_init_9 : decode cX9_init 9 = .ok (.invokespecial 11, 3) := by decide +kernel
theorem dX9_init_12 : decode cX9_init 12 = .ok (.putfield 12, 3) := by decide +kernel
theorem dX9_init_15 : decode cX9_init 15 = .ok (.aload_n 0, 1) := by decide +kernel
theorem dX9_init_16 : decode cX9_init 16 = .ok (.new 16, 3) := by decide +kernel
theorem dX9_init_19 : decode cX9_init 19 = .ok (.dup, 1) := by decide +kernel
theorem dX9_init_20 : decode cX9_init 20 = .ok (.aload_n 0, 1) := by decide +kernel
theorem dX9_init_21 : decode cX9_init 21 = .ok (.getfield 12, 3) := by decide +kernel
theorem dX9_init_24 : decode cX9_init 24 = .ok (.invokespecial 18, 3) := by decide +kernel
theorem dX9_init_27 : decode cX9_init 27 = .ok (.putfield 21, 3) := by decide +kernel
theorem dX9_init_30 : decode cX9_init 30 = .ok (.aload_n 0, 1) := by decide +kernel
theorem dX9_init_31 : decode cX9_init 31 = .ok (.new 25, 3) := by decide +kernel
theorem dX9_init_34 : decode cX9_init 34 = .ok (.dup, 1) := by decide +kernel
theorem dX9_init_35 : decode cX9_init 35 = .ok (.invokespecial 27, 3) := by decide +kernel
theorem dX9_init_38 : decode cX9_init 38 = .ok (.putfield 28, 3) := by decide +kernel
theorem dX9_init_41 : decode cX9_init 41 = .ok (.aload_n 0, 1) := by decide +kernel
theorem dX9_init_42 : decode cX9_init 42 = .ok (.new 32, 3) := by decide +kernel
theorem dX9_init_45 : decode cX9_init 45 = .ok (.dup, 1) := by decide +kernel
theorem dX9_init_46 : decode cX9_init 46 = .ok (.invokespecial 34, 3) := by decide +kernel
theorem dX9_init_49 : decode cX9_init 49 = .ok (.putfield 35, 3) := by decide +kernel
theorem dX9_init_52 : decode cX9_init 52 = .ok (.aload_n 0, 1) := by decide +kernel
theorem dX9_init_53 : decode cX9_init 53 = .ok (.new 39, 3) := by decide +kernel
theorem dX9_init_56 : decode cX9_init 56 = .ok (.dup, 1) := by decide +kernel
theorem dX9_init_57 : decode cX9_init 57 = .ok (.aload_n 0, 1) := by decide +kernel
theorem dX9_init_58 : decode cX9_init 58 = .ok (.getfield 35, 3) := by decide +kernel
theorem dX9_init_61 : decode cX9_init 61 = .ok (.invokespecial 41, 3) := by decide +kernel
theorem dX9_init_64 : decode cX9_init 64 = .ok (.putfield 44, 3) := by decide +kernel
theorem dX9_init_67 : decode cX9_init 67 = .ok (.aload_n 0, 1) := by decide +kernel
theorem dX9_init_68 : decode cX9_init 68 = .ok (.new 48, 3) := by decide +kernel
theorem dX9_init_71 : decode cX9_init 71 = .ok (.dup, 1) := by decide +kernel
theorem dX9_init_72 : decode cX9_init 72 = .ok (.invokespecial 50, 3) := by decide +kernel
theorem dX9_init_75 : decode cX9_init 75 = .ok (.putfield 51, 3) := by decide +kernel
theorem dX9_init_78 : decode cX9_init 78 = .ok (.aload_n 0, 1) := by decide +kernel
theorem dX9_init_79 : decode cX9_init 79 = .ok (.new 55, 3) := by decide +kernel
theorem dX9_init_82 : decode cX9_init 82 = .ok (.dup, 1) := by decide +kernel
theorem dX9_init_83 : decode cX9_init 83 = .ok (.invokespecial 57, 3) := by decide +kernel
theorem dX9_init_86 : decode cX9_init 86 = .ok (.putfield 58, 3) := by decide +kernel
theorem dX9_init_89 : decode cX9_init 89 = .ok (.aload_n 0, 1) := by decide +kernel
theorem dX9_init_90 : decode cX9_init 90 = .ok (.new 62, 3) := by decide +kernel
theorem dX9_init_93 : decode cX9_init 93 = .ok (.dup, 1) := by decide +kernel
theorem dX9_init_94 : decode cX9_init 94 = .ok (.aload_n 0, 1) := by decide +kernel
theorem dX9_init_95 : decode cX9_init 95 = .ok (.getfield 28, 3) := by decide +kernel
theorem dX9_init_98 : decode cX9_init 98 = .ok (.aload_n 0, 1) := by decide +kernel
theorem dX9_init_99 : decode cX9_init 99 = .ok (.getfield 44, 3) := by decide +kernel
theorem dX9_init_102 : decode cX9_init 102 = .ok (.aload_n 0, 1) := by decide +kernel
theorem dX9_init_103 : decode cX9_init 103 = .ok (.getfield 51, 3) := by decide +kernel
theorem dX9_init_106 : decode cX9_init 106 = .ok (.invokespecial 64, 3) := by decide +kernel
theorem dX9_init_109 : decode cX9_init 109 = .ok (.putfield 67, 3) := by decide +kernel
theorem dX9_init_112 : decode cX9_init 112 = .ok (.aload_n 0, 1) := by decide +kernel
theorem dX9_init_113 : decode cX9_init 113 = .ok (.new 71, 3) := by decide +kernel
theorem dX9_init_116 : decode cX9_init 116 = .ok (.dup, 1) := by decide +kernel
theorem dX9_init_117 : decode cX9_init 117 = .ok (.invokespecial 73, 3) := by decide +kernel
theorem dX9_init_120 : decode cX9_init 120 = .ok (.putfield 74, 3) := by decide +kernel
theorem dX9_init_123 : decode cX9_init 123 = .ok (.aload_n 0, 1) := by decide +kernel
theorem dX9_init_124 : decode cX9_init 124 = .ok (.getfield 44, 3) := by decide +kernel
theorem dX9_init_127 : decode cX9_init 127 = .ok (.invokevirtual 78, 3) := by decide +kernel
theorem dX9_init_130 : decode cX9_init 130 = .ok (.aload_n 0, 1) := by decide +kernel
theorem dX9_init_131 : decode cX9_init 131 = .ok (.getfield 58, 3) := by decide +kernel
theorem dX9_init_134 : decode cX9_init 134 = .ok (.aload_n 0, 1) := by decide +kernel
theorem dX9_init_135 : decode cX9_init 135 = .ok (.getfield 28, 3) := by decide +kernel
theorem dX9_init_138 : decode cX9_init 138 = .ok (.invokevirtual 81, 3) := by decide +kernel
theorem dX9_init_141 : decode cX9_init 141 = .ok (.return_, 1) := by decide +kernel
theorem dX9_write_0 : decode cX9_write 0 = .ok (.iload_n 3, 1) := by decide +kernel
theorem dX9_write_1 : decode cX9_write 1 = .ok (.iconst 1, 1) := by decide +kernel
theorem dX9_write_2 : decode cX9_write 2 = .ok (.bipush 8, 2) := by decide +kernel
theorem dX9_write_4 : decode cX9_write 4 = .ok (.invokestatic 85, 3) := by decide +kernel
theorem dX9_write_7 : decode cX9_write 7 = .ok (.ifCond .ne 6, 3) := by decide +kernel
theorem dX9_write_10 : decode cX9_write 10 = .ok (.bipush (-3), 2) := by decide +kernel
theorem dX9_write_12 : decode cX9_write 12 = .ok (.ireturn, 1) := by decide +kernel
theorem dX9_write_13 : decode cX9_write 13 = .ok (.iload_n 3, 1) := by decide +kernel
theorem dX9_write_14 : decode cX9_write 14 = .ok (.sipush 200, 3) := by decide +kernel
theorem dX9_write_17 : decode cX9_write 17 = .ok (.aload_n 0, 1) := by decide +kernel
theorem dX9_write_18 : decode cX9_write 18 = .ok (.getfield 12, 3) := by decide +kernel
theorem dX9_write_21 : decode cX9_write 21 = .ok (.getfield 89, 3) := by decide +kernel
theorem dX9_write_24 : decode cX9_write 24 = .ok (.isub, 1) := by decide +kernel
theorem dX9_write_25 : decode cX9_write 25 = .ok (.if_icmp .le 6, 3) := by decide +kernel
theorem dX9_write_28 : decode cX9_write 28 = .ok (.bipush (-5), 2) := by decide +kernel
theorem dX9_write_30 : decode cX9_write 30 = .ok (.ireturn, 1) := by decide +kernel
theorem dX9_write_31 : decode cX9_write 31 = .ok (.aload_n 0, 1) := by decide +kernel
theorem dX9_write_32 : decode cX9_write 32 = .ok (.getfield 12, 3) := by decide +kernel
theorem dX9_write_35 : decode cX9_write 35 = .ok (.lload_n 1, 1) := by decide +kernel
theorem dX9_write_36 : decode cX9_write 36 = .ok (.iload_n 3, 1) := by decide +kernel
theorem dX9_write_37 : decode cX9_write 37 = .ok (.invokevirtual 93, 3) := by decide +kernel
theorem dX9_write_40 : decode cX9_write 40 = .ok (.aload_n 0, 1) := by decide +kernel
theorem dX9_write_41 : decode cX9_write 41 = .ok (.getfield 12, 3) := by decide +kernel
theorem dX9_write_44 : decode cX9_write 44 = .ok (.getfield 89, 3) := by decide +kernel
theorem dX9_write_47 : decode cX9_write 47 = .ok (.ireturn, 1) := by decide +kernel
theorem dX9_erase_0 : decode cX9_erase 0 = .ok (.aload_n 0, 1) := by decide +kernel
theorem dX9_erase_1 : decode cX9_erase 1 = .ok (.getfield 12, 3) := by decide +kernel
theorem dX9_erase_4 : decode cX9_erase 4 = .ok (.getfield 89, 3) := by decide +kernel
theorem dX9_erase_7 : decode cX9_erase 7 = .ok (.istore_n 1, 1) := by decide +kernel
theorem dX9_erase_8 : decode cX9_erase 8 = .ok (.aload_n 0, 1) := by decide +kernel
theorem dX9_erase_9 : decode cX9_erase 9 = .ok (.getfield 12, 3) := by decide +kernel
theorem dX9_erase_12 : decode cX9_erase 12 = .ok (.iconst 0, 1) := by decide +kernel
theorem dX9_erase_13 : decode cX9_erase 13 = .ok (.putfield 89, 3) := by decide +kernel
theorem dX9_erase_16 : decode cX9_erase 16 = .ok (.iload_n 1, 1) := by decide +kernel
theorem dX9_erase_17 : decode cX9_erase 17 = .ok (.ireturn, 1) := by decide +kernel
theorem dX9_fault_0 : decode cX9_fault 0 = .ok (.aload_n 0, 1) := by decide +kernel
theorem dX9_fault_1 : decode cX9_fault 1 = .ok (.getfield 21, 3) := by decide +kernel
theorem dX9_fault_4 : decode cX9_fault 4 = .ok (.invokevirtual 97, 3) := by decide +kernel
theorem dX9_fault_7 : decode cX9_fault 7 = .ok (.ireturn, 1) := by decide +kernel
theorem dX9_game_0 : decode cX9_game 0 = .ok (.aload_n 0, 1) := by decide +kernel
theorem dX9_game_1 : decode cX9_game 1 = .ok (.getfield 21, 3) := by decide +kernel
theorem dX9_game_4 : decode cX9_game 4 = .ok (.invokevirtual 97, 3) := by decide +kernel
theorem dX9_game_7 : decode cX9_game 7 = .ok (.iconst (-1), 1) := by decide +kernel
theorem dX9_game_8 : decode cX9_game 8 = .ok (.if_icmp .eq 6, 3) := by decide +kernel
theorem dX9_game_11 : decode cX9_game 11 = .ok (.bipush (-4), 2) := by decide +kernel
theorem dX9_game_13 : decode cX9_game 13 = .ok (.ireturn, 1) := by decide +kernel
theorem dX9_game_14 : decode cX9_game 14 = .ok (.iconst 0, 1) := by decide +kernel
theorem dX9_game_15 : decode cX9_game 15 = .ok (.istore_n 1, 1) := by decide +kernel
theorem dX9_game_16 : decode cX9_game 16 = .ok (.iload_n 1, 1) := by decide +kernel
theorem dX9_game_17 : decode cX9_game 17 = .ok (.aload_n 0, 1) := by decide +kernel
theorem dX9_game_18 : decode cX9_game 18 = .ok (.getfield 21, 3) := by decide +kernel
theorem dX9_game_21 : decode cX9_game 21 = .ok (.getfield 101, 3) := by decide +kernel
theorem dX9_game_24 : decode cX9_game 24 = .ok (.if_icmp .ge 14, 3) := by decide +kernel
theorem dX9_game_27 : decode cX9_game 27 = .ok (.aload_n 0, 1) := by decide +kernel
theorem dX9_game_28 : decode cX9_game 28 = .ok (.iload_n 1, 1) := by decide +kernel
theorem dX9_game_29 : decode cX9_game 29 = .ok (.invokevirtual 104, 3) := by decide +kernel
theorem dX9_game_32 : decode cX9_game 32 = .ok (.iinc 1 1, 3) := by decide +kernel
theorem dX9_game_35 : decode cX9_game 35 = .ok (.goto (-19), 3) := by decide +kernel
theorem dX9_game_38 : decode cX9_game 38 = .ok (.aload_n 0, 1) := by decide +kernel
theorem dX9_game_39 : decode cX9_game 39 = .ok (.getfield 21, 3) := by decide +kernel
theorem dX9_game_42 : decode cX9_game 42 = .ok (.iconst 2, 1) := by decide +kernel
theorem dX9_game_43 : decode cX9_game 43 = .ok (.invokevirtual 108, 3) := by decide +kernel
theorem dX9_game_46 : decode cX9_game 46 = .ok (.ifCond .eq 10, 3) := by decide +kernel
theorem dX9_game_49 : decode cX9_game 49 = .ok (.aload_n 0, 1) := by decide +kernel
theorem dX9_game_50 : decode cX9_game 50 = .ok (.getfield 44, 3) := by decide +kernel
theorem dX9_game_53 : decode cX9_game 53 = .ok (.invokevirtual 78, 3) := by decide +kernel
theorem dX9_game_56 : decode cX9_game 56 = .ok (.aload_n 0, 1) := by decide +kernel
theorem dX9_game_57 : decode cX9_game 57 = .ok (.getfield 21, 3) := by decide +kernel
theorem dX9_game_60 : decode cX9_game 60 = .ok (.iconst 0, 1) := by decide +kernel
theorem dX9_game_61 : decode cX9_game 61 = .ok (.invokevirtual 108, 3) := by decide +kernel
theorem dX9_game_64 : decode cX9_game 64 = .ok (.ifCond .eq 10, 3) := by decide +kernel
theorem dX9_game_67 : decode cX9_game 67 = .ok (.aload_n 0, 1) := by decide +kernel
theorem dX9_game_68 : decode cX9_game 68 = .ok (.getfield 51, 3) := by decide +kernel
theorem dX9_game_71 : decode cX9_game 71 = .ok (.invokevirtual 112, 3) := by decide +kernel
theorem dX9_game_74 : decode cX9_game 74 = .ok (.aload_n 0, 1) := by decide +kernel
theorem dX9_game_75 : decode cX9_game 75 = .ok (.getfield 21, 3) := by decide +kernel
theorem dX9_game_78 : decode cX9_game 78 = .ok (.iconst 0, 1) := by decide +kernel
theorem dX9_game_79 : decode cX9_game 79 = .ok (.invokevirtual 108, 3) := by decide +kernel
theorem dX9_game_82 : decode cX9_game 82 = .ok (.ifCond .ne 25, 3) := by decide +kernel
theorem dX9_game_85 : decode cX9_game 85 = .ok (.aload_n 0, 1) := by decide +kernel
theorem dX9_game_86 : decode cX9_game 86 = .ok (.getfield 21, 3) := by decide +kernel
theorem dX9_game_89 : decode cX9_game 89 = .ok (.iconst 1, 1) := by decide +kernel
theorem dX9_game_90 : decode cX9_game 90 = .ok (.invokevirtual 108, 3) := by decide +kernel
theorem dX9_game_93 : decode cX9_game 93 = .ok (.ifCond .ne 14, 3) := by decide +kernel
theorem dX9_game_96 : decode cX9_game 96 = .ok (.aload_n 0, 1) := by decide +kernel
theorem dX9_game_97 : decode cX9_game 97 = .ok (.getfield 21, 3) := by decide +kernel
theorem dX9_game_100 : decode cX9_game 100 = .ok (.iconst 2, 1) := by decide +kernel
theorem dX9_game_101 : decode cX9_game 101 = .ok (.invokevirtual 108, 3) := by decide +kernel
theorem dX9_game_104 : decode cX9_game 104 = .ok (.ifCond .eq 14, 3) := by decide +kernel
theorem dX9_game_107 : decode cX9_game 107 = .ok (.aload_n 0, 1) := by decide +kernel
theorem dX9_game_108 : decode cX9_game 108 = .ok (.getfield 58, 3) := by decide +kernel
theorem dX9_game_111 : decode cX9_game 111 = .ok (.aload_n 0, 1) := by decide +kernel
theorem dX9_game_112 : decode cX9_game 112 = .ok (.getfield 28, 3) := by decide +kernel
theorem dX9_game_115 : decode cX9_game 115 = .ok (.invokevirtual 81, 3) := by decide +kernel
theorem dX9_game_118 : decode cX9_game 118 = .ok (.aload_n 0, 1) := by decide +kernel
theorem dX9_game_119 : decode cX9_game 119 = .ok (.getfield 12, 3) := by decide +kernel
theorem dX9_game_122 : decode cX9_game 122 = .ok (.iconst 0, 1) := by decide +kernel
theorem dX9_game_123 : decode cX9_game 123 = .ok (.putfield 89, 3) := by decide +kernel
theorem dX9_game_126 : decode cX9_game 126 = .ok (.aload_n 0, 1) := by decide +kernel
theorem dX9_game_127 : decode cX9_game 127 = .ok (.getfield 21, 3) := by decide +kernel
theorem dX9_game_130 : decode cX9_game 130 = .ok (.getfield 101, 3) := by decide +kernel
theorem dX9_game_133 : decode cX9_game 133 = .ok (.ireturn, 1) := by decide +kernel
theorem dX9_mood_0 : decode cX9_mood 0 = .ok (.iload_n 1, 1) := by decide +kernel
theorem dX9_mood_1 : decode cX9_mood 1 = .ok (.iconst 0, 1) := by decide +kernel
theorem dX9_mood_2 : decode cX9_mood 2 = .ok (.iconst 3, 1) := by decide +kernel
theorem dX9_mood_3 : decode cX9_mood 3 = .ok (.invokestatic 85, 3) := by decide +kernel
theorem dX9_mood_6 : decode cX9_mood 6 = .ok (.ifCond .ne 6, 3) := by decide +kernel
theorem dX9_mood_9 : decode cX9_mood 9 = .ok (.bipush (-2), 2) := by decide +kernel
theorem dX9_mood_11 : decode cX9_mood 11 = .ok (.ireturn, 1) := by decide +kernel
theorem dX9_mood_12 : decode cX9_mood 12 = .ok (.iload_n 3, 1) := by decide +kernel
theorem dX9_mood_13 : decode cX9_mood 13 = .ok (.iconst (-1), 1) := by decide +kernel
theorem dX9_mood_14 : decode cX9_mood 14 = .ok (.if_icmp .ne 12, 3) := by decide +kernel
theorem dX9_mood_17 : decode cX9_mood 17 = .ok (.aload_n 0, 1) := by decide +kernel
theorem dX9_mood_18 : decode cX9_mood 18 = .ok (.getfield 35, 3) := by decide +kernel
theorem dX9_mood_21 : decode cX9_mood 21 = .ok (.iload_n 1, 1) := by decide +kernel
theorem dX9_mood_22 : decode cX9_mood 22 = .ok (.invokevirtual 114, 3) := by decide +kernel
theorem dX9_mood_25 : decode cX9_mood 25 = .ok (.ireturn, 1) := by decide +kernel
theorem dX9_mood_26 : decode cX9_mood 26 = .ok (.iload_n 2, 1) := by decide +kernel
theorem dX9_mood_27 : decode cX9_mood 27 = .ok (.iconst 0, 1) := by decide +kernel
theorem dX9_mood_28 : decode cX9_mood 28 = .ok (.aload_n 0, 1) := by decide +kernel
theorem dX9_mood_29 : decode cX9_mood 29 = .ok (.getfield 35, 3) := by decide +kernel
theorem dX9_mood_32 : decode cX9_mood 32 = .ok (.iload_n 1, 1) := by decide +kernel
theorem dX9_mood_33 : decode cX9_mood 33 = .ok (.invokevirtual 114, 3) := by decide +kernel
theorem dX9_mood_36 : decode cX9_mood 36 = .ok (.iconst 1, 1) := by decide +kernel
theorem dX9_mood_37 : decode cX9_mood 37 = .ok (.isub, 1) := by decide +kernel
theorem dX9_mood_38 : decode cX9_mood 38 = .ok (.invokestatic 85, 3) := by decide +kernel
theorem dX9_mood_41 : decode cX9_mood 41 = .ok (.ifCond .ne 6, 3) := by decide +kernel
theorem dX9_mood_44 : decode cX9_mood 44 = .ok (.bipush (-2), 2) := by decide +kernel
theorem dX9_mood_46 : decode cX9_mood 46 = .ok (.ireturn, 1) := by decide +kernel
theorem dX9_mood_47 : decode cX9_mood 47 = .ok (.iload_n 3, 1) := by decide +kernel
theorem dX9_mood_48 : decode cX9_mood 48 = .ok (.iconst 0, 1) := by decide +kernel
theorem dX9_mood_49 : decode cX9_mood 49 = .ok (.iconst 2, 1) := by decide +kernel
theorem dX9_mood_50 : decode cX9_mood 50 = .ok (.invokestatic 85, 3) := by decide +kernel
theorem dX9_mood_53 : decode cX9_mood 53 = .ok (.ifCond .ne 6, 3) := by decide +kernel
theorem dX9_mood_56 : decode cX9_mood 56 = .ok (.bipush (-3), 2) := by decide +kernel
theorem dX9_mood_58 : decode cX9_mood 58 = .ok (.ireturn, 1) := by decide +kernel
theorem dX9_mood_59 : decode cX9_mood 59 = .ok (.aload_n 0, 1) := by decide +kernel
theorem dX9_mood_60 : decode cX9_mood 60 = .ok (.getfield 35, 3) := by decide +kernel
theorem dX9_mood_63 : decode cX9_mood 63 = .ok (.iload_n 1, 1) := by decide +kernel
theorem dX9_mood_64 : decode cX9_mood 64 = .ok (.iload_n 2, 1) := by decide +kernel
theorem dX9_mood_65 : decode cX9_mood 65 = .ok (.iload_n 3, 1) := by decide +kernel
theorem dX9_mood_66 : decode cX9_mood 66 = .ok (.invokevirtual 118, 3) := by decide +kernel
theorem dX9_mood_69 : decode cX9_mood 69 = .ok (.ireturn, 1) := by decide +kernel
theorem dX9_makes_0 : decode cX9_makes 0 = .ok (.aload_n 0, 1) := by decide +kernel
theorem dX9_makes_1 : decode cX9_makes 1 = .ok (.iload_n 1, 1) := by decide +kernel
theorem dX9_makes_2 : decode cX9_makes 2 = .ok (.iload_n 2, 1) := by decide +kernel
theorem dX9_makes_3 : decode cX9_makes 3 = .ok (.invokevirtual 122, 3) := by decide +kernel
theorem dX9_makes_6 : decode cX9_makes 6 = .ok (.ifCond .eq 12, 3) := by decide +kernel
theorem dX9_makes_9 : decode cX9_makes 9 = .ok (.iload_n 3, 1) := by decide +kernel
theorem dX9_makes_10 : decode cX9_makes 10 = .ok (.iconst 0, 1) := by decide +kernel
theorem dX9_makes_11 : decode cX9_makes 11 = .ok (.iconst 1, 1) := by decide +kernel
theorem dX9_makes_12 : decode cX9_makes 12 = .ok (.invokestatic 85, 3) := by decide +kernel
theorem dX9_makes_15 : decode cX9_makes 15 = .ok (.ifCond .ne 7, 3) := by decide +kernel
theorem dX9_makes_18 : decode cX9_makes 18 = .ok (.ldc2_w 126, 3) := by decide +kernel
theorem dX9_makes_21 : decode cX9_makes 21 = .ok (.lreturn, 1) := by decide +kernel
theorem dX9_makes_22 : decode cX9_makes 22 = .ok (.aload_n 0, 1) := by decide +kernel
theorem dX9_makes_23 : decode cX9_makes 23 = .ok (.getfield 44, 3) := by decide +kernel
theorem dX9_makes_26 : decode cX9_makes 26 = .ok (.iload_n 1, 1) := by decide +kernel
theorem dX9_makes_27 : decode cX9_makes 27 = .ok (.iload_n 2, 1) := by decide +kernel
theorem dX9_makes_28 : decode cX9_makes 28 = .ok (.invokevirtual 128, 3) := by decide +kernel
theorem dX9_makes_31 : decode cX9_makes 31 = .ok (.iload_n 1, 1) := by decide +kernel
theorem dX9_makes_32 : decode cX9_makes 32 = .ok (.invokestatic 132, 3) := by decide +kernel
theorem dX9_makes_35 : decode cX9_makes 35 = .ok (.iload_n 3, 1) := by decide +kernel
theorem dX9_makes_36 : decode cX9_makes 36 = .ok (.invokestatic 136, 3) := by decide +kernel
theorem dX9_makes_39 : decode cX9_makes 39 = .ok (.lreturn, 1) := by decide +kernel
theorem dX9_wins_0 : decode cX9_wins 0 = .ok (.aload_n 0, 1) := by decide +kernel
theorem dX9_wins_1 : decode cX9_wins 1 = .ok (.iload_n 1, 1) := by decide +kernel
theorem dX9_wins_2 : decode cX9_wins 2 = .ok (.iload_n 2, 1) := by decide +kernel
theorem dX9_wins_3 : decode cX9_wins 3 = .ok (.invokevirtual 122, 3) := by decide +kernel
theorem dX9_wins_6 : decode cX9_wins 6 = .ok (.ifCond .eq 24, 3) := by decide +kernel
theorem dX9_wins_9 : decode cX9_wins 9 = .ok (.iload_n 3, 1) := by decide +kernel
theorem dX9_wins_10 : decode cX9_wins 10 = .ok (.iconst 0, 1) := by decide +kernel
theorem dX9_wins_11 : decode cX9_wins 11 = .ok (.sipush 999, 3) := by decide +kernel
theorem dX9_wins_14 : decode cX9_wins 14 = .ok (.invokestatic 85, 3) := by decide +kernel
theorem dX9_wins_17 : decode cX9_wins 17 = .ok (.ifCond .eq 13, 3) := by decide +kernel
theorem dX9_wins_20 : decode cX9_wins 20 = .ok (.iload 4, 2) := by decide +kernel
theorem dX9_wins_22 : decode cX9_wins 22 = .ok (.iconst 0, 1) := by decide +kernel
theorem dX9_wins_23 : decode cX9_wins 23 = .ok (.iconst 1, 1) := by decide +kernel
theorem dX9_wins_24 : decode cX9_wins 24 = .ok (.invokestatic 85, 3) := by decide +kernel
theorem dX9_wins_27 : decode cX9_wins 27 = .ok (.ifCond .ne 7, 3) := by decide +kernel
theorem dX9_wins_30 : decode cX9_wins 30 = .ok (.ldc2_w 126, 3) := by decide +kernel
theorem dX9_wins_33 : decode cX9_wins 33 = .ok (.lreturn, 1) := by decide +kernel
theorem dX9_wins_34 : decode cX9_wins 34 = .ok (.aload_n 0, 1) := by decide +kernel
theorem dX9_wins_35 : decode cX9_wins 35 = .ok (.getfield 44, 3) := by decide +kernel
theorem dX9_wins_38 : decode cX9_wins 38 = .ok (.iload_n 1, 1) := by decide +kernel
theorem dX9_wins_39 : decode cX9_wins 39 = .ok (.iload_n 2, 1) := by decide +kernel
theorem dX9_wins_40 : decode cX9_wins 40 = .ok (.iload_n 3, 1) := by decide +kernel
theorem dX9_wins_41 : decode cX9_wins 41 = .ok (.invokevirtual 140, 3) := by decide +kernel
theorem dX9_wins_44 : decode cX9_wins 44 = .ok (.iload_n 1, 1) := by decide +kernel
theorem dX9_wins_45 : decode cX9_wins 45 = .ok (.invokestatic 132, 3) := by decide +kernel
theorem dX9_wins_48 : decode cX9_wins 48 = .ok (.iload 4, 2) := by decide +kernel
theorem dX9_wins_50 : decode cX9_wins 50 = .ok (.invokestatic 136, 3) := by decide +kernel
theorem dX9_wins_53 : decode cX9_wins 53 = .ok (.lreturn, 1) := by decide +kernel
theorem dX9_best_0 : decode cX9_best 0 = .ok (.aload_n 0, 1) := by decide +kernel
theorem dX9_best_1 : decode cX9_best 1 = .ok (.iload_n 1, 1) := by decide +kernel
theorem dX9_best_2 : decode cX9_best 2 = .ok (.iload_n 2, 1) := by decide +kernel
theorem dX9_best_3 : decode cX9_best 3 = .ok (.invokevirtual 122, 3) := by decide +kernel
theorem dX9_best_6 : decode cX9_best 6 = .ok (.ifCond .eq 14, 3) := by decide +kernel
theorem dX9_best_9 : decode cX9_best 9 = .ok (.iload_n 3, 1) := by decide +kernel
theorem dX9_best_10 : decode cX9_best 10 = .ok (.iconst (-1), 1) := by decide +kernel
theorem dX9_best_11 : decode cX9_best 11 = .ok (.sipush 999, 3) := by decide +kernel
theorem dX9_best_14 : decode cX9_best 14 = .ok (.invokestatic 85, 3) := by decide +kernel
theorem dX9_best_17 : decode cX9_best 17 = .ok (.ifCond .ne 6, 3) := by decide +kernel
theorem dX9_best_20 : decode cX9_best 20 = .ok (.bipush (-3), 2) := by decide +kernel
theorem dX9_best_22 : decode cX9_best 22 = .ok (.ireturn, 1) := by decide +kernel
theorem dX9_best_23 : decode cX9_best 23 = .ok (.iload_n 1, 1) := by decide +kernel
theorem dX9_best_24 : decode cX9_best 24 = .ok (.ifCond .eq 11, 3) := by decide +kernel
theorem dX9_best_27 : decode cX9_best 27 = .ok (.iload_n 2, 1) := by decide +kernel
theorem dX9_best_28 : decode cX9_best 28 = .ok (.ifCond .eq 7, 3) := by decide +kernel
theorem dX9_best_31 : decode cX9_best 31 = .ok (.iload_n 3, 1) := by decide +kernel
theorem dX9_best_32 : decode cX9_best 32 = .ok (.ifCond .ne 5, 3) := by decide +kernel
theorem dX9_best_35 : decode cX9_best 35 = .ok (.iconst (-1), 1) := by decide +kernel
theorem dX9_best_36 : decode cX9_best 36 = .ok (.ireturn, 1) := by decide +kernel
theorem dX9_best_37 : decode cX9_best 37 = .ok (.iload_n 3, 1) := by decide +kernel
theorem dX9_best_38 : decode cX9_best 38 = .ok (.iconst (-1), 1) := by decide +kernel
theorem dX9_best_39 : decode cX9_best 39 = .ok (.if_icmp .ne 15, 3) := by decide +kernel
theorem dX9_best_42 : decode cX9_best 42 = .ok (.aload_n 0, 1) := by decide +kernel
theorem dX9_best_43 : decode cX9_best 43 = .ok (.getfield 44, 3) := by decide +kernel
theorem dX9_best_46 : decode cX9_best 46 = .ok (.iload_n 1, 1) := by decide +kernel
theorem dX9_best_47 : decode cX9_best 47 = .ok (.iload_n 2, 1) := by decide +kernel
theorem dX9_best_48 : decode cX9_best 48 = .ok (.invokevirtual 144, 3) := by decide +kernel
theorem dX9_best_51 : decode cX9_best 51 = .ok (.goto 13, 3) := by decide +kernel
theorem dX9_best_54 : decode cX9_best 54 = .ok (.aload_n 0, 1) := by decide +kernel
theorem dX9_best_55 : decode cX9_best 55 = .ok (.getfield 44, 3) := by decide +kernel
theorem dX9_best_58 : decode cX9_best 58 = .ok (.iload_n 1, 1) := by decide +kernel
theorem dX9_best_59 : decode cX9_best 59 = .ok (.iload_n 2, 1) := by decide +kernel
theorem dX9_best_60 : decode cX9_best 60 = .ok (.iload_n 3, 1) := by decide +kernel
theorem dX9_best_61 : decode cX9_best 61 = .ok (.invokevirtual 148, 3) := by decide +kernel
theorem dX9_best_64 : decode cX9_best 64 = .ok (.ireturn, 1) := by decide +kernel
theorem dX9_spend_0 : decode cX9_spend 0 = .ok (.aload_n 0, 1) := by decide +kernel
theorem dX9_spend_1 : decode cX9_spend 1 = .ok (.iload_n 1, 1) := by decide +kernel
theorem dX9_spend_2 : decode cX9_spend 2 = .ok (.iload_n 2, 1) := by decide +kernel
theorem dX9_spend_3 : decode cX9_spend 3 = .ok (.invokevirtual 122, 3) := by decide +kernel
theorem dX9_spend_6 : decode cX9_spend 6 = .ok (.ifCond .ne 6, 3) := by decide +kernel
theorem dX9_spend_9 : decode cX9_spend 9 = .ok (.bipush (-3), 2) := by decide +kernel
theorem dX9_spend_11 : decode cX9_spend 11 = .ok (.ireturn, 1) := by decide +kernel
theorem dX9_spend_12 : decode cX9_spend 12 = .ok (.aload_n 0, 1) := by decide +kernel
theorem dX9_spend_13 : decode cX9_spend 13 = .ok (.getfield 44, 3) := by decide +kernel
theorem dX9_spend_16 : decode cX9_spend 16 = .ok (.iload_n 1, 1) := by decide +kernel
theorem dX9_spend_17 : decode cX9_spend 17 = .ok (.iload_n 2, 1) := by decide +kernel
theorem dX9_spend_18 : decode cX9_spend 18 = .ok (.aload_n 0, 1) := by decide +kernel
theorem dX9_spend_19 : decode cX9_spend 19 = .ok (.getfield 28, 3) := by decide +kernel
theorem dX9_spend_22 : decode cX9_spend 22 = .ok (.invokevirtual 151, 3) := by decide +kernel
theorem dX9_spend_25 : decode cX9_spend 25 = .ok (.ireturn, 1) := by decide +kernel
theorem dX9_bat_0 : decode cX9_bat 0 = .ok (.iload_n 1, 1) := by decide +kernel
theorem dX9_bat_1 : decode cX9_bat 1 = .ok (.iconst 0, 1) := by decide +kernel
theorem dX9_bat_2 : decode cX9_bat 2 = .ok (.bipush 36, 2) := by decide +kernel
theorem dX9_bat_4 : decode cX9_bat 4 = .ok (.invokestatic 85, 3) := by decide +kernel
theorem dX9_bat_7 : decode cX9_bat 7 = .ok (.ifCond .ne 6, 3) := by decide +kernel
theorem dX9_bat_10 : decode cX9_bat 10 = .ok (.bipush (-3), 2) := by decide +kernel
theorem dX9_bat_12 : decode cX9_bat 12 = .ok (.ireturn, 1) := by decide +kernel
theorem dX9_bat_13 : decode cX9_bat 13 = .ok (.aload_n 0, 1) := by decide +kernel
theorem dX9_bat_14 : decode cX9_bat 14 = .ok (.getfield 51, 3) := by decide +kernel
theorem dX9_bat_17 : decode cX9_bat 17 = .ok (.getfield 155, 3) := by decide +kernel
theorem dX9_bat_20 : decode cX9_bat 20 = .ok (.aload_n 0, 1) := by decide +kernel
theorem dX9_bat_21 : decode cX9_bat 21 = .ok (.getfield 28, 3) := by decide +kernel
theorem dX9_bat_24 : decode cX9_bat 24 = .ok (.getfield 158, 3) := by decide +kernel
theorem dX9_bat_27 : decode cX9_bat 27 = .ok (.if_icmp .lt 6, 3) := by decide +kernel
theorem dX9_bat_30 : decode cX9_bat 30 = .ok (.bipush (-5), 2) := by decide +kernel
theorem dX9_bat_32 : decode cX9_bat 32 = .ok (.ireturn, 1) := by decide +kernel
theorem dX9_bat_33 : decode cX9_bat 33 = .ok (.aload_n 0, 1) := by decide +kernel
theorem dX9_bat_34 : decode cX9_bat 34 = .ok (.getfield 51, 3) := by decide +kernel
theorem dX9_bat_37 : decode cX9_bat 37 = .ok (.iload_n 1, 1) := by decide +kernel
theorem dX9_bat_38 : decode cX9_bat 38 = .ok (.invokevirtual 161, 3) := by decide +kernel
theorem dX9_bat_41 : decode cX9_bat 41 = .ok (.aload_n 0, 1) := by decide +kernel
theorem dX9_bat_42 : decode cX9_bat 42 = .ok (.getfield 51, 3) := by decide +kernel
theorem dX9_bat_45 : decode cX9_bat 45 = .ok (.getfield 155, 3) := by decide +kernel
theorem dX9_bat_48 : decode cX9_bat 48 = .ok (.ireturn, 1) := by decide +kernel
theorem dX9_anew_0 : decode cX9_anew 0 = .ok (.aload_n 0, 1) := by decide +kernel
theorem dX9_anew_1 : decode cX9_anew 1 = .ok (.getfield 51, 3) := by decide +kernel
theorem dX9_anew_4 : decode cX9_anew 4 = .ok (.getfield 164, 3) := by decide +kernel
theorem dX9_anew_7 : decode cX9_anew 7 = .ok (.istore_n 1, 1) := by decide +kernel
theorem dX9_anew_8 : decode cX9_anew 8 = .ok (.aload_n 0, 1) := by decide +kernel
theorem dX9_anew_9 : decode cX9_anew 9 = .ok (.getfield 51, 3) := by decide +kernel
theorem dX9_anew_12 : decode cX9_anew 12 = .ok (.invokevirtual 112, 3) := by decide +kernel
theorem dX9_anew_15 : decode cX9_anew 15 = .ok (.aload_n 0, 1) := by decide +kernel
theorem dX9_anew_16 : decode cX9_anew 16 = .ok (.getfield 58, 3) := by decide +kernel
theorem dX9_anew_19 : decode cX9_anew 19 = .ok (.aload_n 0, 1) := by decide +kernel
theorem dX9_anew_20 : decode cX9_anew 20 = .ok (.getfield 28, 3) := by decide +kernel
theorem dX9_anew_23 : decode cX9_anew 23 = .ok (.invokevirtual 81, 3) := by decide +kernel
theorem dX9_anew_26 : decode cX9_anew 26 = .ok (.iload_n 1, 1) := by decide +kernel
theorem dX9_anew_27 : decode cX9_anew 27 = .ok (.ireturn, 1) := by decide +kernel
theorem dX9_play_0 : decode cX9_play 0 = .ok (.iload_n 1, 1) := by decide +kernel
theorem dX9_play_1 : decode cX9_play 1 = .ok (.iconst 0, 1) := by decide +kernel
theorem dX9_play_2 : decode cX9_play 2 = .ok (.bipush 36, 2) := by decide +kernel
theorem dX9_play_4 : decode cX9_play 4 = .ok (.invokestatic 85, 3) := by decide +kernel
theorem dX9_play_7 : decode cX9_play 7 = .ok (.ifCond .eq 12, 3) := by decide +kernel
theorem dX9_play_10 : decode cX9_play 10 = .ok (.iload_n 2, 1) := by decide +kernel
theorem dX9_play_11 : decode cX9_play 11 = .ok (.iconst 0, 1) := by decide +kernel
theorem dX9_play_12 : decode cX9_play 12 = .ok (.iconst 3, 1) := by decide +kernel
theorem dX9_play_13 : decode cX9_play 13 = .ok (.invokestatic 85, 3) := by decide +kernel
theorem dX9_play_16 : decode cX9_play 16 = .ok (.ifCond .ne 6, 3) := by decide +kernel
theorem dX9_play_19 : decode cX9_play 19 = .ok (.bipush (-3), 2) := by decide +kernel
theorem dX9_play_21 : decode cX9_play 21 = .ok (.ireturn, 1) := by decide +kernel
theorem dX9_play_22 : decode cX9_play 22 = .ok (.aload_n 0, 1) := by decide +kernel
theorem dX9_play_23 : decode cX9_play 23 = .ok (.getfield 58, 3) := by decide +kernel
theorem dX9_play_26 : decode cX9_play 26 = .ok (.invokevirtual 167, 3) := by decide +kernel
theorem dX9_play_29 : decode cX9_play 29 = .ok (.ifCond .eq 6, 3) := by decide +kernel
theorem dX9_play_32 : decode cX9_play 32 = .ok (.bipush (-4), 2) := by decide +kernel
theorem dX9_play_34 : decode cX9_play 34 = .ok (.ireturn, 1) := by decide +kernel
theorem dX9_play_35 : decode cX9_play 35 = .ok (.aload_n 0, 1) := by decide +kernel
theorem dX9_play_36 : decode cX9_play 36 = .ok (.getfield 58, 3) := by decide +kernel
theorem dX9_play_39 : decode cX9_play 39 = .ok (.getfield 171, 3) := by decide +kernel
theorem dX9_play_42 : decode cX9_play 42 = .ok (.bipush 24, 2) := by decide +kernel
theorem dX9_play_44 : decode cX9_play 44 = .ok (.if_icmp .lt 6, 3) := by decide +kernel
theorem dX9_play_47 : decode cX9_play 47 = .ok (.bipush (-5), 2) := by decide +kernel
theorem dX9_play_49 : decode cX9_play 49 = .ok (.ireturn, 1) := by decide +kernel
theorem dX9_play_50 : decode cX9_play 50 = .ok (.aload_n 0, 1) := by decide +kernel
theorem dX9_play_51 : decode cX9_play 51 = .ok (.getfield 58, 3) := by decide +kernel
theorem dX9_play_54 : decode cX9_play 54 = .ok (.iload_n 1, 1) := by decide +kernel
theorem dX9_play_55 : decode cX9_play 55 = .ok (.iload_n 2, 1) := by decide +kernel
theorem dX9_play_56 : decode cX9_play 56 = .ok (.invokevirtual 173, 3) := by decide +kernel
theorem dX9_play_59 : decode cX9_play 59 = .ok (.aload_n 0, 1) := by decide +kernel
theorem dX9_play_60 : decode cX9_play 60 = .ok (.getfield 58, 3) := by decide +kernel
theorem dX9_play_63 : decode cX9_play 63 = .ok (.getfield 177, 3) := by decide +kernel
theorem dX9_play_66 : decode cX9_play 66 = .ok (.ireturn, 1) := by decide +kernel
theorem dX9_rain_0 : decode cX9_rain 0 = .ok (.iload_n 1, 1) := by decide +kernel
theorem dX9_rain_1 : decode cX9_rain 1 = .ok (.iconst 1, 1) := by decide +kernel
theorem dX9_rain_2 : decode cX9_rain 2 = .ok (.bipush 12, 2) := by decide +kernel
theorem dX9_rain_4 : decode cX9_rain 4 = .ok (.invokestatic 85, 3) := by decide +kernel
theorem dX9_rain_7 : decode cX9_rain 7 = .ok (.ifCond .ne 6, 3) := by decide +kernel
theorem dX9_rain_10 : decode cX9_rain 10 = .ok (.bipush (-3), 2) := by decide +kernel
theorem dX9_rain_12 : decode cX9_rain 12 = .ok (.ireturn, 1) := by decide +kernel
theorem dX9_rain_13 : decode cX9_rain 13 = .ok (.iload_n 1, 1) := by decide +kernel
theorem dX9_rain_14 : decode cX9_rain 14 = .ok (.aload_n 0, 1) := by decide +kernel
theorem dX9_rain_15 : decode cX9_rain 15 = .ok (.getfield 58, 3) := by decide +kernel
theorem dX9_rain_18 : decode cX9_rain 18 = .ok (.getfield 180, 3) := by decide +kernel
theorem dX9_rain_21 : decode cX9_rain 21 = .ok (.if_icmp .le 6, 3) := by decide +kernel
theorem dX9_rain_24 : decode cX9_rain 24 = .ok (.bipush (-4), 2) := by decide +kernel
theorem dX9_rain_26 : decode cX9_rain 26 = .ok (.ireturn, 1) := by decide +kernel
theorem dX9_rain_27 : decode cX9_rain 27 = .ok (.aload_n 0, 1) := by decide +kernel
theorem dX9_rain_28 : decode cX9_rain 28 = .ok (.getfield 58, 3) := by decide +kernel
theorem dX9_rain_31 : decode cX9_rain 31 = .ok (.getfield 171, 3) := by decide +kernel
theorem dX9_rain_34 : decode cX9_rain 34 = .ok (.bipush 24, 2) := by decide +kernel
theorem dX9_rain_36 : decode cX9_rain 36 = .ok (.if_icmp .lt 6, 3) := by decide +kernel
theorem dX9_rain_39 : decode cX9_rain 39 = .ok (.bipush (-5), 2) := by decide +kernel
theorem dX9_rain_41 : decode cX9_rain 41 = .ok (.ireturn, 1) := by decide +kernel
theorem dX9_rain_42 : decode cX9_rain 42 = .ok (.aload_n 0, 1) := by decide +kernel
theorem dX9_rain_43 : decode cX9_rain 43 = .ok (.getfield 58, 3) := by decide +kernel
theorem dX9_rain_46 : decode cX9_rain 46 = .ok (.iload_n 1, 1) := by decide +kernel
theorem dX9_rain_47 : decode cX9_rain 47 = .ok (.invokevirtual 181, 3) := by decide +kernel
theorem dX9_rain_50 : decode cX9_rain 50 = .ok (.aload_n 0, 1) := by decide +kernel
theorem dX9_rain_51 : decode cX9_rain 51 = .ok (.getfield 58, 3) := by decide +kernel
theorem dX9_rain_54 : decode cX9_rain 54 = .ok (.getfield 180, 3) := by decide +kernel
theorem dX9_rain_57 : decode cX9_rain 57 = .ok (.ireturn, 1) := by decide +kernel
theorem dX9_event_0 : decode cX9_event 0 = .ok (.iload_n 1, 1) := by decide +kernel
theorem dX9_event_1 : decode cX9_event 1 = .ok (.iconst 0, 1) := by decide +kernel
theorem dX9_event_2 : decode cX9_event 2 = .ok (.aload_n 0, 1) := by decide +kernel
theorem dX9_event_3 : decode cX9_event 3 = .ok (.getfield 58, 3) := by decide +kernel
theorem dX9_event_6 : decode cX9_event 6 = .ok (.getfield 171, 3) := by decide +kernel
theorem dX9_event_9 : decode cX9_event 9 = .ok (.iconst 1, 1) := by decide +kernel
theorem dX9_event_10 : decode cX9_event 10 = .ok (.isub, 1) := by decide +kernel
theorem dX9_event_11 : decode cX9_event 11 = .ok (.invokestatic 85, 3) := by decide +kernel
theorem dX9_event_14 : decode cX9_event 14 = .ok (.ifCond .ne 6, 3) := by decide +kernel
theorem dX9_event_17 : decode cX9_event 17 = .ok (.bipush (-2), 2) := by decide +kernel
theorem dX9_event_19 : decode cX9_event 19 = .ok (.ireturn, 1) := by decide +kernel
theorem dX9_event_20 : decode cX9_event 20 = .ok (.iload_n 2, 1) := by decide +kernel
theorem dX9_event_21 : decode cX9_event 21 = .ok (.iconst 0, 1) := by decide +kernel
theorem dX9_event_22 : decode cX9_event 22 = .ok (.iconst 2, 1) := by decide +kernel
theorem dX9_event_23 : decode cX9_event 23 = .ok (.invokestatic 85, 3) := by decide +kernel
theorem dX9_event_26 : decode cX9_event 26 = .ok (.ifCond .ne 6, 3) := by decide +kernel
theorem dX9_event_29 : decode cX9_event 29 = .ok (.bipush (-3), 2) := by decide +kernel
theorem dX9_event_31 : decode cX9_event 31 = .ok (.ireturn, 1) := by decide +kernel
theorem dX9_event_32 : decode cX9_event 32 = .ok (.aload_n 0, 1) := by decide +kernel
theorem dX9_event_33 : decode cX9_event 33 = .ok (.getfield 58, 3) := by decide +kernel
theorem dX9_event_36 : decode cX9_event 36 = .ok (.iload_n 1, 1) := by decide +kernel
theorem dX9_event_37 : decode cX9_event 37 = .ok (.iload_n 2, 1) := by decide +kernel
theorem dX9_event_38 : decode cX9_event 38 = .ok (.invokevirtual 184, 3) := by decide +kernel
theorem dX9_event_41 : decode cX9_event 41 = .ok (.ireturn, 1) := by decide +kernel
theorem dX9_target_0 : decode cX9_target 0 = .ok (.iload_n 1, 1) := by decide +kernel
theorem dX9_target_1 : decode cX9_target 1 = .ok (.invokestatic 186, 3) := by decide +kernel
theorem dX9_target_4 : decode cX9_target 4 = .ok (.ifCond .ne 6, 3) := by decide +kernel
theorem dX9_target_7 : decode cX9_target 7 = .ok (.bipush (-2), 2) := by decide +kernel
theorem dX9_target_9 : decode cX9_target 9 = .ok (.ireturn, 1) := by decide +kernel
theorem dX9_target_10 : decode cX9_target 10 = .ok (.aload_n 0, 1) := by decide +kernel
theorem dX9_target_11 : decode cX9_target 11 = .ok (.getfield 67, 3) := by decide +kernel
theorem dX9_target_14 : decode cX9_target 14 = .ok (.iload_n 1, 1) := by decide +kernel
theorem dX9_target_15 : decode cX9_target 15 = .ok (.aload_n 0, 1) := by decide +kernel
theorem dX9_target_16 : decode cX9_target 16 = .ok (.getfield 58, 3) := by decide +kernel
theorem dX9_target_19 : decode cX9_target 19 = .ok (.aload_n 0, 1) := by decide +kernel
theorem dX9_target_20 : decode cX9_target 20 = .ok (.getfield 58, 3) := by decide +kernel
theorem dX9_target_23 : decode cX9_target 23 = .ok (.getfield 171, 3) := by decide +kernel
theorem dX9_target_26 : decode cX9_target 26 = .ok (.invokevirtual 189, 3) := by decide +kernel
theorem dX9_target_29 : decode cX9_target 29 = .ok (.ireturn, 1) := by decide +kernel
theorem dX9_odds_0 : decode cX9_odds 0 = .ok (.iload_n 1, 1) := by decide +kernel
theorem dX9_odds_1 : decode cX9_odds 1 = .ok (.invokestatic 186, 3) := by decide +kernel
theorem dX9_odds_4 : decode cX9_odds 4 = .ok (.ifCond .ne 6, 3) := by decide +kernel
theorem dX9_odds_7 : decode cX9_odds 7 = .ok (.bipush (-2), 2) := by decide +kernel
theorem dX9_odds_9 : decode cX9_odds 9 = .ok (.ireturn, 1) := by decide +kernel
theorem dX9_odds_10 : decode cX9_odds 10 = .ok (.aload_n 0, 1) := by decide +kernel
theorem dX9_odds_11 : decode cX9_odds 11 = .ok (.getfield 67, 3) := by decide +kernel
theorem dX9_odds_14 : decode cX9_odds 14 = .ok (.iload_n 1, 1) := by decide +kernel
theorem dX9_odds_15 : decode cX9_odds 15 = .ok (.aload_n 0, 1) := by decide +kernel
theorem dX9_odds_16 : decode cX9_odds 16 = .ok (.getfield 58, 3) := by decide +kernel
theorem dX9_odds_19 : decode cX9_odds 19 = .ok (.aload_n 0, 1) := by decide +kernel
theorem dX9_odds_20 : decode cX9_odds 20 = .ok (.getfield 58, 3) := by decide +kernel
theorem dX9_odds_23 : decode cX9_odds 23 = .ok (.getfield 171, 3) := by decide +kernel
theorem dX9_odds_26 : decode cX9_odds 26 = .ok (.invokevirtual 189, 3) := by decide +kernel
theorem dX9_odds_29 : decode cX9_odds 29 = .ok (.aload_n 0, 1) := by decide +kernel
theorem dX9_odds_30 : decode cX9_odds 30 = .ok (.getfield 58, 3) := by decide +kernel
theorem dX9_odds_33 : decode cX9_odds 33 = .ok (.getfield 177, 3) := by decide +kernel
theorem dX9_odds_36 : decode cX9_odds 36 = .ok (.isub, 1) := by decide +kernel
theorem dX9_odds_37 : decode cX9_odds 37 = .ok (.istore_n 2, 1) := by decide +kernel
theorem dX9_odds_38 : decode cX9_odds 38 = .ok (.aload_n 0, 1) := by decide +kernel
theorem dX9_odds_39 : decode cX9_odds 39 = .ok (.getfield 44, 3) := by decide +kernel
theorem dX9_odds_42 : decode cX9_odds 42 = .ok (.aload_n 0, 1) := by decide +kernel
theorem dX9_odds_43 : decode cX9_odds 43 = .ok (.getfield 58, 3) := by decide +kernel
theorem dX9_odds_46 : decode cX9_odds 46 = .ok (.getfield 180, 3) := by decide +kernel
theorem dX9_odds_49 : decode cX9_odds 49 = .ok (.aload_n 0, 1) := by decide +kernel
theorem dX9_odds_50 : decode cX9_odds 50 = .ok (.getfield 58, 3) := by decide +kernel
theorem dX9_odds_53 : decode cX9_odds 53 = .ok (.getfield 193, 3) := by decide +kernel
theorem dX9_odds_56 : decode cX9_odds 56 = .ok (.iload_n 2, 1) := by decide +kernel
theorem dX9_odds_57 : decode cX9_odds 57 = .ok (.invokevirtual 196, 3) := by decide +kernel
theorem dX9_odds_60 : decode cX9_odds 60 = .ok (.ireturn, 1) := by decide +kernel
theorem dX9_gain_0 : decode cX9_gain 0 = .ok (.iload_n 1, 1) := by decide +kernel
theorem dX9_gain_1 : decode cX9_gain 1 = .ok (.invokestatic 186, 3) := by decide +kernel
theorem dX9_gain_4 : decode cX9_gain 4 = .ok (.ifCond .ne 6, 3) := by decide +kernel
theorem dX9_gain_7 : decode cX9_gain 7 = .ok (.bipush (-2), 2) := by decide +kernel
theorem dX9_gain_9 : decode cX9_gain 9 = .ok (.ireturn, 1) := by decide +kernel
theorem dX9_gain_10 : decode cX9_gain 10 = .ok (.aload_n 0, 1) := by decide +kernel
theorem dX9_gain_11 : decode cX9_gain 11 = .ok (.getfield 58, 3) := by decide +kernel
theorem dX9_gain_14 : decode cX9_gain 14 = .ok (.invokevirtual 199, 3) := by decide +kernel
theorem dX9_gain_17 : decode cX9_gain 17 = .ok (.istore_n 2, 1) := by decide +kernel
theorem dX9_gain_18 : decode cX9_gain 18 = .ok (.iload_n 2, 1) := by decide +kernel
theorem dX9_gain_19 : decode cX9_gain 19 = .ok (.iconst (-1), 1) := by decide +kernel
theorem dX9_gain_20 : decode cX9_gain 20 = .ok (.if_icmp .ne 6, 3) := by decide +kernel
theorem dX9_gain_23 : decode cX9_gain 23 = .ok (.bipush (-4), 2) := by decide +kernel
theorem dX9_gain_25 : decode cX9_gain 25 = .ok (.ireturn, 1) := by decide +kernel
theorem dX9_gain_26 : decode cX9_gain 26 = .ok (.aload_n 0, 1) := by decide +kernel
theorem dX9_gain_27 : decode cX9_gain 27 = .ok (.getfield 58, 3) := by decide +kernel
theorem dX9_gain_30 : decode cX9_gain 30 = .ok (.iload_n 2, 1) := by decide +kernel
theorem dX9_gain_31 : decode cX9_gain 31 = .ok (.iconst 3, 1) := by decide +kernel
theorem dX9_gain_32 : decode cX9_gain 32 = .ok (.invokevirtual 184, 3) := by decide +kernel
theorem dX9_gain_35 : decode cX9_gain 35 = .ok (.istore_n 3, 1) := by decide +kernel
theorem dX9_gain_36 : decode cX9_gain 36 = .ok (.aload_n 0, 1) := by decide +kernel
theorem dX9_gain_37 : decode cX9_gain 37 = .ok (.getfield 58, 3) := by decide +kernel
theorem dX9_gain_40 : decode cX9_gain 40 = .ok (.iload_n 2, 1) := by decide +kernel
theorem dX9_gain_41 : decode cX9_gain 41 = .ok (.iconst 4, 1) := by decide +kernel
theorem dX9_gain_42 : decode cX9_gain 42 = .ok (.invokevirtual 184, 3) := by decide +kernel
theorem dX9_gain_45 : decode cX9_gain 45 = .ok (.istore 4, 2) := by decide +kernel
theorem dX9_gain_47 : decode cX9_gain 47 = .ok (.aload_n 0, 1) := by decide +kernel
theorem dX9_gain_48 : decode cX9_gain 48 = .ok (.getfield 58, 3) := by decide +kernel
theorem dX9_gain_51 : decode cX9_gain 51 = .ok (.iload_n 2, 1) := by decide +kernel
theorem dX9_gain_52 : decode cX9_gain 52 = .ok (.iconst 5, 1) := by decide +kernel
theorem dX9_gain_53 : decode cX9_gain 53 = .ok (.invokevirtual 184, 3) := by decide +kernel
theorem dX9_gain_56 : decode cX9_gain 56 = .ok (.istore 5, 2) := by decide +kernel
theorem dX9_gain_58 : decode cX9_gain 58 = .ok (.aload_n 0, 1) := by decide +kernel
theorem dX9_gain_59 : decode cX9_gain 59 = .ok (.getfield 58, 3) := by decide +kernel
theorem dX9_gain_62 : decode cX9_gain 62 = .ok (.iload_n 2, 1) := by decide +kernel
theorem dX9_gain_63 : decode cX9_gain 63 = .ok (.iconst 1, 1) := by decide +kernel
theorem dX9_gain_64 : decode cX9_gain 64 = .ok (.invokevirtual 184, 3) := by decide +kernel
theorem dX9_gain_67 : decode cX9_gain 67 = .ok (.istore 6, 2) := by decide +kernel
theorem dX9_gain_69 : decode cX9_gain 69 = .ok (.aload_n 0, 1) := by decide +kernel
theorem dX9_gain_70 : decode cX9_gain 70 = .ok (.getfield 44, 3) := by decide +kernel
theorem dX9_gain_73 : decode cX9_gain 73 = .ok (.iload_n 3, 1) := by decide +kernel
theorem dX9_gain_74 : decode cX9_gain 74 = .ok (.iload 4, 2) := by decide +kernel
theorem dX9_gain_76 : decode cX9_gain 76 = .ok (.aload_n 0, 1) := by decide +kernel
theorem dX9_gain_77 : decode cX9_gain 77 = .ok (.getfield 67, 3) := by decide +kernel
theorem dX9_gain_80 : decode cX9_gain 80 = .ok (.iload_n 1, 1) := by decide +kernel
theorem dX9_gain_81 : decode cX9_gain 81 = .ok (.aload_n 0, 1) := by decide +kernel
theorem dX9_gain_82 : decode cX9_gain 82 = .ok (.getfield 58, 3) := by decide +kernel
theorem dX9_gain_85 : decode cX9_gain 85 = .ok (.iload_n 2, 1) := by decide +kernel
theorem dX9_gain_86 : decode cX9_gain 86 = .ok (.invokevirtual 189, 3) := by decide +kernel
theorem dX9_gain_89 : decode cX9_gain 89 = .ok (.iload 5, 2) := by decide +kernel
theorem dX9_gain_91 : decode cX9_gain 91 = .ok (.isub, 1) := by decide +kernel
theorem dX9_gain_92 : decode cX9_gain 92 = .ok (.invokevirtual 196, 3) := by decide +kernel
theorem dX9_gain_95 : decode cX9_gain 95 = .ok (.istore 7, 2) := by decide +kernel
theorem dX9_gain_97 : decode cX9_gain 97 = .ok (.aload_n 0, 1) := by decide +kernel
theorem dX9_gain_98 : decode cX9_gain 98 = .ok (.getfield 44, 3) := by decide +kernel
theorem dX9_gain_101 : decode cX9_gain 101 = .ok (.iload_n 3, 1) := by decide +kernel
theorem dX9_gain_102 : decode cX9_gain 102 = .ok (.iload 6, 2) := by decide +kernel
theorem dX9_gain_104 : decode cX9_gain 104 = .ok (.isub, 1) := by decide +kernel
theorem dX9_gain_105 : decode cX9_gain 105 = .ok (.iload 4, 2) := by decide +kernel
theorem dX9_gain_107 : decode cX9_gain 107 = .ok (.aload_n 0, 1) := by decide +kernel
theorem dX9_gain_108 : decode cX9_gain 108 = .ok (.getfield 67, 3) := by decide +kernel
theorem dX9_gain_111 : decode cX9_gain 111 = .ok (.iload_n 1, 1) := by decide +kernel
theorem dX9_gain_112 : decode cX9_gain 112 = .ok (.aload_n 0, 1) := by decide +kernel
theorem dX9_gain_113 : decode cX9_gain 113 = .ok (.getfield 58, 3) := by decide +kernel
theorem dX9_gain_116 : decode cX9_gain 116 = .ok (.iload_n 2, 1) := by decide +kernel
theorem dX9_gain_117 : decode cX9_gain 117 = .ok (.iconst 1, 1) := by decide +kernel
theorem dX9_gain_118 : decode cX9_gain 118 = .ok (.iadd, 1) := by decide +kernel
theorem dX9_gain_119 : decode cX9_gain 119 = .ok (.invokevirtual 189, 3) := by decide +kernel
theorem dX9_gain_122 : decode cX9_gain 122 = .ok (.iload 5, 2) := by decide +kernel
theorem dX9_gain_124 : decode cX9_gain 124 = .ok (.isub, 1) := by decide +kernel
theorem dX9_gain_125 : decode cX9_gain 125 = .ok (.invokevirtual 196, 3) := by decide +kernel
theorem dX9_gain_128 : decode cX9_gain 128 = .ok (.istore 8, 2) := by decide +kernel
theorem dX9_gain_130 : decode cX9_gain 130 = .ok (.iload 8, 2) := by decide +kernel
theorem dX9_gain_132 : decode cX9_gain 132 = .ok (.iload 7, 2) := by decide +kernel
theorem dX9_gain_134 : decode cX9_gain 134 = .ok (.isub, 1) := by decide +kernel
theorem dX9_gain_135 : decode cX9_gain 135 = .ok (.ldc 202, 2) := by decide +kernel
theorem dX9_gain_137 : decode cX9_gain 137 = .ok (.iadd, 1) := by decide +kernel
theorem dX9_gain_138 : decode cX9_gain 138 = .ok (.ireturn, 1) := by decide +kernel
theorem dX9_won_0 : decode cX9_won 0 = .ok (.iload_n 1, 1) := by decide +kernel
theorem dX9_won_1 : decode cX9_won 1 = .ok (.invokestatic 186, 3) := by decide +kernel
theorem dX9_won_4 : decode cX9_won 4 = .ok (.ifCond .ne 6, 3) := by decide +kernel
theorem dX9_won_7 : decode cX9_won 7 = .ok (.bipush (-2), 2) := by decide +kernel
theorem dX9_won_9 : decode cX9_won 9 = .ok (.ireturn, 1) := by decide +kernel
theorem dX9_won_10 : decode cX9_won 10 = .ok (.aload_n 0, 1) := by decide +kernel
theorem dX9_won_11 : decode cX9_won 11 = .ok (.getfield 58, 3) := by decide +kernel
theorem dX9_won_14 : decode cX9_won 14 = .ok (.getfield 177, 3) := by decide +kernel
theorem dX9_won_17 : decode cX9_won 17 = .ok (.aload_n 0, 1) := by decide +kernel
theorem dX9_won_18 : decode cX9_won 18 = .ok (.getfield 67, 3) := by decide +kernel
theorem dX9_won_21 : decode cX9_won 21 = .ok (.iload_n 1, 1) := by decide +kernel
theorem dX9_won_22 : decode cX9_won 22 = .ok (.aload_n 0, 1) := by decide +kernel
theorem dX9_won_23 : decode cX9_won 23 = .ok (.getfield 58, 3) := by decide +kernel
theorem dX9_won_26 : decode cX9_won 26 = .ok (.aload_n 0, 1) := by decide +kernel
theorem dX9_won_27 : decode cX9_won 27 = .ok (.getfield 58, 3) := by decide +kernel
theorem dX9_won_30 : decode cX9_won 30 = .ok (.getfield 171, 3) := by decide +kernel
theorem dX9_won_33 : decode cX9_won 33 = .ok (.invokevirtual 189, 3) := by decide +kernel
theorem dX9_won_36 : decode cX9_won 36 = .ok (.if_icmp .lt 5, 3) := by decide +kernel
theorem dX9_won_39 : decode cX9_won 39 = .ok (.iconst 1, 1) := by decide +kernel
theorem dX9_won_40 : decode cX9_won 40 = .ok (.ireturn, 1) := by decide +kernel
theorem dX9_won_41 : decode cX9_won 41 = .ok (.aload_n 0, 1) := by decide +kernel
theorem dX9_won_42 : decode cX9_won 42 = .ok (.getfield 58, 3) := by decide +kernel
theorem dX9_won_45 : decode cX9_won 45 = .ok (.invokevirtual 167, 3) := by decide +kernel
theorem dX9_won_48 : decode cX9_won 48 = .ok (.ifCond .eq 7, 3) := by decide +kernel
theorem dX9_won_51 : decode cX9_won 51 = .ok (.iconst 0, 1) := by decide +kernel
theorem dX9_won_52 : decode cX9_won 52 = .ok (.goto 4, 3) := by decide +kernel
theorem dX9_won_55 : decode cX9_won 55 = .ok (.iconst 2, 1) := by decide +kernel
theorem dX9_won_56 : decode cX9_won 56 = .ok (.ireturn, 1) := by decide +kernel
theorem dX9_odd_0 : decode cX9_odd 0 = .ok (.iload_n 1, 1) := by decide +kernel
theorem dX9_odd_1 : decode cX9_odd 1 = .ok (.invokestatic 186, 3) := by decide +kernel
theorem dX9_odd_4 : decode cX9_odd 4 = .ok (.ifCond .ne 6, 3) := by decide +kernel
theorem dX9_odd_7 : decode cX9_odd 7 = .ok (.bipush (-2), 2) := by decide +kernel
theorem dX9_odd_9 : decode cX9_odd 9 = .ok (.ireturn, 1) := by decide +kernel
theorem dX9_odd_10 : decode cX9_odd 10 = .ok (.aload_n 0, 1) := by decide +kernel
theorem dX9_odd_11 : decode cX9_odd 11 = .ok (.getfield 28, 3) := by decide +kernel
theorem dX9_odd_14 : decode cX9_odd 14 = .ok (.getfield 158, 3) := by decide +kernel
theorem dX9_odd_17 : decode cX9_odd 17 = .ok (.istore_n 2, 1) := by decide +kernel
theorem dX9_odd_18 : decode cX9_odd 18 = .ok (.iload_n 2, 1) := by decide +kernel
theorem dX9_odd_19 : decode cX9_odd 19 = .ok (.iconst 1, 1) := by decide +kernel
theorem dX9_odd_20 : decode cX9_odd 20 = .ok (.if_icmp .lt 64, 3) := by decide +kernel
theorem dX9_odd_23 : decode cX9_odd 23 = .ok (.iconst 1, 1) := by decide +kernel
theorem dX9_odd_24 : decode cX9_odd 24 = .ok (.istore_n 3, 1) := by decide +kernel
theorem dX9_odd_25 : decode cX9_odd 25 = .ok (.iload_n 3, 1) := by decide +kernel
theorem dX9_odd_26 : decode cX9_odd 26 = .ok (.iload_n 2, 1) := by decide +kernel
theorem dX9_odd_27 : decode cX9_odd 27 = .ok (.if_icmp .ge 51, 3) := by decide +kernel
theorem dX9_odd_30 : decode cX9_odd 30 = .ok (.aload_n 0, 1) := by decide +kernel
theorem dX9_odd_31 : decode cX9_odd 31 = .ok (.getfield 51, 3) := by decide +kernel
theorem dX9_odd_34 : decode cX9_odd 34 = .ok (.getfield 164, 3) := by decide +kernel
theorem dX9_odd_37 : decode cX9_odd 37 = .ok (.iconst 1, 1) := by decide +kernel
theorem dX9_odd_38 : decode cX9_odd 38 = .ok (.iadd, 1) := by decide +kernel
theorem dX9_odd_39 : decode cX9_odd 39 = .ok (.bipush 36, 2) := by decide +kernel
theorem dX9_odd_41 : decode cX9_odd 41 = .ok (.iload_n 2, 1) := by decide +kernel
theorem dX9_odd_42 : decode cX9_odd 42 = .ok (.imul, 1) := by decide +kernel
theorem dX9_odd_43 : decode cX9_odd 43 = .ok (.if_icmp .gt 29, 3) := by decide +kernel
theorem dX9_odd_46 : decode cX9_odd 46 = .ok (.aload_n 0, 1) := by decide +kernel
theorem dX9_odd_47 : decode cX9_odd 47 = .ok (.getfield 67, 3) := by decide +kernel
theorem dX9_odd_50 : decode cX9_odd 50 = .ok (.iload_n 1, 1) := by decide +kernel
theorem dX9_odd_51 : decode cX9_odd 51 = .ok (.iload_n 2, 1) := by decide +kernel
theorem dX9_odd_52 : decode cX9_odd 52 = .ok (.iload_n 3, 1) := by decide +kernel
theorem dX9_odd_53 : decode cX9_odd 53 = .ok (.invokevirtual 203, 3) := by decide +kernel
theorem dX9_odd_56 : decode cX9_odd 56 = .ok (.bipush 36, 2) := by decide +kernel
theorem dX9_odd_58 : decode cX9_odd 58 = .ok (.iload_n 2, 1) := by decide +kernel
theorem dX9_odd_59 : decode cX9_odd 59 = .ok (.iload_n 3, 1) := by decide +kernel
theorem dX9_odd_60 : decode cX9_odd 60 = .ok (.isub, 1) := by decide +kernel
theorem dX9_odd_61 : decode cX9_odd 61 = .ok (.imul, 1) := by decide +kernel
theorem dX9_odd_62 : decode cX9_odd 62 = .ok (.if_icmp .le 10, 3) := by decide +kernel
theorem dX9_odd_65 : decode cX9_odd 65 = .ok (.bipush 100, 2) := by decide +kernel
theorem dX9_odd_67 : decode cX9_odd 67 = .ok (.iload_n 2, 1) := by decide +kernel
theorem dX9_odd_68 : decode cX9_odd 68 = .ok (.imul, 1) := by decide +kernel
theorem dX9_odd_69 : decode cX9_odd 69 = .ok (.iload_n 3, 1) := by decide +kernel
theorem dX9_odd_70 : decode cX9_odd 70 = .ok (.iadd, 1) := by decide +kernel
theorem dX9_odd_71 : decode cX9_odd 71 = .ok (.ireturn, 1) := by decide +kernel
theorem dX9_odd_72 : decode cX9_odd 72 = .ok (.iinc 3 1, 3) := by decide +kernel
theorem dX9_odd_75 : decode cX9_odd 75 = .ok (.goto (-50), 3) := by decide +kernel
theorem dX9_odd_78 : decode cX9_odd 78 = .ok (.iinc 2 (-1), 3) := by decide +kernel
theorem dX9_odd_81 : decode cX9_odd 81 = .ok (.goto (-63), 3) := by decide +kernel
theorem dX9_odd_84 : decode cX9_odd 84 = .ok (.iconst (-1), 1) := by decide +kernel
theorem dX9_odd_85 : decode cX9_odd 85 = .ok (.ireturn, 1) := by decide +kernel
theorem dX9_sheet_0 : decode cX9_sheet 0 = .ok (.iload_n 1, 1) := by decide +kernel
theorem dX9_sheet_1 : decode cX9_sheet 1 = .ok (.invokestatic 186, 3) := by decide +kernel
theorem dX9_sheet_4 : decode cX9_sheet 4 = .ok (.ifCond .ne 6, 3) := by decide +kernel
theorem dX9_sheet_7 : decode cX9_sheet 7 = .ok (.bipush (-2), 2) := by decide +kernel
theorem dX9_sheet_9 : decode cX9_sheet 9 = .ok (.ireturn, 1) := by decide +kernel
theorem dX9_sheet_10 : decode cX9_sheet 10 = .ok (.iload_n 2, 1) := by decide +kernel
theorem dX9_sheet_11 : decode cX9_sheet 11 = .ok (.iconst 0, 1) := by decide +kernel
theorem dX9_sheet_12 : decode cX9_sheet 12 = .ok (.aload_n 0, 1) := by decide +kernel
theorem dX9_sheet_13 : decode cX9_sheet 13 = .ok (.getfield 28, 3) := by decide +kernel
theorem dX9_sheet_16 : decode cX9_sheet 16 = .ok (.getfield 158, 3) := by decide +kernel
theorem dX9_sheet_19 : decode cX9_sheet 19 = .ok (.invokestatic 85, 3) := by decide +kernel
theorem dX9_sheet_22 : decode cX9_sheet 22 = .ok (.ifCond .ne 6, 3) := by decide +kernel
theorem dX9_sheet_25 : decode cX9_sheet 25 = .ok (.bipush (-3), 2) := by decide +kernel
theorem dX9_sheet_27 : decode cX9_sheet 27 = .ok (.ireturn, 1) := by decide +kernel
theorem dX9_sheet_28 : decode cX9_sheet 28 = .ok (.aload_n 0, 1) := by decide +kernel
theorem dX9_sheet_29 : decode cX9_sheet 29 = .ok (.getfield 67, 3) := by decide +kernel
theorem dX9_sheet_32 : decode cX9_sheet 32 = .ok (.iload_n 1, 1) := by decide +kernel
theorem dX9_sheet_33 : decode cX9_sheet 33 = .ok (.aload_n 0, 1) := by decide +kernel
theorem dX9_sheet_34 : decode cX9_sheet 34 = .ok (.getfield 28, 3) := by decide +kernel
theorem dX9_sheet_37 : decode cX9_sheet 37 = .ok (.getfield 158, 3) := by decide +kernel
theorem dX9_sheet_40 : decode cX9_sheet 40 = .ok (.iload_n 2, 1) := by decide +kernel
theorem dX9_sheet_41 : decode cX9_sheet 41 = .ok (.invokevirtual 203, 3) := by decide +kernel
theorem dX9_sheet_44 : decode cX9_sheet 44 = .ok (.ireturn, 1) := by decide +kernel
theorem dX9_clouded_0 : decode cX9_clouded 0 = .ok (.iload_n 1, 1) := by decide +kernel
theorem dX9_clouded_1 : decode cX9_clouded 1 = .ok (.invokestatic 186, 3) := by decide +kernel
theorem dX9_clouded_4 : decode cX9_clouded 4 = .ok (.ifCond .ne 6, 3) := by decide +kernel
theorem dX9_clouded_7 : decode cX9_clouded 7 = .ok (.bipush (-2), 2) := by decide +kernel
theorem dX9_clouded_9 : decode cX9_clouded 9 = .ok (.ireturn, 1) := by decide +kernel
theorem dX9_clouded_10 : decode cX9_clouded 10 = .ok (.aload_n 0, 1) := by decide +kernel
theorem dX9_clouded_11 : decode cX9_clouded 11 = .ok (.getfield 28, 3) := by decide +kernel
theorem dX9_clouded_14 : decode cX9_clouded 14 = .ok (.getfield 158, 3) := by decide +kernel
theorem dX9_clouded_17 : decode cX9_clouded 17 = .ok (.istore_n 2, 1) := by decide +kernel
theorem dX9_clouded_18 : decode cX9_clouded 18 = .ok (.aload_n 0, 1) := by decide +kernel
theorem dX9_clouded_19 : decode cX9_clouded 19 = .ok (.getfield 28, 3) := by decide +kernel
theorem dX9_clouded_22 : decode cX9_clouded 22 = .ok (.getfield 206, 3) := by decide +kernel
theorem dX9_clouded_25 : decode cX9_clouded 25 = .ok (.iload_n 2, 1) := by decide +kernel
theorem dX9_clouded_26 : decode cX9_clouded 26 = .ok (.iconst 1, 1) := by decide +kernel
theorem dX9_clouded_27 : decode cX9_clouded 27 = .ok (.isub, 1) := by decide +kernel
theorem dX9_clouded_28 : decode cX9_clouded 28 = .ok (.invokestatic 209, 3) := by decide +kernel
theorem dX9_clouded_31 : decode cX9_clouded 31 = .ok (.istore_n 3, 1) := by decide +kernel
theorem dX9_clouded_32 : decode cX9_clouded 32 = .ok (.aload_n 0, 1) := by decide +kernel
theorem dX9_clouded_33 : decode cX9_clouded 33 = .ok (.getfield 67, 3) := by decide +kernel
theorem dX9_clouded_36 : decode cX9_clouded 36 = .ok (.iload_n 1, 1) := by decide +kernel
theorem dX9_clouded_37 : decode cX9_clouded 37 = .ok (.iload_n 2, 1) := by decide +kernel
theorem dX9_clouded_38 : decode cX9_clouded 38 = .ok (.iload_n 3, 1) := by decide +kernel
theorem dX9_clouded_39 : decode cX9_clouded 39 = .ok (.invokevirtual 203, 3) := by decide +kernel
theorem dX9_clouded_42 : decode cX9_clouded 42 = .ok (.istore 4, 2) := by decide +kernel
theorem dX9_clouded_44 : decode cX9_clouded 44 = .ok (.aload_n 0, 1) := by decide +kernel
theorem dX9_clouded_45 : decode cX9_clouded 45 = .ok (.getfield 44, 3) := by decide +kernel
theorem dX9_clouded_48 : decode cX9_clouded 48 = .ok (.iload_n 2, 1) := by decide +kernel
theorem dX9_clouded_49 : decode cX9_clouded 49 = .ok (.iload_n 3, 1) := by decide +kernel
theorem dX9_clouded_50 : decode cX9_clouded 50 = .ok (.isub, 1) := by decide +kernel
theorem dX9_clouded_51 : decode cX9_clouded 51 = .ok (.aload_n 0, 1) := by decide +kernel
theorem dX9_clouded_52 : decode cX9_clouded 52 = .ok (.getfield 28, 3) := by decide +kernel
theorem dX9_clouded_55 : decode cX9_clouded 55 = .ok (.getfield 214, 3) := by decide +kernel
theorem dX9_clouded_58 : decode cX9_clouded 58 = .ok (.iload 4, 2) := by decide +kernel
theorem dX9_clouded_60 : decode cX9_clouded 60 = .ok (.invokevirtual 140, 3) := by decide +kernel
theorem dX9_clouded_63 : decode cX9_clouded 63 = .ok (.iload_n 3, 1) := by decide +kernel
theorem dX9_clouded_64 : decode cX9_clouded 64 = .ok (.invokestatic 132, 3) := by decide +kernel
theorem dX9_clouded_67 : decode cX9_clouded 67 = .ok (.lmul, 1) := by decide +kernel
theorem dX9_clouded_68 : decode cX9_clouded 68 = .ok (.lstore 5, 2) := by decide +kernel
theorem dX9_clouded_70 : decode cX9_clouded 70 = .ok (.aload_n 0, 1) := by decide +kernel
theorem dX9_clouded_71 : decode cX9_clouded 71 = .ok (.getfield 44, 3) := by decide +kernel
theorem dX9_clouded_74 : decode cX9_clouded 74 = .ok (.iload_n 2, 1) := by decide +kernel
theorem dX9_clouded_75 : decode cX9_clouded 75 = .ok (.aload_n 0, 1) := by decide +kernel
theorem dX9_clouded_76 : decode cX9_clouded 76 = .ok (.getfield 28, 3) := by decide +kernel
theorem dX9_clouded_79 : decode cX9_clouded 79 = .ok (.getfield 214, 3) := by decide +kernel
theorem dX9_clouded_82 : decode cX9_clouded 82 = .ok (.aload_n 0, 1) := by decide +kernel
theorem dX9_clouded_83 : decode cX9_clouded 83 = .ok (.getfield 51, 3) := by decide +kernel
theorem dX9_clouded_86 : decode cX9_clouded 86 = .ok (.getfield 164, 3) := by decide +kernel
theorem dX9_clouded_89 : decode cX9_clouded 89 = .ok (.iconst 1, 1) := by decide +kernel
theorem dX9_clouded_90 : decode cX9_clouded 90 = .ok (.iadd, 1) := by decide +kernel
theorem dX9_clouded_91 : decode cX9_clouded 91 = .ok (.invokevirtual 140, 3) := by decide +kernel
theorem dX9_clouded_94 : decode cX9_clouded 94 = .ok (.lstore 7, 2) := by decide +kernel
theorem dX9_clouded_96 : decode cX9_clouded 96 = .ok (.lload 5, 2) := by decide +kernel
theorem dX9_clouded_98 : decode cX9_clouded 98 = .ok (.aload_n 0, 1) := by decide +kernel
theorem dX9_clouded_99 : decode cX9_clouded 99 = .ok (.getfield 28, 3) := by decide +kernel
theorem dX9_clouded_102 : decode cX9_clouded 102 = .ok (.getfield 215, 3) := by decide +kernel
theorem dX9_clouded_105 : decode cX9_clouded 105 = .ok (.i2l, 1) := by decide +kernel
theorem dX9_clouded_106 : decode cX9_clouded 106 = .ok (.lmul, 1) := by decide +kernel
theorem dX9_clouded_107 : decode cX9_clouded 107 = .ok (.lload 7, 2) := by decide +kernel
theorem dX9_clouded_109 : decode cX9_clouded 109 = .ok (.bipush 10, 2) := by decide +kernel
theorem dX9_clouded_111 : decode cX9_clouded 111 = .ok (.aload_n 0, 1) := by decide +kernel
theorem dX9_clouded_112 : decode cX9_clouded 112 = .ok (.getfield 28, 3) := by decide +kernel
theorem dX9_clouded_115 : decode cX9_clouded 115 = .ok (.getfield 215, 3) := by decide +kernel
theorem dX9_clouded_118 : decode cX9_clouded 118 = .ok (.isub, 1) := by decide +kernel
theorem dX9_clouded_119 : decode cX9_clouded 119 = .ok (.i2l, 1) := by decide +kernel
theorem dX9_clouded_120 : decode cX9_clouded 120 = .ok (.lmul, 1) := by decide +kernel
theorem dX9_clouded_121 : decode cX9_clouded 121 = .ok (.ladd, 1) := by decide +kernel
theorem dX9_clouded_122 : decode cX9_clouded 122 = .ok (.lstore 9, 2) := by decide +kernel
theorem dX9_clouded_124 : decode cX9_clouded 124 = .ok (.lload 9, 2) := by decide +kernel
theorem dX9_clouded_126 : decode cX9_clouded 126 = .ok (.iload_n 2, 1) := by decide +kernel
theorem dX9_clouded_127 : decode cX9_clouded 127 = .ok (.iconst 1, 1) := by decide +kernel
theorem dX9_clouded_128 : decode cX9_clouded 128 = .ok (.iadd, 1) := by decide +kernel
theorem dX9_clouded_129 : decode cX9_clouded 129 = .ok (.invokestatic 218, 3) := by decide +kernel
theorem dX9_clouded_132 : decode cX9_clouded 132 = .ok (.ireturn, 1) := by decide +kernel
theorem dX9_simple_0 : decode cX9_simple 0 = .ok (.iload_n 1, 1) := by decide +kernel
theorem dX9_simple_1 : decode cX9_simple 1 = .ok (.iconst 0, 1) := by decide +kernel
theorem dX9_simple_2 : decode cX9_simple 2 = .ok (.iconst 1, 1) := by decide +kernel
theorem dX9_simple_3 : decode cX9_simple 3 = .ok (.invokestatic 85, 3) := by decide +kernel
theorem dX9_simple_6 : decode cX9_simple 6 = .ok (.ifCond .ne 6, 3) := by decide +kernel
theorem dX9_simple_9 : decode cX9_simple 9 = .ok (.bipush (-3), 2) := by decide +kernel
theorem dX9_simple_11 : decode cX9_simple 11 = .ok (.ireturn, 1) := by decide +kernel
theorem dX9_simple_12 : decode cX9_simple 12 = .ok (.aload_n 0, 1) := by decide +kernel
theorem dX9_simple_13 : decode cX9_simple 13 = .ok (.getfield 67, 3) := by decide +kernel
theorem dX9_simple_16 : decode cX9_simple 16 = .ok (.invokevirtual 222, 3) := by decide +kernel
theorem dX9_simple_19 : decode cX9_simple 19 = .ok (.iconst 0, 1) := by decide +kernel
theorem dX9_simple_20 : decode cX9_simple 20 = .ok (.istore_n 2, 1) := by decide +kernel
theorem dX9_simple_21 : decode cX9_simple 21 = .ok (.aload_n 0, 1) := by decide +kernel
theorem dX9_simple_22 : decode cX9_simple 22 = .ok (.getfield 67, 3) := by decide +kernel
theorem dX9_simple_25 : decode cX9_simple 25 = .ok (.iconst 0, 1) := by decide +kernel
theorem dX9_simple_26 : decode cX9_simple 26 = .ok (.invokevirtual 225, 3) := by decide +kernel
theorem dX9_simple_29 : decode cX9_simple 29 = .ok (.istore_n 3, 1) := by decide +kernel
theorem dX9_simple_30 : decode cX9_simple 30 = .ok (.iconst 1, 1) := by decide +kernel
theorem dX9_simple_31 : decode cX9_simple 31 = .ok (.istore 4, 2) := by decide +kernel
theorem dX9_simple_33 : decode cX9_simple 33 = .ok (.iload 4, 2) := by decide +kernel
theorem dX9_simple_35 : decode cX9_simple 35 = .ok (.bipush 99, 2) := by decide +kernel
theorem dX9_simple_37 : decode cX9_simple 37 = .ok (.if_icmp .gt 32, 3) := by decide +kernel
theorem dX9_simple_40 : decode cX9_simple 40 = .ok (.aload_n 0, 1) := by decide +kernel
theorem dX9_simple_41 : decode cX9_simple 41 = .ok (.getfield 67, 3) := by decide +kernel
theorem dX9_simple_44 : decode cX9_simple 44 = .ok (.iload 4, 2) := by decide +kernel
theorem dX9_simple_46 : decode cX9_simple 46 = .ok (.invokevirtual 225, 3) := by decide +kernel
theorem dX9_simple_49 : decode cX9_simple 49 = .ok (.istore 5, 2) := by decide +kernel
theorem dX9_simple_51 : decode cX9_simple 51 = .ok (.iload 5, 2) := by decide +kernel
theorem dX9_simple_53 : decode cX9_simple 53 = .ok (.iload_n 3, 1) := by decide +kernel
theorem dX9_simple_54 : decode cX9_simple 54 = .ok (.if_icmp .ge 9, 3) := by decide +kernel
theorem dX9_simple_57 : decode cX9_simple 57 = .ok (.iload 4, 2) := by decide +kernel
theorem dX9_simple_59 : decode cX9_simple 59 = .ok (.istore_n 2, 1) := by decide +kernel
theorem dX9_simple_60 : decode cX9_simple 60 = .ok (.iload 5, 2) := by decide +kernel
theorem dX9_simple_62 : decode cX9_simple 62 = .ok (.istore_n 3, 1) := by decide +kernel
theorem dX9_simple_63 : decode cX9_simple 63 = .ok (.iinc 4 1, 3) := by decide +kernel
theorem dX9_simple_66 : decode cX9_simple 66 = .ok (.goto (-33), 3) := by decide +kernel
theorem dX9_simple_69 : decode cX9_simple 69 = .ok (.iload_n 1, 1) := by decide +kernel
theorem dX9_simple_70 : decode cX9_simple 70 = .ok (.ifCond .ne 7, 3) := by decide +kernel
theorem dX9_simple_73 : decode cX9_simple 73 = .ok (.iload_n 2, 1) := by decide +kernel
theorem dX9_simple_74 : decode cX9_simple 74 = .ok (.goto 4, 3) := by decide +kernel
theorem dX9_simple_77 : decode cX9_simple 77 = .ok (.iload_n 3, 1) := by decide +kernel
theorem dX9_simple_78 : decode cX9_simple 78 = .ok (.ireturn, 1) := by decide +kernel
theorem dX9_match_0 : decode cX9_match 0 = .ok (.iload_n 1, 1) := by decide +kernel
theorem dX9_match_1 : decode cX9_match 1 = .ok (.iconst 0, 1) := by decide +kernel
theorem dX9_match_2 : decode cX9_match 2 = .ok (.bipush 12, 2) := by decide +kernel
theorem dX9_match_4 : decode cX9_match 4 = .ok (.invokestatic 85, 3) := by decide +kernel
theorem dX9_match_7 : decode cX9_match 7 = .ok (.ifCond .eq 24, 3) := by decide +kernel
theorem dX9_match_10 : decode cX9_match 10 = .ok (.iload_n 2, 1) := by decide +kernel
theorem dX9_match_11 : decode cX9_match 11 = .ok (.iconst 0, 1) := by decide +kernel
theorem dX9_match_12 : decode cX9_match 12 = .ok (.bipush 10, 2) := by decide +kernel
theorem dX9_match_14 : decode cX9_match 14 = .ok (.invokestatic 85, 3) := by decide +kernel
theorem dX9_match_17 : decode cX9_match 17 = .ok (.ifCond .eq 14, 3) := by decide +kernel
theorem dX9_match_20 : decode cX9_match 20 = .ok (.iload_n 3, 1) := by decide +kernel
theorem dX9_match_21 : decode cX9_match 21 = .ok (.iconst 0, 1) := by decide +kernel
theorem dX9_match_22 : decode cX9_match 22 = .ok (.sipush 999, 3) := by decide +kernel
theorem dX9_match_25 : decode cX9_match 25 = .ok (.invokestatic 85, 3) := by decide +kernel
theorem dX9_match_28 : decode cX9_match 28 = .ok (.ifCond .ne 6, 3) := by decide +kernel
theorem dX9_match_31 : decode cX9_match 31 = .ok (.bipush (-3), 2) := by decide +kernel
theorem dX9_match_33 : decode cX9_match 33 = .ok (.ireturn, 1) := by decide +kernel
theorem dX9_match_34 : decode cX9_match 34 = .ok (.aload_n 0, 1) := by decide +kernel
theorem dX9_match_35 : decode cX9_match 35 = .ok (.getfield 74, 3) := by decide +kernel
theorem dX9_match_38 : decode cX9_match 38 = .ok (.getfield 228, 3) := by decide +kernel
theorem dX9_match_41 : decode cX9_match 41 = .ok (.bipush 24, 2) := by decide +kernel
theorem dX9_match_43 : decode cX9_match 43 = .ok (.if_icmp .lt 6, 3) := by decide +kernel
theorem dX9_match_46 : decode cX9_match 46 = .ok (.bipush (-5), 2) := by decide +kernel
theorem dX9_match_48 : decode cX9_match 48 = .ok (.ireturn, 1) := by decide +kernel
theorem dX9_match_49 : decode cX9_match 49 = .ok (.aload_n 0, 1) := by decide +kernel
theorem dX9_match_50 : decode cX9_match 50 = .ok (.getfield 74, 3) := by decide +kernel
theorem dX9_match_53 : decode cX9_match 53 = .ok (.iload_n 1, 1) := by decide +kernel
theorem dX9_match_54 : decode cX9_match 54 = .ok (.iload_n 2, 1) := by decide +kernel
theorem dX9_match_55 : decode cX9_match 55 = .ok (.iload_n 3, 1) := by decide +kernel
theorem dX9_match_56 : decode cX9_match 56 = .ok (.invokevirtual 229, 3) := by decide +kernel
theorem dX9_match_59 : decode cX9_match 59 = .ok (.aload_n 0, 1) := by decide +kernel
theorem dX9_match_60 : decode cX9_match 60 = .ok (.getfield 74, 3) := by decide +kernel
theorem dX9_match_63 : decode cX9_match 63 = .ok (.getfield 228, 3) := by decide +kernel
theorem dX9_match_66 : decode cX9_match 66 = .ok (.ireturn, 1) := by decide +kernel
theorem dX9_tried_0 : decode cX9_tried 0 = .ok (.aload_n 0, 1) := by decide +kernel
theorem dX9_tried_1 : decode cX9_tried 1 = .ok (.getfield 74, 3) := by decide +kernel
theorem dX9_tried_4 : decode cX9_tried 4 = .ok (.aload_n 0, 1) := by decide +kernel
theorem dX9_tried_5 : decode cX9_tried 5 = .ok (.getfield 44, 3) := by decide +kernel
theorem dX9_tried_8 : decode cX9_tried 8 = .ok (.aload_n 0, 1) := by decide +kernel
theorem dX9_tried_9 : decode cX9_tried 9 = .ok (.getfield 28, 3) := by decide +kernel
theorem dX9_tried_12 : decode cX9_tried 12 = .ok (.invokevirtual 232, 3) := by decide +kernel
theorem dX9_tried_15 : decode cX9_tried 15 = .ok (.ireturn, 1) := by decide +kernel
theorem dX9_count_0 : decode cX9_count 0 = .ok (.iload_n 1, 1) := by decide +kernel
theorem dX9_count_1 : decode cX9_count 1 = .ok (.tableswitch 135 0 9 #[55, 63, 71, 79, 87, 95, 103, 111, 119, 127], 55) := by decide +kernel
theorem dX9_count_56 : decode cX9_count 56 = .ok (.aload_n 0, 1) := by decide +kernel
theorem dX9_count_57 : decode cX9_count 57 = .ok (.getfield 28, 3) := by decide +kernel
theorem dX9_count_60 : decode cX9_count 60 = .ok (.getfield 158, 3) := by decide +kernel
theorem dX9_count_63 : decode cX9_count 63 = .ok (.ireturn, 1) := by decide +kernel
theorem dX9_count_64 : decode cX9_count 64 = .ok (.aload_n 0, 1) := by decide +kernel
theorem dX9_count_65 : decode cX9_count 65 = .ok (.getfield 28, 3) := by decide +kernel
theorem dX9_count_68 : decode cX9_count 68 = .ok (.getfield 214, 3) := by decide +kernel
theorem dX9_count_71 : decode cX9_count 71 = .ok (.ireturn, 1) := by decide +kernel
theorem dX9_count_72 : decode cX9_count 72 = .ok (.aload_n 0, 1) := by decide +kernel
theorem dX9_count_73 : decode cX9_count 73 = .ok (.getfield 12, 3) := by decide +kernel
theorem dX9_count_76 : decode cX9_count 76 = .ok (.getfield 89, 3) := by decide +kernel
theorem dX9_count_79 : decode cX9_count 79 = .ok (.ireturn, 1) := by decide +kernel
theorem dX9_count_80 : decode cX9_count 80 = .ok (.aload_n 0, 1) := by decide +kernel
theorem dX9_count_81 : decode cX9_count 81 = .ok (.getfield 51, 3) := by decide +kernel
theorem dX9_count_84 : decode cX9_count 84 = .ok (.getfield 164, 3) := by decide +kernel
theorem dX9_count_87 : decode cX9_count 87 = .ok (.ireturn, 1) := by decide +kernel
theorem dX9_count_88 : decode cX9_count 88 = .ok (.aload_n 0, 1) := by decide +kernel
theorem dX9_count_89 : decode cX9_count 89 = .ok (.getfield 58, 3) := by decide +kernel
theorem dX9_count_92 : decode cX9_count 92 = .ok (.getfield 171, 3) := by decide +kernel
theorem dX9_count_95 : decode cX9_count 95 = .ok (.ireturn, 1) := by decide +kernel
theorem dX9_count_96 : decode cX9_count 96 = .ok (.aload_n 0, 1) := by decide +kernel
theorem dX9_count_97 : decode cX9_count 97 = .ok (.getfield 58, 3) := by decide +kernel
theorem dX9_count_100 : decode cX9_count 100 = .ok (.getfield 180, 3) := by decide +kernel
theorem dX9_count_103 : decode cX9_count 103 = .ok (.ireturn, 1) := by decide +kernel
theorem dX9_count_104 : decode cX9_count 104 = .ok (.aload_n 0, 1) := by decide +kernel
theorem dX9_count_105 : decode cX9_count 105 = .ok (.getfield 58, 3) := by decide +kernel
theorem dX9_count_108 : decode cX9_count 108 = .ok (.getfield 193, 3) := by decide +kernel
theorem dX9_count_111 : decode cX9_count 111 = .ok (.ireturn, 1) := by decide +kernel
theorem dX9_count_112 : decode cX9_count 112 = .ok (.aload_n 0, 1) := by decide +kernel
theorem dX9_count_113 : decode cX9_count 113 = .ok (.getfield 58, 3) := by decide +kernel
theorem dX9_count_116 : decode cX9_count 116 = .ok (.getfield 177, 3) := by decide +kernel
theorem dX9_count_119 : decode cX9_count 119 = .ok (.ireturn, 1) := by decide +kernel
theorem dX9_count_120 : decode cX9_count 120 = .ok (.aload_n 0, 1) := by decide +kernel
theorem dX9_count_121 : decode cX9_count 121 = .ok (.getfield 74, 3) := by decide +kernel
theorem dX9_count_124 : decode cX9_count 124 = .ok (.getfield 228, 3) := by decide +kernel
theorem dX9_count_127 : decode cX9_count 127 = .ok (.ireturn, 1) := by decide +kernel
theorem dX9_count_128 : decode cX9_count 128 = .ok (.aload_n 0, 1) := by decide +kernel
theorem dX9_count_129 : decode cX9_count 129 = .ok (.getfield 28, 3) := by decide +kernel
theorem dX9_count_132 : decode cX9_count 132 = .ok (.getfield 235, 3) := by decide +kernel
theorem dX9_count_135 : decode cX9_count 135 = .ok (.ireturn, 1) := by decide +kernel
theorem dX9_count_136 : decode cX9_count 136 = .ok (.bipush (-3), 2) := by decide +kernel
theorem dX9_count_138 : decode cX9_count 138 = .ok (.ireturn, 1) := by decide +kernel
theorem dX9_tell_0 : decode cX9_tell 0 = .ok (.aload_n 0, 1) := by decide +kernel
theorem dX9_tell_1 : decode cX9_tell 1 = .ok (.getfield 21, 3) := by decide +kernel
theorem dX9_tell_4 : decode cX9_tell 4 = .ok (.iload_n 1, 1) := by decide +kernel
theorem dX9_tell_5 : decode cX9_tell 5 = .ok (.iconst 0, 1) := by decide +kernel
theorem dX9_tell_6 : decode cX9_tell 6 = .ok (.invokevirtual 238, 3) := by decide +kernel
theorem dX9_tell_9 : decode cX9_tell 9 = .ok (.istore_n 2, 1) := by decide +kernel
theorem dX9_tell_10 : decode cX9_tell 10 = .ok (.aload_n 0, 1) := by decide +kernel
theorem dX9_tell_11 : decode cX9_tell 11 = .ok (.getfield 21, 3) := by decide +kernel
theorem dX9_tell_14 : decode cX9_tell 14 = .ok (.iload_n 1, 1) := by decide +kernel
theorem dX9_tell_15 : decode cX9_tell 15 = .ok (.invokevirtual 241, 3) := by decide +kernel
theorem dX9_tell_18 : decode cX9_tell 18 = .ok (.tableswitch 134 0 5 #[38, 49, 60, 69, 96, 123], 38) := by decide +kernel
theorem dX9_tell_56 : decode cX9_tell 56 = .ok (.aload_n 0, 1) := by decide +kernel
theorem dX9_tell_57 : decode cX9_tell 57 = .ok (.getfield 28, 3) := by decide +kernel
theorem dX9_tell_60 : decode cX9_tell 60 = .ok (.iload_n 2, 1) := by decide +kernel
theorem dX9_tell_61 : decode cX9_tell 61 = .ok (.putfield 158, 3) := by decide +kernel
theorem dX9_tell_64 : decode cX9_tell 64 = .ok (.goto 88, 3) := by decide +kernel
theorem dX9_tell_67 : decode cX9_tell 67 = .ok (.aload_n 0, 1) := by decide +kernel
theorem dX9_tell_68 : decode cX9_tell 68 = .ok (.getfield 28, 3) := by decide +kernel
theorem dX9_tell_71 : decode cX9_tell 71 = .ok (.iload_n 2, 1) := by decide +kernel
theorem dX9_tell_72 : decode cX9_tell 72 = .ok (.putfield 214, 3) := by decide +kernel
theorem dX9_tell_75 : decode cX9_tell 75 = .ok (.goto 77, 3) := by decide +kernel
theorem dX9_tell_78 : decode cX9_tell 78 = .ok (.aload_n 0, 1) := by decide +kernel
theorem dX9_tell_79 : decode cX9_tell 79 = .ok (.iload_n 1, 1) := by decide +kernel
theorem dX9_tell_80 : decode cX9_tell 80 = .ok (.iload_n 2, 1) := by decide +kernel
theorem dX9_tell_81 : decode cX9_tell 81 = .ok (.invokevirtual 244, 3) := by decide +kernel
theorem dX9_tell_84 : decode cX9_tell 84 = .ok (.goto 68, 3) := by decide +kernel
theorem dX9_tell_87 : decode cX9_tell 87 = .ok (.aload_n 0, 1) := by decide +kernel
theorem dX9_tell_88 : decode cX9_tell 88 = .ok (.getfield 28, 3) := by decide +kernel
theorem dX9_tell_91 : decode cX9_tell 91 = .ok (.iload_n 2, 1) := by decide +kernel
theorem dX9_tell_92 : decode cX9_tell 92 = .ok (.putfield 247, 3) := by decide +kernel
theorem dX9_tell_95 : decode cX9_tell 95 = .ok (.aload_n 0, 1) := by decide +kernel
theorem dX9_tell_96 : decode cX9_tell 96 = .ok (.getfield 28, 3) := by decide +kernel
theorem dX9_tell_99 : decode cX9_tell 99 = .ok (.aload_n 0, 1) := by decide +kernel
theorem dX9_tell_100 : decode cX9_tell 100 = .ok (.getfield 21, 3) := by decide +kernel
theorem dX9_tell_103 : decode cX9_tell 103 = .ok (.iload_n 1, 1) := by decide +kernel
theorem dX9_tell_104 : decode cX9_tell 104 = .ok (.iconst 1, 1) := by decide +kernel
theorem dX9_tell_105 : decode cX9_tell 105 = .ok (.invokevirtual 238, 3) := by decide +kernel
theorem dX9_tell_108 : decode cX9_tell 108 = .ok (.putfield 250, 3) := by decide +kernel
theorem dX9_tell_111 : decode cX9_tell 111 = .ok (.goto 41, 3) := by decide +kernel
theorem dX9_tell_114 : decode cX9_tell 114 = .ok (.aload_n 0, 1) := by decide +kernel
theorem dX9_tell_115 : decode cX9_tell 115 = .ok (.getfield 28, 3) := by decide +kernel
theorem dX9_tell_118 : decode cX9_tell 118 = .ok (.iload_n 2, 1) := by decide +kernel
theorem dX9_tell_119 : decode cX9_tell 119 = .ok (.putfield 215, 3) := by decide +kernel
theorem dX9_tell_122 : decode cX9_tell 122 = .ok (.aload_n 0, 1) := by decide +kernel
theorem dX9_tell_123 : decode cX9_tell 123 = .ok (.getfield 28, 3) := by decide +kernel
theorem dX9_tell_126 : decode cX9_tell 126 = .ok (.aload_n 0, 1) := by decide +kernel
theorem dX9_tell_127 : decode cX9_tell 127 = .ok (.getfield 21, 3) := by decide +kernel
theorem dX9_tell_130 : decode cX9_tell 130 = .ok (.iload_n 1, 1) := by decide +kernel
theorem dX9_tell_131 : decode cX9_tell 131 = .ok (.iconst 1, 1) := by decide +kernel
theorem dX9_tell_132 : decode cX9_tell 132 = .ok (.invokevirtual 238, 3) := by decide +kernel
theorem dX9_tell_135 : decode cX9_tell 135 = .ok (.putfield 206, 3) := by decide +kernel
theorem dX9_tell_138 : decode cX9_tell 138 = .ok (.goto 14, 3) := by decide +kernel
theorem dX9_tell_141 : decode cX9_tell 141 = .ok (.aload_n 0, 1) := by decide +kernel
theorem dX9_tell_142 : decode cX9_tell 142 = .ok (.getfield 28, 3) := by decide +kernel
theorem dX9_tell_145 : decode cX9_tell 145 = .ok (.iload_n 2, 1) := by decide +kernel
theorem dX9_tell_146 : decode cX9_tell 146 = .ok (.putfield 235, 3) := by decide +kernel
theorem dX9_tell_149 : decode cX9_tell 149 = .ok (.goto 3, 3) := by decide +kernel
theorem dX9_tell_152 : decode cX9_tell 152 = .ok (.return_, 1) := by decide +kernel
theorem dX9_tellMood_0 : decode cX9_tellMood 0 = .ok (.aload_n 0, 1) := by decide +kernel
theorem dX9_tellMood_1 : decode cX9_tellMood 1 = .ok (.getfield 35, 3) := by decide +kernel
theorem dX9_tellMood_4 : decode cX9_tellMood 4 = .ok (.iload_n 2, 1) := by decide +kernel
theorem dX9_tellMood_5 : decode cX9_tellMood 5 = .ok (.invokevirtual 253, 3) := by decide +kernel
theorem dX9_tellMood_8 : decode cX9_tellMood 8 = .ok (.iconst 0, 1) := by decide +kernel
theorem dX9_tellMood_9 : decode cX9_tellMood 9 = .ok (.istore_n 3, 1) := by decide +kernel
theorem dX9_tellMood_10 : decode cX9_tellMood 10 = .ok (.iconst 0, 1) := by decide +kernel
theorem dX9_tellMood_11 : decode cX9_tellMood 11 = .ok (.istore 4, 2) := by decide +kernel
theorem dX9_tellMood_13 : decode cX9_tellMood 13 = .ok (.iload 4, 2) := by decide +kernel
theorem dX9_tellMood_15 : decode cX9_tellMood 15 = .ok (.iconst 4, 1) := by decide +kernel
theorem dX9_tellMood_16 : decode cX9_tellMood 16 = .ok (.if_icmp .ge 76, 3) := by decide +kernel
theorem dX9_tellMood_19 : decode cX9_tellMood 19 = .ok (.iload_n 3, 1) := by decide +kernel
theorem dX9_tellMood_20 : decode cX9_tellMood 20 = .ok (.bipush 10, 2) := by decide +kernel
theorem dX9_tellMood_22 : decode cX9_tellMood 22 = .ok (.if_icmp .ge 70, 3) := by decide +kernel
theorem dX9_tellMood_25 : decode cX9_tellMood 25 = .ok (.iconst 1, 1) := by decide +kernel
theorem dX9_tellMood_26 : decode cX9_tellMood 26 = .ok (.iload 4, 2) := by decide +kernel
theorem dX9_tellMood_28 : decode cX9_tellMood 28 = .ok (.iconst 3, 1) := by decide +kernel
theorem dX9_tellMood_29 : decode cX9_tellMood 29 = .ok (.imul, 1) := by decide +kernel
theorem dX9_tellMood_30 : decode cX9_tellMood 30 = .ok (.iadd, 1) := by decide +kernel
theorem dX9_tellMood_31 : decode cX9_tellMood 31 = .ok (.istore 5, 2) := by decide +kernel
theorem dX9_tellMood_33 : decode cX9_tellMood 33 = .ok (.aload_n 0, 1) := by decide +kernel
theorem dX9_tellMood_34 : decode cX9_tellMood 34 = .ok (.getfield 21, 3) := by decide +kernel
theorem dX9_tellMood_37 : decode cX9_tellMood 37 = .ok (.iload_n 1, 1) := by decide +kernel
theorem dX9_tellMood_38 : decode cX9_tellMood 38 = .ok (.iload 5, 2) := by decide +kernel
theorem dX9_tellMood_40 : decode cX9_tellMood 40 = .ok (.iconst 2, 1) := by decide +kernel
theorem dX9_tellMood_41 : decode cX9_tellMood 41 = .ok (.iadd, 1) := by decide +kernel
theorem dX9_tellMood_42 : decode cX9_tellMood 42 = .ok (.invokevirtual 238, 3) := by decide +kernel
theorem dX9_tellMood_45 : decode cX9_tellMood 45 = .ok (.istore 6, 2) := by decide +kernel
theorem dX9_tellMood_47 : decode cX9_tellMood 47 = .ok (.aload_n 0, 1) := by decide +kernel
theorem dX9_tellMood_48 : decode cX9_tellMood 48 = .ok (.getfield 35, 3) := by decide +kernel
theorem dX9_tellMood_51 : decode cX9_tellMood 51 = .ok (.iload_n 2, 1) := by decide +kernel
theorem dX9_tellMood_52 : decode cX9_tellMood 52 = .ok (.aload_n 0, 1) := by decide +kernel
theorem dX9_tellMood_53 : decode cX9_tellMood 53 = .ok (.getfield 21, 3) := by decide +kernel
theorem dX9_tellMood_56 : decode cX9_tellMood 56 = .ok (.iload_n 1, 1) := by decide +kernel
theorem dX9_tellMood_57 : decode cX9_tellMood 57 = .ok (.iload 5, 2) := by decide +kernel
theorem dX9_tellMood_59 : decode cX9_tellMood 59 = .ok (.iconst 0, 1) := by decide +kernel
theorem dX9_tellMood_60 : decode cX9_tellMood 60 = .ok (.iadd, 1) := by decide +kernel
theorem dX9_tellMood_61 : decode cX9_tellMood 61 = .ok (.invokevirtual 238, 3) := by decide +kernel
theorem dX9_tellMood_64 : decode cX9_tellMood 64 = .ok (.aload_n 0, 1) := by decide +kernel
theorem dX9_tellMood_65 : decode cX9_tellMood 65 = .ok (.getfield 21, 3) := by decide +kernel
theorem dX9_tellMood_68 : decode cX9_tellMood 68 = .ok (.iload_n 1, 1) := by decide +kernel
theorem dX9_tellMood_69 : decode cX9_tellMood 69 = .ok (.iload 5, 2) := by decide +kernel
theorem dX9_tellMood_71 : decode cX9_tellMood 71 = .ok (.iconst 1, 1) := by decide +kernel
theorem dX9_tellMood_72 : decode cX9_tellMood 72 = .ok (.iadd, 1) := by decide +kernel
theorem dX9_tellMood_73 : decode cX9_tellMood 73 = .ok (.invokevirtual 238, 3) := by decide +kernel
theorem dX9_tellMood_76 : decode cX9_tellMood 76 = .ok (.iload 6, 2) := by decide +kernel
theorem dX9_tellMood_78 : decode cX9_tellMood 78 = .ok (.invokevirtual 256, 3) := by decide +kernel
theorem dX9_tellMood_81 : decode cX9_tellMood 81 = .ok (.iload_n 3, 1) := by decide +kernel
theorem dX9_tellMood_82 : decode cX9_tellMood 82 = .ok (.iload 6, 2) := by decide +kernel
theorem dX9_tellMood_84 : decode cX9_tellMood 84 = .ok (.iadd, 1) := by decide +kernel
theorem dX9_tellMood_85 : decode cX9_tellMood 85 = .ok (.istore_n 3, 1) := by decide +kernel
theorem dX9_tellMood_86 : decode cX9_tellMood 86 = .ok (.iinc 4 1, 3) := by decide +kernel
theorem dX9_tellMood_89 : decode cX9_tellMood 89 = .ok (.goto (-76), 3) := by decide +kernel
theorem dX9_tellMood_92 : decode cX9_tellMood 92 = .ok (.return_, 1) := by decide +kernel
theorem dX9_isLeft_0 : decode cX9_isLeft 0 = .ok (.iload_n 1, 1) := by decide +kernel
theorem dX9_isLeft_1 : decode cX9_isLeft 1 = .ok (.iconst 0, 1) := by decide +kernel
theorem dX9_isLeft_2 : decode cX9_isLeft 2 = .ok (.aload_n 0, 1) := by decide +kernel
theorem dX9_isLeft_3 : decode cX9_isLeft 3 = .ok (.getfield 28, 3) := by decide +kernel
theorem dX9_isLeft_6 : decode cX9_isLeft 6 = .ok (.getfield 158, 3) := by decide +kernel
theorem dX9_isLeft_9 : decode cX9_isLeft 9 = .ok (.invokestatic 85, 3) := by decide +kernel
theorem dX9_isLeft_12 : decode cX9_isLeft 12 = .ok (.ifCond .eq 22, 3) := by decide +kernel
theorem dX9_isLeft_15 : decode cX9_isLeft 15 = .ok (.iload_n 2, 1) := by decide +kernel
theorem dX9_isLeft_16 : decode cX9_isLeft 16 = .ok (.iconst 0, 1) := by decide +kernel
theorem dX9_isLeft_17 : decode cX9_isLeft 17 = .ok (.aload_n 0, 1) := by decide +kernel
theorem dX9_isLeft_18 : decode cX9_isLeft 18 = .ok (.getfield 28, 3) := by decide +kernel
theorem dX9_isLeft_21 : decode cX9_isLeft 21 = .ok (.getfield 214, 3) := by decide +kernel
theorem dX9_isLeft_24 : decode cX9_isLeft 24 = .ok (.invokestatic 85, 3) := by decide +kernel
theorem dX9_isLeft_27 : decode cX9_isLeft 27 = .ok (.ifCond .eq 7, 3) := by decide +kernel
theorem dX9_isLeft_30 : decode cX9_isLeft 30 = .ok (.iconst 1, 1) := by decide +kernel
theorem dX9_isLeft_31 : decode cX9_isLeft 31 = .ok (.goto 4, 3) := by decide +kernel
theorem dX9_isLeft_34 : decode cX9_isLeft 34 = .ok (.iconst 0, 1) := by decide +kernel
theorem dX9_isLeft_35 : decode cX9_isLeft 35 = .ok (.ireturn, 1) := by decide +kernel
theorem dX9_isRule_0 : decode cX9_isRule 0 = .ok (.iload_n 0, 1) := by decide +kernel
theorem dX9_isRule_1 : decode cX9_isRule 1 = .ok (.iconst 0, 1) := by decide +kernel
theorem dX9_isRule_2 : decode cX9_isRule 2 = .ok (.iconst 5, 1) := by decide +kernel
theorem dX9_isRule_3 : decode cX9_isRule 3 = .ok (.invokestatic 85, 3) := by decide +kernel
theorem dX9_isRule_6 : decode cX9_isRule 6 = .ok (.ireturn, 1) := by decide +kernel
theorem dX9_within_0 : decode cX9_within 0 = .ok (.iload_n 0, 1) := by decide +kernel
theorem dX9_within_1 : decode cX9_within 1 = .ok (.iload_n 1, 1) := by decide +kernel
theorem dX9_within_2 : decode cX9_within 2 = .ok (.if_icmp .lt 12, 3) := by decide +kernel
theorem dX9_within_5 : decode cX9_within 5 = .ok (.iload_n 0, 1) := by decide +kernel
theorem dX9_within_6 : decode cX9_within 6 = .ok (.iload_n 2, 1) := by decide +kernel
theorem dX9_within_7 : decode cX9_within 7 = .ok (.if_icmp .gt 7, 3) := by decide +kernel
theorem dX9_within_10 : decode cX9_within 10 = .ok (.iconst 1, 1) := by decide +kernel
theorem dX9_within_11 : decode cX9_within 11 = .ok (.goto 4, 3) := by decide +kernel
theorem dX9_within_14 : decode cX9_within 14 = .ok (.iconst 0, 1) := by decide +kernel
theorem dX9_within_15 : decode cX9_within 15 = .ok (.ireturn, 1) := by decide +kernel
theorem dX9_power_0 : decode cX9_power 0 = .ok (.iload_n 0, 1) := by decide +kernel
theorem dX9_power_1 : decode cX9_power 1 = .ok (.ifCond .lt 19, 3) := by decide +kernel
theorem dX9_power_4 : decode cX9_power 4 = .ok (.iload_n 0, 1) := by decide +kernel
theorem dX9_power_5 : decode cX9_power 5 = .ok (.getstatic 259, 3) := by decide +kernel
theorem dX9_power_8 : decode cX9_power 8 = .ok (.arraylength, 1) := by decide +kernel
theorem dX9_power_9 : decode cX9_power 9 = .ok (.if_icmp .ge 11, 3) := by decide +kernel
theorem dX9_power_12 : decode cX9_power 12 = .ok (.getstatic 259, 3) := by decide +kernel
theorem dX9_power_15 : decode cX9_power 15 = .ok (.iload_n 0, 1) := by decide +kernel
theorem dX9_power_16 : decode cX9_power 16 = .ok (.laload, 1) := by decide +kernel
theorem dX9_power_17 : decode cX9_power 17 = .ok (.goto 4, 3) := by decide +kernel
theorem dX9_power_20 : decode cX9_power 20 = .ok (.lconst 1, 1) := by decide +kernel
theorem dX9_power_21 : decode cX9_power 21 = .ok (.lreturn, 1) := by decide +kernel
theorem dX9_cut_0 : decode cX9_cut 0 = .ok (.lload_n 2, 1) := by decide +kernel
theorem dX9_cut_1 : decode cX9_cut 1 = .ok (.lconst 0, 1) := by decide +kernel
theorem dX9_cut_2 : decode cX9_cut 2 = .ok (.lcmp, 1) := by decide +kernel
theorem dX9_cut_3 : decode cX9_cut 3 = .ok (.ifCond .le 9, 3) := by decide +kernel
theorem dX9_cut_6 : decode cX9_cut 6 = .ok (.lload_n 0, 1) := by decide +kernel
theorem dX9_cut_7 : decode cX9_cut 7 = .ok (.lload_n 2, 1) := by decide +kernel
theorem dX9_cut_8 : decode cX9_cut 8 = .ok (.ldiv, 1) := by decide +kernel
theorem dX9_cut_9 : decode cX9_cut 9 = .ok (.goto 4, 3) := by decide +kernel
theorem dX9_cut_12 : decode cX9_cut 12 = .ok (.lconst 0, 1) := by decide +kernel
theorem dX9_cut_13 : decode cX9_cut 13 = .ok (.lreturn, 1) := by decide +kernel
theorem dX9_inMillionths_0 : decode cX9_inMillionths 0 = .ok (.iload_n 2, 1) := by decide +kernel
theorem dX9_inMillionths_1 : decode cX9_inMillionths 1 = .ok (.bipush 6, 2) := by decide +kernel
theorem dX9_inMillionths_3 : decode cX9_inMillionths 3 = .ok (.if_icmp .ge 14, 3) := by decide +kernel
theorem dX9_inMillionths_6 : decode cX9_inMillionths 6 = .ok (.lload_n 0, 1) := by decide +kernel
theorem dX9_inMillionths_7 : decode cX9_inMillionths 7 = .ok (.bipush 6, 2) := by decide +kernel
theorem dX9_inMillionths_9 : decode cX9_inMillionths 9 = .ok (.iload_n 2, 1) := by decide +kernel
theorem dX9_inMillionths_10 : decode cX9_inMillionths 10 = .ok (.isub, 1) := by decide +kernel
theorem dX9_inMillionths_11 : decode cX9_inMillionths 11 = .ok (.invokestatic 132, 3) := by decide +kernel
theorem dX9_inMillionths_14 : decode cX9_inMillionths 14 = .ok (.lmul, 1) := by decide +kernel
theorem dX9_inMillionths_15 : decode cX9_inMillionths 15 = .ok (.l2i, 1) := by decide +kernel
theorem dX9_inMillionths_16 : decode cX9_inMillionths 16 = .ok (.ireturn, 1) := by decide +kernel
theorem dX9_inMillionths_17 : decode cX9_inMillionths 17 = .ok (.lload_n 0, 1) := by decide +kernel
theorem dX9_inMillionths_18 : decode cX9_inMillionths 18 = .ok (.iload_n 2, 1) := by decide +kernel
theorem dX9_inMillionths_19 : decode cX9_inMillionths 19 = .ok (.bipush 6, 2) := by decide +kernel
theorem dX9_inMillionths_21 : decode cX9_inMillionths 21 = .ok (.isub, 1) := by decide +kernel
theorem dX9_inMillionths_22 : decode cX9_inMillionths 22 = .ok (.invokestatic 132, 3) := by decide +kernel
theorem dX9_inMillionths_25 : decode cX9_inMillionths 25 = .ok (.invokestatic 263, 3) := by decide +kernel
theorem dX9_inMillionths_28 : decode cX9_inMillionths 28 = .ok (.l2i, 1) := by decide +kernel
theorem dX9_inMillionths_29 : decode cX9_inMillionths 29 = .ok (.ireturn, 1) := by decide +kernel
theorem dX9_lowest_0 : decode cX9_lowest 0 = .ok (.lload_n 0, 1) := by decide +kernel
theorem dX9_lowest_1 : decode cX9_lowest 1 = .ok (.lload_n 2, 1) := by decide +kernel
theorem dX9_lowest_2 : decode cX9_lowest 2 = .ok (.invokestatic 267, 3) := by decide +kernel
theorem dX9_lowest_5 : decode cX9_lowest 5 = .ok (.lstore 5, 2) := by decide +kernel
theorem dX9_lowest_7 : decode cX9_lowest 7 = .ok (.iload 4, 2) := by decide +kernel
theorem dX9_lowest_9 : decode cX9_lowest 9 = .ok (.ifCond .ne 7, 3) := by decide +kernel
theorem dX9_lowest_12 : decode cX9_lowest 12 = .ok (.lload_n 0, 1) := by decide +kernel
theorem dX9_lowest_13 : decode cX9_lowest 13 = .ok (.goto 4, 3) := by decide +kernel
theorem dX9_lowest_16 : decode cX9_lowest 16 = .ok (.lload_n 2, 1) := by decide +kernel
theorem dX9_lowest_17 : decode cX9_lowest 17 = .ok (.lload 5, 2) := by decide +kernel
theorem dX9_lowest_19 : decode cX9_lowest 19 = .ok (.invokestatic 263, 3) := by decide +kernel
theorem dX9_lowest_22 : decode cX9_lowest 22 = .ok (.lreturn, 1) := by decide +kernel
theorem dX9_commonDivisor_0 : decode cX9_commonDivisor 0 = .ok (.lload_n 2, 1) := by decide +kernel
theorem dX9_commonDivisor_1 : decode cX9_commonDivisor 1 = .ok (.lstore 4, 2) := by decide +kernel
theorem dX9_commonDivisor_3 : decode cX9_commonDivisor 3 = .ok (.lload_n 0, 1) := by decide +kernel
theorem dX9_commonDivisor_4 : decode cX9_commonDivisor 4 = .ok (.lstore 6, 2) := by decide +kernel
theorem dX9_commonDivisor_6 : decode cX9_commonDivisor 6 = .ok (.iconst 0, 1) := by decide +kernel
theorem dX9_commonDivisor_7 : decode cX9_commonDivisor 7 = .ok (.istore 8, 2) := by decide +kernel
theorem dX9_commonDivisor_9 : decode cX9_commonDivisor 9 = .ok (.iload 8, 2) := by decide +kernel
theorem dX9_commonDivisor_11 : decode cX9_commonDivisor 11 = .ok (.bipush 100, 2) := by decide +kernel
theorem dX9_commonDivisor_13 : decode cX9_commonDivisor 13 = .ok (.if_icmp .ge 31, 3) := by decide +kernel
theorem dX9_commonDivisor_16 : decode cX9_commonDivisor 16 = .ok (.lload 6, 2) := by decide +kernel
theorem dX9_commonDivisor_18 : decode cX9_commonDivisor 18 = .ok (.lconst 0, 1) := by decide +kernel
theorem dX9_commonDivisor_19 : decode cX9_commonDivisor 19 = .ok (.lcmp, 1) := by decide +kernel
theorem dX9_commonDivisor_20 : decode cX9_commonDivisor 20 = .ok (.ifCond .le 24, 3) := by decide +kernel
theorem dX9_commonDivisor_23 : decode cX9_commonDivisor 23 = .ok (.lload 4, 2) := by decide +kernel
theorem dX9_commonDivisor_25 : decode cX9_commonDivisor 25 = .ok (.lload 6, 2) := by decide +kernel
theorem dX9_commonDivisor_27 : decode cX9_commonDivisor 27 = .ok (.lrem, 1) := by decide +kernel
theorem dX9_commonDivisor_28 : decode cX9_commonDivisor 28 = .ok (.lstore 9, 2) := by decide +kernel
theorem dX9_commonDivisor_30 : decode cX9_commonDivisor 30 = .ok (.lload 6, 2) := by decide +kernel
theorem dX9_commonDivisor_32 : decode cX9_commonDivisor 32 = .ok (.lstore 4, 2) := by decide +kernel
theorem dX9_commonDivisor_34 : decode cX9_commonDivisor 34 = .ok (.lload 9, 2) := by decide +kernel
theorem dX9_commonDivisor_36 : decode cX9_commonDivisor 36 = .ok (.lstore 6, 2) := by decide +kernel
theorem dX9_commonDivisor_38 : decode cX9_commonDivisor 38 = .ok (.iinc 8 1, 3) := by decide +kernel
theorem dX9_commonDivisor_41 : decode cX9_commonDivisor 41 = .ok (.goto (-32), 3) := by decide +kernel
theorem dX9_commonDivisor_44 : decode cX9_commonDivisor 44 = .ok (.lload 4, 2) := by decide +kernel
theorem dX9_commonDivisor_46 : decode cX9_commonDivisor 46 = .ok (.lreturn, 1) := by decide +kernel
theorem dJ9_abs_0f7a4_0 : decode cJ9_abs_0f7a4 0 = .ok (.iload_n 0, 1) := by decide +kernel
theorem dJ9_abs_0f7a4_1 : decode cJ9_abs_0f7a4 1 = .ok (.ifCond .ge 8, 3) := by decide +kernel
theorem dJ9_abs_0f7a4_4 : decode cJ9_abs_0f7a4 4 = .ok (.iload_n 0, 1) := by decide +kernel
theorem dJ9_abs_0f7a4_5 : decode cJ9_abs_0f7a4 5 = .ok (.ineg, 1) := by decide +kernel
theorem dJ9_abs_0f7a4_6 : decode cJ9_abs_0f7a4 6 = .ok (.goto 4, 3) := by decide +kernel
theorem dJ9_abs_0f7a4_9 : decode cJ9_abs_0f7a4 9 = .ok (.iload_n 0, 1) := by decide +kernel
theorem dJ9_abs_0f7a4_10 : decode cJ9_abs_0f7a4 10 = .ok (.ireturn, 1) := by decide +kernel
theorem dJ9_max_7cf53_0 : decode cJ9_max_7cf53 0 = .ok (.iload_n 0, 1) := by decide +kernel
theorem dJ9_max_7cf53_1 : decode cJ9_max_7cf53 1 = .ok (.iload_n 1, 1) := by decide +kernel
theorem dJ9_max_7cf53_2 : decode cJ9_max_7cf53 2 = .ok (.if_icmp .lt 7, 3) := by decide +kernel
theorem dJ9_max_7cf53_5 : decode cJ9_max_7cf53 5 = .ok (.iload_n 0, 1) := by decide +kernel
theorem dJ9_max_7cf53_6 : decode cJ9_max_7cf53 6 = .ok (.goto 4, 3) := by decide +kernel
theorem dJ9_max_7cf53_9 : decode cJ9_max_7cf53 9 = .ok (.iload_n 1, 1) := by decide +kernel
theorem dJ9_max_7cf53_10 : decode cJ9_max_7cf53 10 = .ok (.ireturn, 1) := by decide +kernel
theorem dJ9_max_f86c9_0 : decode cJ9_max_f86c9 0 = .ok (.lload_n 0, 1) := by decide +kernel
theorem dJ9_max_f86c9_1 : decode cJ9_max_f86c9 1 = .ok (.lload_n 2, 1) := by decide +kernel
theorem dJ9_max_f86c9_2 : decode cJ9_max_f86c9 2 = .ok (.lcmp, 1) := by decide +kernel
theorem dJ9_max_f86c9_3 : decode cJ9_max_f86c9 3 = .ok (.ifCond .lt 7, 3) := by decide +kernel
theorem dJ9_max_f86c9_6 : decode cJ9_max_f86c9 6 = .ok (.lload_n 0, 1) := by decide +kernel
theorem dJ9_max_f86c9_7 : decode cJ9_max_f86c9 7 = .ok (.goto 4, 3) := by decide +kernel
theorem dJ9_max_f86c9_10 : decode cJ9_max_f86c9 10 = .ok (.lload_n 2, 1) := by decide +kernel
theorem dJ9_max_f86c9_11 : decode cJ9_max_f86c9 11 = .ok (.lreturn, 1) := by decide +kernel
theorem dJ9_min_7cf53_0 : decode cJ9_min_7cf53 0 = .ok (.iload_n 0, 1) := by decide +kernel
theorem dJ9_min_7cf53_1 : decode cJ9_min_7cf53 1 = .ok (.iload_n 1, 1) := by decide +kernel
theorem dJ9_min_7cf53_2 : decode cJ9_min_7cf53 2 = .ok (.if_icmp .gt 7, 3) := by decide +kernel
theorem dJ9_min_7cf53_5 : decode cJ9_min_7cf53 5 = .ok (.iload_n 0, 1) := by decide +kernel
theorem dJ9_min_7cf53_6 : decode cJ9_min_7cf53 6 = .ok (.goto 4, 3) := by decide +kernel
theorem dJ9_min_7cf53_9 : decode cJ9_min_7cf53 9 = .ok (.iload_n 1, 1) := by decide +kernel
theorem dJ9_min_7cf53_10 : decode cJ9_min_7cf53 10 = .ok (.ireturn, 1) := by decide +kernel
theorem dJ0_length_8abf5_0 : decode cJ0_length_8abf5 0 = .ok (.aload_n 0, 1) := by decide +kernel
theorem dJ0_length_8abf5_1 : decode cJ0_length_8abf5 1 = .ok (.getfield 9, 3) := by decide +kernel
theorem dJ0_length_8abf5_4 : decode cJ0_length_8abf5 4 = .ok (.arraylength, 1) := by decide +kernel
theorem dJ0_length_8abf5_5 : decode cJ0_length_8abf5 5 = .ok (.aload_n 0, 1) := by decide +kernel
theorem dJ0_length_8abf5_6 : decode cJ0_length_8abf5 6 = .ok (.invokevirtual 335, 3) := by decide +kernel
theorem dJ0_length_8abf5_9 : decode cJ0_length_8abf5 9 = .ok (.ishr, 1) := by decide +kernel
theorem dJ0_length_8abf5_10 : decode cJ0_length_8abf5 10 = .ok (.ireturn, 1) := by decide +kernel
theorem dJ0_charAt_5068e_0 : decode cJ0_charAt_5068e 0 = .ok (.aload_n 0, 1) := by decide +kernel
theorem dJ0_charAt_5068e_1 : decode cJ0_charAt_5068e 1 = .ok (.invokevirtual 492, 3) := by decide +kernel
theorem dJ0_charAt_5068e_4 : decode cJ0_charAt_5068e 4 = .ok (.ifCond .eq 12, 3) := by decide +kernel
theorem dJ0_charAt_5068e_7 : decode cJ0_charAt_5068e 7 = .ok (.aload_n 0, 1) := by decide +kernel
theorem dJ0_charAt_5068e_8 : decode cJ0_charAt_5068e 8 = .ok (.getfield 9, 3) := by decide +kernel
theorem dJ0_charAt_5068e_11 : decode cJ0_charAt_5068e 11 = .ok (.iload_n 1, 1) := by decide +kernel
theorem dJ0_charAt_5068e_12 : decode cJ0_charAt_5068e 12 = .ok (.invokestatic 495, 3) := by decide +kernel
theorem dJ0_charAt_5068e_15 : decode cJ0_charAt_5068e 15 = .ok (.ireturn, 1) := by decide +kernel
theorem dJ0_charAt_5068e_16 : decode cJ0_charAt_5068e 16 = .ok (.aload_n 0, 1) := by decide +kernel
theorem dJ0_charAt_5068e_17 : decode cJ0_charAt_5068e 17 = .ok (.getfield 9, 3) := by decide +kernel
theorem dJ0_charAt_5068e_20 : decode cJ0_charAt_5068e 20 = .ok (.iload_n 1, 1) := by decide +kernel
theorem dJ0_charAt_5068e_21 : decode cJ0_charAt_5068e 21 = .ok (.invokestatic 498, 3) := by decide +kernel
theorem dJ0_charAt_5068e_24 : decode cJ0_charAt_5068e 24 = .ok (.ireturn, 1) := by decide +kernel
theorem dJ0_coder_7d493_0 : decode cJ0_coder_7d493 0 = .ok (.getstatic 38, 3) := by decide +kernel
theorem dJ0_coder_7d493_3 : decode cJ0_coder_7d493 3 = .ok (.ifCond .eq 10, 3) := by decide +kernel
theorem dJ0_coder_7d493_6 : decode cJ0_coder_7d493 6 = .ok (.aload_n 0, 1) := by decide +kernel
theorem dJ0_coder_7d493_7 : decode cJ0_coder_7d493 7 = .ok (.getfield 15, 3) := by decide +kernel
theorem dJ0_coder_7d493_10 : decode cJ0_coder_7d493 10 = .ok (.goto 4, 3) := by decide +kernel
theorem dJ0_coder_7d493_13 : decode cJ0_coder_7d493 13 = .ok (.iconst 1, 1) := by decide +kernel
theorem dJ0_coder_7d493_14 : decode cJ0_coder_7d493 14 = .ok (.ireturn, 1) := by decide +kernel
theorem dJ0_isLatin1_aae02_0 : decode cJ0_isLatin1_aae02 0 = .ok (.getstatic 38, 3) := by decide +kernel
theorem dJ0_isLatin1_aae02_3 : decode cJ0_isLatin1_aae02 3 = .ok (.ifCond .eq 14, 3) := by decide +kernel
theorem dJ0_isLatin1_aae02_6 : decode cJ0_isLatin1_aae02 6 = .ok (.aload_n 0, 1) := by decide +kernel
theorem dJ0_isLatin1_aae02_7 : decode cJ0_isLatin1_aae02 7 = .ok (.getfield 15, 3) := by decide +kernel
theorem dJ0_isLatin1_aae02_10 : decode cJ0_isLatin1_aae02 10 = .ok (.ifCond .ne 7, 3) := by decide +kernel
theorem dJ0_isLatin1_aae02_13 : decode cJ0_isLatin1_aae02 13 = .ok (.iconst 1, 1) := by decide +kernel
theorem dJ0_isLatin1_aae02_14 : decode cJ0_isLatin1_aae02 14 = .ok (.goto 4, 3) := by decide +kernel
theorem dJ0_isLatin1_aae02_17 : decode cJ0_isLatin1_aae02 17 = .ok (.iconst 0, 1) := by decide +kernel
theorem dJ0_isLatin1_aae02_18 : decode cJ0_isLatin1_aae02 18 = .ok (.ireturn, 1) := by decide +kernel
theorem dJ0_checkIndex_df160_0 : decode cJ0_checkIndex_df160 0 = .ok (.iload_n 0, 1) := by decide +kernel
theorem dJ0_checkIndex_df160_1 : decode cJ0_checkIndex_df160 1 = .ok (.iload_n 1, 1) := by decide +kernel
theorem dJ0_checkIndex_df160_2 : decode cJ0_checkIndex_df160 2 = .ok (.getstatic 1053, 3) := by decide +kernel
theorem dJ0_checkIndex_df160_5 : decode cJ0_checkIndex_df160 5 = .ok (.invokestatic 1059, 3) := by decide +kernel
theorem dJ0_checkIndex_df160_8 : decode cJ0_checkIndex_df160 8 = .ok (.pop, 1) := by decide +kernel
theorem dJ0_checkIndex_df160_9 : decode cJ0_checkIndex_df160 9 = .ok (.return_, 1) := by decide +kernel
theorem dJ1_charAt_3b067_0 : decode cJ1_charAt_3b067 0 = .ok (.iload_n 1, 1) := by decide +kernel
theorem dJ1_charAt_3b067_1 : decode cJ1_charAt_3b067 1 = .ok (.aload_n 0, 1) := by decide +kernel
theorem dJ1_charAt_3b067_2 : decode cJ1_charAt_3b067 2 = .ok (.arraylength, 1) := by decide +kernel
theorem dJ1_charAt_3b067_3 : decode cJ1_charAt_3b067 3 = .ok (.invokestatic 9, 3) := by decide +kernel
theorem dJ1_charAt_3b067_6 : decode cJ1_charAt_3b067 6 = .ok (.aload_n 0, 1) := by decide +kernel
theorem dJ1_charAt_3b067_7 : decode cJ1_charAt_3b067 7 = .ok (.iload_n 1, 1) := by decide +kernel
theorem dJ1_charAt_3b067_8 : decode cJ1_charAt_3b067 8 = .ok (.baload, 1) := by decide +kernel
theorem dJ1_charAt_3b067_9 : decode cJ1_charAt_3b067 9 = .ok (.sipush 255, 3) := by decide +kernel
theorem dJ1_charAt_3b067_12 : decode cJ1_charAt_3b067 12 = .ok (.iand, 1) := by decide +kernel
theorem dJ1_charAt_3b067_13 : decode cJ1_charAt_3b067 13 = .ok (.i2c, 1) := by decide +kernel
theorem dJ1_charAt_3b067_14 : decode cJ1_charAt_3b067 14 = .ok (.ireturn, 1) := by decide +kernel
theorem dJ2_getChar_3b067_0 : decode cJ2_getChar_3b067 0 = .ok (.getstatic 44, 3) := by decide +kernel
theorem dJ2_getChar_3b067_3 : decode cJ2_getChar_3b067 3 = .ok (.ifCond .ne 25, 3) := by decide +kernel
theorem dJ2_getChar_3b067_6 : decode cJ2_getChar_3b067 6 = .ok (.iload_n 1, 1) := by decide +kernel
theorem dJ2_getChar_3b067_7 : decode cJ2_getChar_3b067 7 = .ok (.ifCond .lt 11, 3) := by decide +kernel
theorem dJ2_getChar_3b067_10 : decode cJ2_getChar_3b067 10 = .ok (.iload_n 1, 1) := by decide +kernel
theorem dJ2_getChar_3b067_11 : decode cJ2_getChar_3b067 11 = .ok (.aload_n 0, 1) := by decide +kernel
theorem dJ2_getChar_3b067_12 : decode cJ2_getChar_3b067 12 = .ok (.invokestatic 48, 3) := by decide +kernel
theorem dJ2_getChar_3b067_15 : decode cJ2_getChar_3b067 15 = .ok (.if_icmp .lt 13, 3) := by decide +kernel
theorem dJ2_getChar_3b067_18 : decode cJ2_getChar_3b067 18 = .ok (.new 52, 3) := by decide +kernel
theorem dJ2_getChar_3b067_21 : decode cJ2_getChar_3b067 21 = .ok (.dup, 1) := by decide +kernel
theorem dJ2_getChar_3b067_22 : decode cJ2_getChar_3b067 22 = .ok (.ldc 54, 2) := by decide +kernel
theorem dJ2_getChar_3b067_24 : decode cJ2_getChar_3b067 24 = .ok (.invokespecial 56, 3) := by decide +kernel
theorem dJ2_getChar_3b067_27 : decode cJ2_getChar_3b067 27 = .ok (.athrow, 1) := by decide +kernel
theorem dJ2_getChar_3b067_28 : decode cJ2_getChar_3b067 28 = .ok (.iload_n 1, 1) := by decide +kernel
theorem dJ2_getChar_3b067_29 : decode cJ2_getChar_3b067 29 = .ok (.iconst 1, 1) := by decide +kernel
theorem dJ2_getChar_3b067_30 : decode cJ2_getChar_3b067 30 = .ok (.ishl, 1) := by decide +kernel
theorem dJ2_getChar_3b067_31 : decode cJ2_getChar_3b067 31 = .ok (.istore_n 1, 1) := by decide +kernel
theorem dJ2_getChar_3b067_32 : decode cJ2_getChar_3b067 32 = .ok (.aload_n 0, 1) := by decide +kernel
theorem dJ2_getChar_3b067_33 : decode cJ2_getChar_3b067 33 = .ok (.iload_n 1, 1) := by decide +kernel
theorem dJ2_getChar_3b067_34 : decode cJ2_getChar_3b067 34 = .ok (.iinc 1 1, 3) := by decide +kernel
theorem dJ2_getChar_3b067_37 : decode cJ2_getChar_3b067 37 = .ok (.baload, 1) := by decide +kernel
theorem dJ2_getChar_3b067_38 : decode cJ2_getChar_3b067 38 = .ok (.sipush 255, 3) := by decide +kernel
theorem dJ2_getChar_3b067_41 : decode cJ2_getChar_3b067 41 = .ok (.iand, 1) := by decide +kernel
theorem dJ2_getChar_3b067_42 : decode cJ2_getChar_3b067 42 = .ok (.getstatic 59, 3) := by decide +kernel
theorem dJ2_getChar_3b067_45 : decode cJ2_getChar_3b067 45 = .ok (.ishl, 1) := by decide +kernel
theorem dJ2_getChar_3b067_46 : decode cJ2_getChar_3b067 46 = .ok (.aload_n 0, 1) := by decide +kernel
theorem dJ2_getChar_3b067_47 : decode cJ2_getChar_3b067 47 = .ok (.iload_n 1, 1) := by decide +kernel
theorem dJ2_getChar_3b067_48 : decode cJ2_getChar_3b067 48 = .ok (.baload, 1) := by decide +kernel
theorem dJ2_getChar_3b067_49 : decode cJ2_getChar_3b067 49 = .ok (.sipush 255, 3) := by decide +kernel
theorem dJ2_getChar_3b067_52 : decode cJ2_getChar_3b067 52 = .ok (.iand, 1) := by decide +kernel
theorem dJ2_getChar_3b067_53 : decode cJ2_getChar_3b067 53 = .ok (.getstatic 63, 3) := by decide +kernel
theorem dJ2_getChar_3b067_56 : decode cJ2_getChar_3b067 56 = .ok (.ishl, 1) := by decide +kernel
theorem dJ2_getChar_3b067_57 : decode cJ2_getChar_3b067 57 = .ok (.ior, 1) := by decide +kernel
theorem dJ2_getChar_3b067_58 : decode cJ2_getChar_3b067 58 = .ok (.i2c, 1) := by decide +kernel
theorem dJ2_getChar_3b067_59 : decode cJ2_getChar_3b067 59 = .ok (.ireturn, 1) := by decide +kernel
theorem dJ2_length_9d52b_0 : decode cJ2_length_9d52b 0 = .ok (.aload_n 0, 1) := by decide +kernel
theorem dJ2_length_9d52b_1 : decode cJ2_length_9d52b 1 = .ok (.arraylength, 1) := by decide +kernel
theorem dJ2_length_9d52b_2 : decode cJ2_length_9d52b 2 = .ok (.iconst 1, 1) := by decide +kernel
theorem dJ2_length_9d52b_3 : decode cJ2_length_9d52b 3 = .ok (.ishr, 1) := by decide +kernel
theorem dJ2_length_9d52b_4 : decode cJ2_length_9d52b 4 = .ok (.ireturn, 1) := by decide +kernel
theorem dJ2_charAt_3b067_0 : decode cJ2_charAt_3b067 0 = .ok (.iload_n 1, 1) := by decide +kernel
theorem dJ2_charAt_3b067_1 : decode cJ2_charAt_3b067 1 = .ok (.aload_n 0, 1) := by decide +kernel
theorem dJ2_charAt_3b067_2 : decode cJ2_charAt_3b067 2 = .ok (.invokestatic 67, 3) := by decide +kernel
theorem dJ2_charAt_3b067_5 : decode cJ2_charAt_3b067 5 = .ok (.aload_n 0, 1) := by decide +kernel
theorem dJ2_charAt_3b067_6 : decode cJ2_charAt_3b067 6 = .ok (.iload_n 1, 1) := by decide +kernel
theorem dJ2_charAt_3b067_7 : decode cJ2_charAt_3b067 7 = .ok (.invokestatic 71, 3) := by decide +kernel
theorem dJ2_charAt_3b067_10 : decode cJ2_charAt_3b067 10 = .ok (.ireturn, 1) := by decide +kernel
theorem dJ2_checkIndex_2214a_0 : decode cJ2_checkIndex_2214a 0 = .ok (.iload_n 0, 1) := by decide +kernel
theorem dJ2_checkIndex_2214a_1 : decode cJ2_checkIndex_2214a 1 = .ok (.aload_n 1, 1) := by decide +kernel
theorem dJ2_checkIndex_2214a_2 : decode cJ2_checkIndex_2214a 2 = .ok (.invokestatic 48, 3) := by decide +kernel
theorem dJ2_checkIndex_2214a_5 : decode cJ2_checkIndex_2214a 5 = .ok (.invokestatic 414, 3) := by decide +kernel
theorem dJ2_checkIndex_2214a_8 : decode cJ2_checkIndex_2214a 8 = .ok (.return_, 1) := by decide +kernel
theorem dJ7_fill_d0a16_0 : decode cJ7_fill_d0a16 0 = .ok (.iconst 0, 1) := by decide +kernel
theorem dJ7_fill_d0a16_1 : decode cJ7_fill_d0a16 1 = .ok (.istore_n 3, 1) := by decide +kernel
theorem dJ7_fill_d0a16_2 : decode cJ7_fill_d0a16 2 = .ok (.aload_n 0, 1) := by decide +kernel
theorem dJ7_fill_d0a16_3 : decode cJ7_fill_d0a16 3 = .ok (.arraylength, 1) := by decide +kernel
theorem dJ7_fill_d0a16_4 : decode cJ7_fill_d0a16 4 = .ok (.istore 4, 2) := by decide +kernel
theorem dJ7_fill_d0a16_6 : decode cJ7_fill_d0a16 6 = .ok (.iload_n 3, 1) := by decide +kernel
theorem dJ7_fill_d0a16_7 : decode cJ7_fill_d0a16 7 = .ok (.iload 4, 2) := by decide +kernel
theorem dJ7_fill_d0a16_9 : decode cJ7_fill_d0a16 9 = .ok (.if_icmp .ge 13, 3) := by decide +kernel
theorem dJ7_fill_d0a16_12 : decode cJ7_fill_d0a16 12 = .ok (.aload_n 0, 1) := by decide +kernel
theorem dJ7_fill_d0a16_13 : decode cJ7_fill_d0a16 13 = .ok (.iload_n 3, 1) := by decide +kernel
theorem dJ7_fill_d0a16_14 : decode cJ7_fill_d0a16 14 = .ok (.lload_n 1, 1) := by decide +kernel
theorem dJ7_fill_d0a16_15 : decode cJ7_fill_d0a16 15 = .ok (.lastore, 1) := by decide +kernel
theorem dJ7_fill_d0a16_16 : decode cJ7_fill_d0a16 16 = .ok (.iinc 3 1, 3) := by decide +kernel
theorem dJ7_fill_d0a16_19 : decode cJ7_fill_d0a16 19 = .ok (.goto (-13), 3) := by decide +kernel
theorem dJ7_fill_d0a16_22 : decode cJ7_fill_d0a16 22 = .ok (.return_, 1) := by decide +kernel
theorem dJ7_fill_53178_0 : decode cJ7_fill_53178 0 = .ok (.iconst 0, 1) := by decide +kernel
theorem dJ7_fill_53178_1 : decode cJ7_fill_53178 1 = .ok (.istore_n 2, 1) := by decide +kernel
theorem dJ7_fill_53178_2 : decode cJ7_fill_53178 2 = .ok (.aload_n 0, 1) := by decide +kernel
theorem dJ7_fill_53178_3 : decode cJ7_fill_53178 3 = .ok (.arraylength, 1) := by decide +kernel
theorem dJ7_fill_53178_4 : decode cJ7_fill_53178 4 = .ok (.istore_n 3, 1) := by decide +kernel
theorem dJ7_fill_53178_5 : decode cJ7_fill_53178 5 = .ok (.iload_n 2, 1) := by decide +kernel
theorem dJ7_fill_53178_6 : decode cJ7_fill_53178 6 = .ok (.iload_n 3, 1) := by decide +kernel
theorem dJ7_fill_53178_7 : decode cJ7_fill_53178 7 = .ok (.if_icmp .ge 13, 3) := by decide +kernel
theorem dJ7_fill_53178_10 : decode cJ7_fill_53178 10 = .ok (.aload_n 0, 1) := by decide +kernel
theorem dJ7_fill_53178_11 : decode cJ7_fill_53178 11 = .ok (.iload_n 2, 1) := by decide +kernel
theorem dJ7_fill_53178_12 : decode cJ7_fill_53178 12 = .ok (.iload_n 1, 1) := by decide +kernel
theorem dJ7_fill_53178_13 : decode cJ7_fill_53178 13 = .ok (.iastore, 1) := by decide +kernel
theorem dJ7_fill_53178_14 : decode cJ7_fill_53178 14 = .ok (.iinc 2 1, 3) := by decide +kernel
theorem dJ7_fill_53178_17 : decode cJ7_fill_53178 17 = .ok (.goto (-12), 3) := by decide +kernel
theorem dJ7_fill_53178_20 : decode cJ7_fill_53178 20 = .ok (.return_, 1) := by decide +kernel
theorem dJ3_checkIndex_8e157_0 : decode cJ3_checkIndex_8e157 0 = .ok (.iload_n 0, 1) := by decide +kernel
theorem dJ3_checkIndex_8e157_1 : decode cJ3_checkIndex_8e157 1 = .ok (.ifCond .lt 8, 3) := by decide +kernel
theorem dJ3_checkIndex_8e157_4 : decode cJ3_checkIndex_8e157 4 = .ok (.iload_n 0, 1) := by decide +kernel
theorem dJ3_checkIndex_8e157_5 : decode cJ3_checkIndex_8e157 5 = .ok (.iload_n 1, 1) := by decide +kernel
theorem dJ3_checkIndex_8e157_6 : decode cJ3_checkIndex_8e157 6 = .ok (.if_icmp .lt 10, 3) := by decide +kernel
theorem dJ3_checkIndex_8e157_9 : decode cJ3_checkIndex_8e157 9 = .ok (.aload_n 2, 1) := by decide +kernel
theorem dJ3_checkIndex_8e157_10 : decode cJ3_checkIndex_8e157 10 = .ok (.iload_n 0, 1) := by decide +kernel
theorem dJ3_checkIndex_8e157_11 : decode cJ3_checkIndex_8e157 11 = .ok (.iload_n 1, 1) := by decide +kernel
theorem dJ3_checkIndex_8e157_12 : decode cJ3_checkIndex_8e157 12 = .ok (.invokestatic 95, 3) := by decide +kernel
theorem dJ3_checkIndex_8e157_15 : decode cJ3_checkIndex_8e157 15 = .ok (.athrow, 1) := by decide +kernel
theorem dJ3_checkIndex_8e157_16 : decode cJ3_checkIndex_8e157 16 = .ok (.iload_n 0, 1) := by decide +kernel
theorem dJ3_checkIndex_8e157_17 : decode cJ3_checkIndex_8e157 17 = .ok (.ireturn, 1) := by decide +kernel
