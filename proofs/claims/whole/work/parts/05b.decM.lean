theorem dX10_init_0 : decode cX10_init 0 = .ok (.aload_n 0, 1) := by decide +kernel
theorem dX10_init_1 : decode cX10_init 1 = .ok (.invokespecial 1, 3) := by decide +kernel
theorem dX10_init_4 : decode cX10_init 4 = .ok (.aload_n 0, 1) := by decide +kernel
theorem dX10_init_5 : decode cX10_init 5 = .ok (.bipush 6, 2) := by decide +kernel
theorem dX10_init_7 : decode cX10_init 7 = .ok (.putfield 7, 3) := by decide +kernel
theorem dX10_init_10 : decode cX10_init 10 = .ok (.aload_n 0, 1) := by decide +kernel
theorem dX10_init_11 : decode cX10_init 11 = .ok (.iconst 3, 1) := by decide +kernel
theorem dX10_init_12 : decode cX10_init 12 = .ok (.putfield 13, 3) := by decide +kernel
theorem dX10_init_15 : decode cX10_init 15 = .ok (.aload_n 0, 1) := by decide +kernel
theorem dX10_init_16 : decode cX10_init 16 = .ok (.iconst 4, 1) := by decide +kernel
theorem dX10_init_17 : decode cX10_init 17 = .ok (.newarray .int, 2) := by decide +kernel
theorem dX10_init_19 : decode cX10_init 19 = .ok (.putfield 16, 3) := by decide +kernel
theorem dX10_init_22 : decode cX10_init 22 = .ok (.aload_n 0, 1) := by decide +kernel
theorem dX10_init_23 : decode cX10_init 23 = .ok (.bipush 48, 2) := by decide +kernel
theorem dX10_init_25 : decode cX10_init 25 = .ok (.newarray .int, 2) := by decide +kernel
theorem dX10_init_27 : decode cX10_init 27 = .ok (.putfield 20, 3) := by decide +kernel
theorem dX10_init_30 : decode cX10_init 30 = .ok (.aload_n 0, 1) := by decide +kernel
theorem dX10_init_31 : decode cX10_init 31 = .ok (.bipush 100, 2) := by decide +kernel
theorem dX10_init_33 : decode cX10_init 33 = .ok (.putfield 23, 3) := by decide +kernel
theorem dX10_init_36 : decode cX10_init 36 = .ok (.aload_n 0, 1) := by decide +kernel
theorem dX10_init_37 : decode cX10_init 37 = .ok (.bipush 100, 2) := by decide +kernel
theorem dX10_init_39 : decode cX10_init 39 = .ok (.putfield 26, 3) := by decide +kernel
theorem dX10_init_42 : decode cX10_init 42 = .ok (.aload_n 0, 1) := by decide +kernel
theorem dX10_init_43 : decode cX10_init 43 = .ok (.iconst 5, 1) := by decide +kernel
theorem dX10_init_44 : decode cX10_init 44 = .ok (.putfield 29, 3) := by decide +kernel
theorem dX10_init_47 : decode cX10_init 47 = .ok (.aload_n 0, 1) := by decide +kernel
theorem dX10_init_48 : decode cX10_init 48 = .ok (.sipush 200, 3) := by decide +kernel
theorem dX10_init_51 : decode cX10_init 51 = .ok (.newarray .int, 2) := by decide +kernel
theorem dX10_init_53 : decode cX10_init 53 = .ok (.putfield 32, 3) := by decide +kernel
theorem dX10_init_56 : decode cX10_init 56 = .ok (.aload_n 0, 1) := by decide +kernel
theorem dX10_init_57 : decode cX10_init 57 = .ok (.bipush 120, 2) := by decide +kernel
theorem dX10_init_59 : decode cX10_init 59 = .ok (.newarray .int, 2) := by decide +kernel
theorem dX10_init_61 : decode cX10_init 61 = .ok (.putfield 35, 3) := by decide +kernel
theorem dX10_init_64 : decode cX10_init 64 = .ok (.aload_n 0, 1) := by decide +kernel
theorem dX10_init_65 : decode cX10_init 65 = .ok (.bipush 12, 2) := by decide +kernel
theorem dX10_init_67 : decode cX10_init 67 = .ok (.newarray .int, 2) := by decide +kernel
theorem dX10_init_69 : decode cX10_init 69 = .ok (.putfield 38, 3) := by decide +kernel
theorem dX10_init_72 : decode cX10_init 72 = .ok (.aload_n 0, 1) := by decide +kernel
theorem dX10_init_73 : decode cX10_init 73 = .ok (.bipush 12, 2) := by decide +kernel
theorem dX10_init_75 : decode cX10_init 75 = .ok (.newarray .int, 2) := by decide +kernel
theorem dX10_init_77 : decode cX10_init 77 = .ok (.putfield 41, 3) := by decide +kernel
theorem dX10_init_80 : decode cX10_init 80 = .ok (.aload_n 0, 1) := by decide +kernel
theorem dX10_init_81 : decode cX10_init 81 = .ok (.bipush 24, 2) := by decide +kernel
theorem dX10_init_83 : decode cX10_init 83 = .ok (.newarray .int, 2) := by decide +kernel
theorem dX10_init_85 : decode cX10_init 85 = .ok (.putfield 44, 3) := by decide +kernel
theorem dX10_init_88 : decode cX10_init 88 = .ok (.aload_n 0, 1) := by decide +kernel
theorem dX10_init_89 : decode cX10_init 89 = .ok (.bipush 24, 2) := by decide +kernel
theorem dX10_init_91 : decode cX10_init 91 = .ok (.newarray .int, 2) := by decide +kernel
theorem dX10_init_93 : decode cX10_init 93 = .ok (.putfield 47, 3) := by decide +kernel
theorem dX10_init_96 : decode cX10_init 96 = .ok (.aload_n 0, 1) := by decide +kernel
theorem dX10_init_97 : decode cX10_init 97 = .ok (.bipush 24, 2) := by decide +kernel
theorem dX10_init_99 : decode cX10_init 99 = .ok (.newarray .int, 2) := by decide +kernel
theorem dX10_init_101 : decode cX10_init 101 = .ok (.putfield 50, 3) := by decide +kernel
theorem dX10_init_104 : decode cX10_init 104 = .ok (.aload_n 0, 1) := by decide +kernel
theorem dX10_init_105 : decode cX10_init 105 = .ok (.bipush 24, 2) := by decide +kernel
theorem dX10_init_107 : decode cX10_init 107 = .ok (.newarray .int, 2) := by decide +kernel
theorem dX10_init_109 : decode cX10_init 109 = .ok (.putfield 53, 3) := by decide +kernel
theorem dX10_init_112 : decode cX10_init 112 = .ok (.aload_n 0, 1) := by decide +kernel
theorem dX10_init_113 : decode cX10_init 113 = .ok (.bipush 24, 2) := by decide +kernel
theorem dX10_init_115 : decode cX10_init 115 = .ok (.newarray .int, 2) := by decide +kernel
theorem dX10_init_117 : decode cX10_init 117 = .ok (.putfield 56, 3) := by decide +kernel
theorem dX10_init_120 : decode cX10_init 120 = .ok (.aload_n 0, 1) := by decide +kernel
theorem dX10_init_121 : decode cX10_init 121 = .ok (.bipush 24, 2) := by decide +kernel
theorem dX10_init_123 : decode cX10_init 123 = .ok (.newarray .int, 2) := by decide +kernel
theorem dX10_init_125 : decode cX10_init 125 = .ok (.putfield 59, 3) := by decide +kernel
theorem dX10_init_128 : decode cX10_init 128 = .ok (.aload_n 0, 1) := by decide +kernel
theorem dX10_init_129 : decode cX10_init 129 = .ok (.sipush 143, 3) := by decide +kernel
theorem dX10_init_132 : decode cX10_init 132 = .ok (.newarray .long, 2) := by decide +kernel
theorem dX10_init_134 : decode cX10_init 134 = .ok (.putfield 62, 3) := by decide +kernel
theorem dX10_init_137 : decode cX10_init 137 = .ok (.aload_n 0, 1) := by decide +kernel
theorem dX10_init_138 : decode cX10_init 138 = .ok (.ldc 66, 2) := by decide +kernel
theorem dX10_init_140 : decode cX10_init 140 = .ok (.newarray .long, 2) := by decide +kernel
theorem dX10_init_142 : decode cX10_init 142 = .ok (.putfield 67, 3) := by decide +kernel
theorem dX10_init_145 : decode cX10_init 145 = .ok (.aload_n 0, 1) := by decide +kernel
theorem dX10_init_146 : decode cX10_init 146 = .ok (.getfield 16, 3) := by decide +kernel
theorem dX10_init_149 : decode cX10_init 149 = .ok (.iconst 0, 1) := by decide +kernel
theorem dX10_init_150 : decode cX10_init 150 = .ok (.iconst 1, 1) := by decide +kernel
theorem dX10_init_151 : decode cX10_init 151 = .ok (.iastore, 1) := by decide +kernel
theorem dX10_init_152 : decode cX10_init 152 = .ok (.aload_n 0, 1) := by decide +kernel
theorem dX10_init_153 : decode cX10_init 153 = .ok (.getfield 20, 3) := by decide +kernel
theorem dX10_init_156 : decode cX10_init 156 = .ok (.iconst 0, 1) := by decide +kernel
theorem dX10_init_157 : decode cX10_init 157 = .ok (.iconst 4, 1) := by decide +kernel
theorem dX10_init_158 : decode cX10_init 158 = .ok (.iastore, 1) := by decide +kernel
theorem dX10_init_159 : decode cX10_init 159 = .ok (.aload_n 0, 1) := by decide +kernel
theorem dX10_init_160 : decode cX10_init 160 = .ok (.getfield 20, 3) := by decide +kernel
theorem dX10_init_163 : decode cX10_init 163 = .ok (.iconst 2, 1) := by decide +kernel
theorem dX10_init_164 : decode cX10_init 164 = .ok (.bipush 10, 2) := by decide +kernel
theorem dX10_init_166 : decode cX10_init 166 = .ok (.iastore, 1) := by decide +kernel
theorem dX10_init_167 : decode cX10_init 167 = .ok (.return_, 1) := by decide +kernel
theorem dX10_in_0 : decode cX10_in 0 = .ok (.iload_n 0, 1) := by decide +kernel
theorem dX10_in_1 : decode cX10_in 1 = .ok (.iload_n 1, 1) := by decide +kernel
theorem dX10_in_2 : decode cX10_in 2 = .ok (.if_icmp .lt 12, 3) := by decide +kernel
theorem dX10_in_5 : decode cX10_in 5 = .ok (.iload_n 0, 1) := by decide +kernel
theorem dX10_in_6 : decode cX10_in 6 = .ok (.iload_n 2, 1) := by decide +kernel
theorem dX10_in_7 : decode cX10_in 7 = .ok (.if_icmp .gt 7, 3) := by decide +kernel
theorem dX10_in_10 : decode cX10_in 10 = .ok (.iconst 1, 1) := by decide +kernel
theorem dX10_in_11 : decode cX10_in 11 = .ok (.goto 4, 3) := by decide +kernel
theorem dX10_in_14 : decode cX10_in 14 = .ok (.iconst 0, 1) := by decide +kernel
theorem dX10_in_15 : decode cX10_in 15 = .ok (.ireturn, 1) := by decide +kernel
theorem dX10_ten_0 : decode cX10_ten 0 = .ok (.lconst 1, 1) := by decide +kernel
theorem dX10_ten_1 : decode cX10_ten 1 = .ok (.lstore_n 1, 1) := by decide +kernel
theorem dX10_ten_2 : decode cX10_ten 2 = .ok (.iconst 0, 1) := by decide +kernel
theorem dX10_ten_3 : decode cX10_ten 3 = .ok (.istore_n 3, 1) := by decide +kernel
theorem dX10_ten_4 : decode cX10_ten 4 = .ok (.iload_n 3, 1) := by decide +kernel
theorem dX10_ten_5 : decode cX10_ten 5 = .ok (.iload_n 0, 1) := by decide +kernel
theorem dX10_ten_6 : decode cX10_ten 6 = .ok (.if_icmp .ge 15, 3) := by decide +kernel
theorem dX10_ten_9 : decode cX10_ten 9 = .ok (.ldc2_w 70, 3) := by decide +kernel
theorem dX10_ten_12 : decode cX10_ten 12 = .ok (.lload_n 1, 1) := by decide +kernel
theorem dX10_ten_13 : decode cX10_ten 13 = .ok (.lmul, 1) := by decide +kernel
theorem dX10_ten_14 : decode cX10_ten 14 = .ok (.lstore_n 1, 1) := by decide +kernel
theorem dX10_ten_15 : decode cX10_ten 15 = .ok (.iinc 3 1, 3) := by decide +kernel
theorem dX10_ten_18 : decode cX10_ten 18 = .ok (.goto (-14), 3) := by decide +kernel
theorem dX10_ten_21 : decode cX10_ten 21 = .ok (.lload_n 1, 1) := by decide +kernel
theorem dX10_ten_22 : decode cX10_ten 22 = .ok (.lreturn, 1) := by decide +kernel
theorem dX10_write_0 : decode cX10_write 0 = .ok (.iload_n 3, 1) := by decide +kernel
theorem dX10_write_1 : decode cX10_write 1 = .ok (.iconst 1, 1) := by decide +kernel
theorem dX10_write_2 : decode cX10_write 2 = .ok (.bipush 8, 2) := by decide +kernel
theorem dX10_write_4 : decode cX10_write 4 = .ok (.invokestatic 72, 3) := by decide +kernel
theorem dX10_write_7 : decode cX10_write 7 = .ok (.ifCond .ne 6, 3) := by decide +kernel
theorem dX10_write_10 : decode cX10_write 10 = .ok (.bipush (-3), 2) := by decide +kernel
theorem dX10_write_12 : decode cX10_write 12 = .ok (.ireturn, 1) := by decide +kernel
theorem dX10_write_13 : decode cX10_write 13 = .ok (.aload_n 0, 1) := by decide +kernel
theorem dX10_write_14 : decode cX10_write 14 = .ok (.getfield 76, 3) := by decide +kernel
theorem dX10_write_17 : decode cX10_write 17 = .ok (.iload_n 3, 1) := by decide +kernel
theorem dX10_write_18 : decode cX10_write 18 = .ok (.iadd, 1) := by decide +kernel
theorem dX10_write_19 : decode cX10_write 19 = .ok (.sipush 200, 3) := by decide +kernel
theorem dX10_write_22 : decode cX10_write 22 = .ok (.if_icmp .le 6, 3) := by decide +kernel
theorem dX10_write_25 : decode cX10_write 25 = .ok (.bipush (-5), 2) := by decide +kernel
theorem dX10_write_27 : decode cX10_write 27 = .ok (.ireturn, 1) := by decide +kernel
theorem dX10_write_28 : decode cX10_write 28 = .ok (.iconst 0, 1) := by decide +kernel
theorem dX10_write_29 : decode cX10_write 29 = .ok (.istore 4, 2) := by decide +kernel
theorem dX10_write_31 : decode cX10_write 31 = .ok (.iload 4, 2) := by decide +kernel
theorem dX10_write_33 : decode cX10_write 33 = .ok (.iload_n 3, 1) := by decide +kernel
theorem dX10_write_34 : decode cX10_write 34 = .ok (.if_icmp .ge 33, 3) := by decide +kernel
theorem dX10_write_37 : decode cX10_write 37 = .ok (.aload_n 0, 1) := by decide +kernel
theorem dX10_write_38 : decode cX10_write 38 = .ok (.getfield 32, 3) := by decide +kernel
theorem dX10_write_41 : decode cX10_write 41 = .ok (.aload_n 0, 1) := by decide +kernel
theorem dX10_write_42 : decode cX10_write 42 = .ok (.getfield 76, 3) := by decide +kernel
theorem dX10_write_45 : decode cX10_write 45 = .ok (.iload 4, 2) := by decide +kernel
theorem dX10_write_47 : decode cX10_write 47 = .ok (.iadd, 1) := by decide +kernel
theorem dX10_write_48 : decode cX10_write 48 = .ok (.lload_n 1, 1) := by decide +kernel
theorem dX10_write_49 : decode cX10_write 49 = .ok (.bipush 8, 2) := by decide +kernel
theorem dX10_write_51 : decode cX10_write 51 = .ok (.iload 4, 2) := by decide +kernel
theorem dX10_write_53 : decode cX10_write 53 = .ok (.imul, 1) := by decide +kernel
theorem dX10_write_54 : decode cX10_write 54 = .ok (.lshr, 1) := by decide +kernel
theorem dX10_write_55 : decode cX10_write 55 = .ok (.ldc2_w 79, 3) := by decide +kernel
theorem dX10_write_58 : decode cX10_write 58 = .ok (.land, 1) := by decide +kernel
theorem dX10_write_59 : decode cX10_write 59 = .ok (.l2i, 1) := by decide +kernel
theorem dX10_write_60 : decode cX10_write 60 = .ok (.iastore, 1) := by decide +kernel
theorem dX10_write_61 : decode cX10_write 61 = .ok (.iinc 4 1, 3) := by decide +kernel
theorem dX10_write_64 : decode cX10_write 64 = .ok (.goto (-33), 3) := by decide +kernel
theorem dX10_write_67 : decode cX10_write 67 = .ok (.aload_n 0, 1) := by decide +kernel
theorem dX10_write_68 : decode cX10_write 68 = .ok (.dup, 1) := by decide +kernel
theorem dX10_write_69 : decode cX10_write 69 = .ok (.getfield 76, 3) := by decide +kernel
theorem dX10_write_72 : decode cX10_write 72 = .ok (.iload_n 3, 1) := by decide +kernel
theorem dX10_write_73 : decode cX10_write 73 = .ok (.iadd, 1) := by decide +kernel
theorem dX10_write_74 : decode cX10_write 74 = .ok (.putfield 76, 3) := by decide +kernel
theorem dX10_write_77 : decode cX10_write 77 = .ok (.aload_n 0, 1) := by decide +kernel
theorem dX10_write_78 : decode cX10_write 78 = .ok (.getfield 76, 3) := by decide +kernel
theorem dX10_write_81 : decode cX10_write 81 = .ok (.ireturn, 1) := by decide +kernel
theorem dX10_erase_0 : decode cX10_erase 0 = .ok (.aload_n 0, 1) := by decide +kernel
theorem dX10_erase_1 : decode cX10_erase 1 = .ok (.getfield 76, 3) := by decide +kernel
theorem dX10_erase_4 : decode cX10_erase 4 = .ok (.istore_n 1, 1) := by decide +kernel
theorem dX10_erase_5 : decode cX10_erase 5 = .ok (.aload_n 0, 1) := by decide +kernel
theorem dX10_erase_6 : decode cX10_erase 6 = .ok (.iconst 0, 1) := by decide +kernel
theorem dX10_erase_7 : decode cX10_erase 7 = .ok (.putfield 76, 3) := by decide +kernel
theorem dX10_erase_10 : decode cX10_erase 10 = .ok (.iload_n 1, 1) := by decide +kernel
theorem dX10_erase_11 : decode cX10_erase 11 = .ok (.ireturn, 1) := by decide +kernel
theorem dX10_nextToken_0 : decode cX10_nextToken 0 = .ok (.aload_n 0, 1) := by decide +kernel
theorem dX10_nextToken_1 : decode cX10_nextToken 1 = .ok (.getfield 81, 3) := by decide +kernel
theorem dX10_nextToken_4 : decode cX10_nextToken 4 = .ok (.aload_n 0, 1) := by decide +kernel
theorem dX10_nextToken_5 : decode cX10_nextToken 5 = .ok (.getfield 76, 3) := by decide +kernel
theorem dX10_nextToken_8 : decode cX10_nextToken 8 = .ok (.if_icmp .ge 30, 3) := by decide +kernel
theorem dX10_nextToken_11 : decode cX10_nextToken 11 = .ok (.aload_n 0, 1) := by decide +kernel
theorem dX10_nextToken_12 : decode cX10_nextToken 12 = .ok (.getfield 32, 3) := by decide +kernel
theorem dX10_nextToken_15 : decode cX10_nextToken 15 = .ok (.aload_n 0, 1) := by decide +kernel
theorem dX10_nextToken_16 : decode cX10_nextToken 16 = .ok (.getfield 81, 3) := by decide +kernel
theorem dX10_nextToken_19 : decode cX10_nextToken 19 = .ok (.iaload, 1) := by decide +kernel
theorem dX10_nextToken_20 : decode cX10_nextToken 20 = .ok (.bipush 32, 2) := by decide +kernel
theorem dX10_nextToken_22 : decode cX10_nextToken 22 = .ok (.if_icmp .ne 16, 3) := by decide +kernel
theorem dX10_nextToken_25 : decode cX10_nextToken 25 = .ok (.aload_n 0, 1) := by decide +kernel
theorem dX10_nextToken_26 : decode cX10_nextToken 26 = .ok (.dup, 1) := by decide +kernel
theorem dX10_nextToken_27 : decode cX10_nextToken 27 = .ok (.getfield 81, 3) := by decide +kernel
theorem dX10_nextToken_30 : decode cX10_nextToken 30 = .ok (.iconst 1, 1) := by decide +kernel
theorem dX10_nextToken_31 : decode cX10_nextToken 31 = .ok (.iadd, 1) := by decide +kernel
theorem dX10_nextToken_32 : decode cX10_nextToken 32 = .ok (.putfield 81, 3) := by decide +kernel
theorem dX10_nextToken_35 : decode cX10_nextToken 35 = .ok (.goto (-35), 3) := by decide +kernel
theorem dX10_nextToken_38 : decode cX10_nextToken 38 = .ok (.aload_n 0, 1) := by decide +kernel
theorem dX10_nextToken_39 : decode cX10_nextToken 39 = .ok (.aload_n 0, 1) := by decide +kernel
theorem dX10_nextToken_40 : decode cX10_nextToken 40 = .ok (.getfield 81, 3) := by decide +kernel
theorem dX10_nextToken_43 : decode cX10_nextToken 43 = .ok (.putfield 84, 3) := by decide +kernel
theorem dX10_nextToken_46 : decode cX10_nextToken 46 = .ok (.aload_n 0, 1) := by decide +kernel
theorem dX10_nextToken_47 : decode cX10_nextToken 47 = .ok (.iconst 0, 1) := by decide +kernel
theorem dX10_nextToken_48 : decode cX10_nextToken 48 = .ok (.putfield 87, 3) := by decide +kernel
theorem dX10_nextToken_51 : decode cX10_nextToken 51 = .ok (.aload_n 0, 1) := by decide +kernel
theorem dX10_nextToken_52 : decode cX10_nextToken 52 = .ok (.iconst 0, 1) := by decide +kernel
theorem dX10_nextToken_53 : decode cX10_nextToken 53 = .ok (.putfield 90, 3) := by decide +kernel
theorem dX10_nextToken_56 : decode cX10_nextToken 56 = .ok (.aload_n 0, 1) := by decide +kernel
theorem dX10_nextToken_57 : decode cX10_nextToken 57 = .ok (.getfield 81, 3) := by decide +kernel
theorem dX10_nextToken_60 : decode cX10_nextToken 60 = .ok (.aload_n 0, 1) := by decide +kernel
theorem dX10_nextToken_61 : decode cX10_nextToken 61 = .ok (.getfield 76, 3) := by decide +kernel
theorem dX10_nextToken_64 : decode cX10_nextToken 64 = .ok (.if_icmp .ne 13, 3) := by decide +kernel
theorem dX10_nextToken_67 : decode cX10_nextToken 67 = .ok (.aload_n 0, 1) := by decide +kernel
theorem dX10_nextToken_68 : decode cX10_nextToken 68 = .ok (.ldc2_w 93, 3) := by decide +kernel
theorem dX10_nextToken_71 : decode cX10_nextToken 71 = .ok (.putfield 95, 3) := by decide +kernel
theorem dX10_nextToken_74 : decode cX10_nextToken 74 = .ok (.goto 320, 3) := by decide +kernel
theorem dX10_nextToken_77 : decode cX10_nextToken 77 = .ok (.aload_n 0, 1) := by decide +kernel
theorem dX10_nextToken_78 : decode cX10_nextToken 78 = .ok (.getfield 32, 3) := by decide +kernel
theorem dX10_nextToken_81 : decode cX10_nextToken 81 = .ok (.aload_n 0, 1) := by decide +kernel
theorem dX10_nextToken_82 : decode cX10_nextToken 82 = .ok (.getfield 81, 3) := by decide +kernel
theorem dX10_nextToken_85 : decode cX10_nextToken 85 = .ok (.iaload, 1) := by decide +kernel
theorem dX10_nextToken_86 : decode cX10_nextToken 86 = .ok (.bipush 97, 2) := by decide +kernel
theorem dX10_nextToken_88 : decode cX10_nextToken 88 = .ok (.bipush 122, 2) := by decide +kernel
theorem dX10_nextToken_90 : decode cX10_nextToken 90 = .ok (.invokestatic 72, 3) := by decide +kernel
theorem dX10_nextToken_93 : decode cX10_nextToken 93 = .ok (.ifCond .eq 129, 3) := by decide +kernel
theorem dX10_nextToken_96 : decode cX10_nextToken 96 = .ok (.aload_n 0, 1) := by decide +kernel
theorem dX10_nextToken_97 : decode cX10_nextToken 97 = .ok (.lconst 0, 1) := by decide +kernel
theorem dX10_nextToken_98 : decode cX10_nextToken 98 = .ok (.putfield 95, 3) := by decide +kernel
theorem dX10_nextToken_101 : decode cX10_nextToken 101 = .ok (.aload_n 0, 1) := by decide +kernel
theorem dX10_nextToken_102 : decode cX10_nextToken 102 = .ok (.getfield 81, 3) := by decide +kernel
theorem dX10_nextToken_105 : decode cX10_nextToken 105 = .ok (.aload_n 0, 1) := by decide +kernel
theorem dX10_nextToken_106 : decode cX10_nextToken 106 = .ok (.getfield 76, 3) := by decide +kernel
theorem dX10_nextToken_109 : decode cX10_nextToken 109 = .ok (.if_icmp .ge 82, 3) := by decide +kernel
theorem dX10_nextToken_112 : decode cX10_nextToken 112 = .ok (.aload_n 0, 1) := by decide +kernel
theorem dX10_nextToken_113 : decode cX10_nextToken 113 = .ok (.getfield 32, 3) := by decide +kernel
theorem dX10_nextToken_116 : decode cX10_nextToken 116 = .ok (.aload_n 0, 1) := by decide +kernel
theorem dX10_nextToken_117 : decode cX10_nextToken 117 = .ok (.getfield 81, 3) := by decide +kernel
theorem dX10_nextToken_120 : decode cX10_nextToken 120 = .ok (.iaload, 1) := by decide +kernel
theorem dX10_nextToken_121 : decode cX10_nextToken 121 = .ok (.bipush 97, 2) := by decide +kernel
theorem dX10_nextToken_123 : decode cX10_nextToken 123 = .ok (.bipush 122, 2) := by decide +kernel
theorem dX10_nextToken_125 : decode cX10_nextToken 125 = .ok (.invokestatic 72, 3) := by decide +kernel
theorem dX10_nextToken_128 : decode cX10_nextToken 128 = .ok (.ifCond .eq 63, 3) := by decide +kernel
theorem dX10_nextToken_131 : decode cX10_nextToken 131 = .ok (.aload_n 0, 1) := by decide +kernel
theorem dX10_nextToken_132 : decode cX10_nextToken 132 = .ok (.aload_n 0, 1) := by decide +kernel
theorem dX10_nextToken_133 : decode cX10_nextToken 133 = .ok (.getfield 81, 3) := by decide +kernel
theorem dX10_nextToken_136 : decode cX10_nextToken 136 = .ok (.aload_n 0, 1) := by decide +kernel
theorem dX10_nextToken_137 : decode cX10_nextToken 137 = .ok (.getfield 84, 3) := by decide +kernel
theorem dX10_nextToken_140 : decode cX10_nextToken 140 = .ok (.isub, 1) := by decide +kernel
theorem dX10_nextToken_141 : decode cX10_nextToken 141 = .ok (.bipush 9, 2) := by decide +kernel
theorem dX10_nextToken_143 : decode cX10_nextToken 143 = .ok (.if_icmp .ge 29, 3) := by decide +kernel
theorem dX10_nextToken_146 : decode cX10_nextToken 146 = .ok (.ldc2_w 99, 3) := by decide +kernel
theorem dX10_nextToken_149 : decode cX10_nextToken 149 = .ok (.aload_n 0, 1) := by decide +kernel
theorem dX10_nextToken_150 : decode cX10_nextToken 150 = .ok (.getfield 95, 3) := by decide +kernel
theorem dX10_nextToken_153 : decode cX10_nextToken 153 = .ok (.lmul, 1) := by decide +kernel
theorem dX10_nextToken_154 : decode cX10_nextToken 154 = .ok (.aload_n 0, 1) := by decide +kernel
theorem dX10_nextToken_155 : decode cX10_nextToken 155 = .ok (.getfield 32, 3) := by decide +kernel
theorem dX10_nextToken_158 : decode cX10_nextToken 158 = .ok (.aload_n 0, 1) := by decide +kernel
theorem dX10_nextToken_159 : decode cX10_nextToken 159 = .ok (.getfield 81, 3) := by decide +kernel
theorem dX10_nextToken_162 : decode cX10_nextToken 162 = .ok (.iaload, 1) := by decide +kernel
theorem dX10_nextToken_163 : decode cX10_nextToken 163 = .ok (.i2l, 1) := by decide +kernel
theorem dX10_nextToken_164 : decode cX10_nextToken 164 = .ok (.ladd, 1) := by decide +kernel
theorem dX10_nextToken_165 : decode cX10_nextToken 165 = .ok (.ldc2_w 101, 3) := by decide +kernel
theorem dX10_nextToken_168 : decode cX10_nextToken 168 = .ok (.lsub, 1) := by decide +kernel
theorem dX10_nextToken_169 : decode cX10_nextToken 169 = .ok (.goto 6, 3) := by decide +kernel
theorem dX10_nextToken_172 : decode cX10_nextToken 172 = .ok (.ldc2_w 103, 3) := by decide +kernel
theorem dX10_nextToken_175 : decode cX10_nextToken 175 = .ok (.putfield 95, 3) := by decide +kernel
theorem dX10_nextToken_178 : decode cX10_nextToken 178 = .ok (.aload_n 0, 1) := by decide +kernel
theorem dX10_nextToken_179 : decode cX10_nextToken 179 = .ok (.dup, 1) := by decide +kernel
theorem dX10_nextToken_180 : decode cX10_nextToken 180 = .ok (.getfield 81, 3) := by decide +kernel
theorem dX10_nextToken_183 : decode cX10_nextToken 183 = .ok (.iconst 1, 1) := by decide +kernel
theorem dX10_nextToken_184 : decode cX10_nextToken 184 = .ok (.iadd, 1) := by decide +kernel
theorem dX10_nextToken_185 : decode cX10_nextToken 185 = .ok (.putfield 81, 3) := by decide +kernel
theorem dX10_nextToken_188 : decode cX10_nextToken 188 = .ok (.goto (-87), 3) := by decide +kernel
theorem dX10_nextToken_191 : decode cX10_nextToken 191 = .ok (.aload_n 0, 1) := by decide +kernel
theorem dX10_nextToken_192 : decode cX10_nextToken 192 = .ok (.aload_n 0, 1) := by decide +kernel
theorem dX10_nextToken_193 : decode cX10_nextToken 193 = .ok (.getfield 81, 3) := by decide +kernel
theorem dX10_nextToken_196 : decode cX10_nextToken 196 = .ok (.aload_n 0, 1) := by decide +kernel
theorem dX10_nextToken_197 : decode cX10_nextToken 197 = .ok (.getfield 84, 3) := by decide +kernel
theorem dX10_nextToken_200 : decode cX10_nextToken 200 = .ok (.isub, 1) := by decide +kernel
theorem dX10_nextToken_201 : decode cX10_nextToken 201 = .ok (.bipush 9, 2) := by decide +kernel
theorem dX10_nextToken_203 : decode cX10_nextToken 203 = .ok (.if_icmp .le 9, 3) := by decide +kernel
theorem dX10_nextToken_206 : decode cX10_nextToken 206 = .ok (.ldc2_w 103, 3) := by decide +kernel
theorem dX10_nextToken_209 : decode cX10_nextToken 209 = .ok (.goto 7, 3) := by decide +kernel
theorem dX10_nextToken_212 : decode cX10_nextToken 212 = .ok (.aload_n 0, 1) := by decide +kernel
theorem dX10_nextToken_213 : decode cX10_nextToken 213 = .ok (.getfield 95, 3) := by decide +kernel
theorem dX10_nextToken_216 : decode cX10_nextToken 216 = .ok (.putfield 95, 3) := by decide +kernel
theorem dX10_nextToken_219 : decode cX10_nextToken 219 = .ok (.goto 175, 3) := by decide +kernel
theorem dX10_nextToken_222 : decode cX10_nextToken 222 = .ok (.aload_n 0, 1) := by decide +kernel
theorem dX10_nextToken_223 : decode cX10_nextToken 223 = .ok (.getfield 32, 3) := by decide +kernel
theorem dX10_nextToken_226 : decode cX10_nextToken 226 = .ok (.aload_n 0, 1) := by decide +kernel
theorem dX10_nextToken_227 : decode cX10_nextToken 227 = .ok (.getfield 81, 3) := by decide +kernel
theorem dX10_nextToken_230 : decode cX10_nextToken 230 = .ok (.iaload, 1) := by decide +kernel
theorem dX10_nextToken_231 : decode cX10_nextToken 231 = .ok (.bipush 48, 2) := by decide +kernel
theorem dX10_nextToken_233 : decode cX10_nextToken 233 = .ok (.bipush 57, 2) := by decide +kernel
theorem dX10_nextToken_235 : decode cX10_nextToken 235 = .ok (.invokestatic 72, 3) := by decide +kernel
theorem dX10_nextToken_238 : decode cX10_nextToken 238 = .ok (.ifCond .eq 119, 3) := by decide +kernel
theorem dX10_nextToken_241 : decode cX10_nextToken 241 = .ok (.aload_n 0, 1) := by decide +kernel
theorem dX10_nextToken_242 : decode cX10_nextToken 242 = .ok (.getfield 81, 3) := by decide +kernel
theorem dX10_nextToken_245 : decode cX10_nextToken 245 = .ok (.aload_n 0, 1) := by decide +kernel
theorem dX10_nextToken_246 : decode cX10_nextToken 246 = .ok (.getfield 76, 3) := by decide +kernel
theorem dX10_nextToken_249 : decode cX10_nextToken 249 = .ok (.if_icmp .ge 84, 3) := by decide +kernel
theorem dX10_nextToken_252 : decode cX10_nextToken 252 = .ok (.aload_n 0, 1) := by decide +kernel
theorem dX10_nextToken_253 : decode cX10_nextToken 253 = .ok (.getfield 32, 3) := by decide +kernel
theorem dX10_nextToken_256 : decode cX10_nextToken 256 = .ok (.aload_n 0, 1) := by decide +kernel
theorem dX10_nextToken_257 : decode cX10_nextToken 257 = .ok (.getfield 81, 3) := by decide +kernel
theorem dX10_nextToken_260 : decode cX10_nextToken 260 = .ok (.iaload, 1) := by decide +kernel
theorem dX10_nextToken_261 : decode cX10_nextToken 261 = .ok (.bipush 48, 2) := by decide +kernel
theorem dX10_nextToken_263 : decode cX10_nextToken 263 = .ok (.bipush 57, 2) := by decide +kernel
theorem dX10_nextToken_265 : decode cX10_nextToken 265 = .ok (.invokestatic 72, 3) := by decide +kernel
theorem dX10_nextToken_268 : decode cX10_nextToken 268 = .ok (.ifCond .eq 65, 3) := by decide +kernel
theorem dX10_nextToken_271 : decode cX10_nextToken 271 = .ok (.aload_n 0, 1) := by decide +kernel
theorem dX10_nextToken_272 : decode cX10_nextToken 272 = .ok (.aload_n 0, 1) := by decide +kernel
theorem dX10_nextToken_273 : decode cX10_nextToken 273 = .ok (.getfield 87, 3) := by decide +kernel
theorem dX10_nextToken_276 : decode cX10_nextToken 276 = .ok (.iconst 3, 1) := by decide +kernel
theorem dX10_nextToken_277 : decode cX10_nextToken 277 = .ok (.if_icmp .ge 26, 3) := by decide +kernel
theorem dX10_nextToken_280 : decode cX10_nextToken 280 = .ok (.bipush 10, 2) := by decide +kernel
theorem dX10_nextToken_282 : decode cX10_nextToken 282 = .ok (.aload_n 0, 1) := by decide +kernel
theorem dX10_nextToken_283 : decode cX10_nextToken 283 = .ok (.getfield 90, 3) := by decide +kernel
theorem dX10_nextToken_286 : decode cX10_nextToken 286 = .ok (.imul, 1) := by decide +kernel
theorem dX10_nextToken_287 : decode cX10_nextToken 287 = .ok (.aload_n 0, 1) := by decide +kernel
theorem dX10_nextToken_288 : decode cX10_nextToken 288 = .ok (.getfield 32, 3) := by decide +kernel
theorem dX10_nextToken_291 : decode cX10_nextToken 291 = .ok (.aload_n 0, 1) := by decide +kernel
theorem dX10_nextToken_292 : decode cX10_nextToken 292 = .ok (.getfield 81, 3) := by decide +kernel
theorem dX10_nextToken_295 : decode cX10_nextToken 295 = .ok (.iaload, 1) := by decide +kernel
theorem dX10_nextToken_296 : decode cX10_nextToken 296 = .ok (.iadd, 1) := by decide +kernel
theorem dX10_nextToken_297 : decode cX10_nextToken 297 = .ok (.bipush 48, 2) := by decide +kernel
theorem dX10_nextToken_299 : decode cX10_nextToken 299 = .ok (.isub, 1) := by decide +kernel
theorem dX10_nextToken_300 : decode cX10_nextToken 300 = .ok (.goto 7, 3) := by decide +kernel
theorem dX10_nextToken_303 : decode cX10_nextToken 303 = .ok (.aload_n 0, 1) := by decide +kernel
theorem dX10_nextToken_304 : decode cX10_nextToken 304 = .ok (.getfield 90, 3) := by decide +kernel
theorem dX10_nextToken_307 : decode cX10_nextToken 307 = .ok (.putfield 90, 3) := by decide +kernel
theorem dX10_nextToken_310 : decode cX10_nextToken 310 = .ok (.aload_n 0, 1) := by decide +kernel
theorem dX10_nextToken_311 : decode cX10_nextToken 311 = .ok (.dup, 1) := by decide +kernel
theorem dX10_nextToken_312 : decode cX10_nextToken 312 = .ok (.getfield 87, 3) := by decide +kernel
theorem dX10_nextToken_315 : decode cX10_nextToken 315 = .ok (.iconst 1, 1) := by decide +kernel
theorem dX10_nextToken_316 : decode cX10_nextToken 316 = .ok (.iadd, 1) := by decide +kernel
theorem dX10_nextToken_317 : decode cX10_nextToken 317 = .ok (.putfield 87, 3) := by decide +kernel
theorem dX10_nextToken_320 : decode cX10_nextToken 320 = .ok (.aload_n 0, 1) := by decide +kernel
theorem dX10_nextToken_321 : decode cX10_nextToken 321 = .ok (.dup, 1) := by decide +kernel
theorem dX10_nextToken_322 : decode cX10_nextToken 322 = .ok (.getfield 81, 3) := by decide +kernel
theorem dX10_nextToken_325 : decode cX10_nextToken 325 = .ok (.iconst 1, 1) := by decide +kernel
theorem dX10_nextToken_326 : decode cX10_nextToken 326 = .ok (.iadd, 1) := by decide +kernel
theorem dX10_nextToken_327 : decode cX10_nextToken 327 = .ok (.putfield 81, 3) := by decide +kernel
theorem dX10_nextToken_330 : decode cX10_nextToken 330 = .ok (.goto (-89), 3) := by decide +kernel
theorem dX10_nextToken_333 : decode cX10_nextToken 333 = .ok (.aload_n 0, 1) := by decide +kernel
theorem dX10_nextToken_334 : decode cX10_nextToken 334 = .ok (.aload_n 0, 1) := by decide +kernel
theorem dX10_nextToken_335 : decode cX10_nextToken 335 = .ok (.getfield 87, 3) := by decide +kernel
theorem dX10_nextToken_338 : decode cX10_nextToken 338 = .ok (.iconst 3, 1) := by decide +kernel
theorem dX10_nextToken_339 : decode cX10_nextToken 339 = .ok (.if_icmp .le 9, 3) := by decide +kernel
theorem dX10_nextToken_342 : decode cX10_nextToken 342 = .ok (.ldc2_w 103, 3) := by decide +kernel
theorem dX10_nextToken_345 : decode cX10_nextToken 345 = .ok (.goto 6, 3) := by decide +kernel
theorem dX10_nextToken_348 : decode cX10_nextToken 348 = .ok (.ldc2_w 105, 3) := by decide +kernel
theorem dX10_nextToken_351 : decode cX10_nextToken 351 = .ok (.putfield 95, 3) := by decide +kernel
theorem dX10_nextToken_354 : decode cX10_nextToken 354 = .ok (.goto 40, 3) := by decide +kernel
theorem dX10_nextToken_357 : decode cX10_nextToken 357 = .ok (.aload_n 0, 1) := by decide +kernel
theorem dX10_nextToken_358 : decode cX10_nextToken 358 = .ok (.aload_n 0, 1) := by decide +kernel
theorem dX10_nextToken_359 : decode cX10_nextToken 359 = .ok (.getfield 32, 3) := by decide +kernel
theorem dX10_nextToken_362 : decode cX10_nextToken 362 = .ok (.aload_n 0, 1) := by decide +kernel
theorem dX10_nextToken_363 : decode cX10_nextToken 363 = .ok (.getfield 81, 3) := by decide +kernel
theorem dX10_nextToken_366 : decode cX10_nextToken 366 = .ok (.iaload, 1) := by decide +kernel
theorem dX10_nextToken_367 : decode cX10_nextToken 367 = .ok (.bipush 59, 2) := by decide +kernel
theorem dX10_nextToken_369 : decode cX10_nextToken 369 = .ok (.if_icmp .ne 9, 3) := by decide +kernel
theorem dX10_nextToken_372 : decode cX10_nextToken 372 = .ok (.ldc2_w 107, 3) := by decide +kernel
theorem dX10_nextToken_375 : decode cX10_nextToken 375 = .ok (.goto 6, 3) := by decide +kernel
theorem dX10_nextToken_378 : decode cX10_nextToken 378 = .ok (.ldc2_w 103, 3) := by decide +kernel
theorem dX10_nextToken_381 : decode cX10_nextToken 381 = .ok (.putfield 95, 3) := by decide +kernel
theorem dX10_nextToken_384 : decode cX10_nextToken 384 = .ok (.aload_n 0, 1) := by decide +kernel
theorem dX10_nextToken_385 : decode cX10_nextToken 385 = .ok (.dup, 1) := by decide +kernel
theorem dX10_nextToken_386 : decode cX10_nextToken 386 = .ok (.getfield 81, 3) := by decide +kernel
theorem dX10_nextToken_389 : decode cX10_nextToken 389 = .ok (.iconst 1, 1) := by decide +kernel
theorem dX10_nextToken_390 : decode cX10_nextToken 390 = .ok (.iadd, 1) := by decide +kernel
theorem dX10_nextToken_391 : decode cX10_nextToken 391 = .ok (.putfield 81, 3) := by decide +kernel
theorem dX10_nextToken_394 : decode cX10_nextToken 394 = .ok (.return_, 1) := by decide +kernel
theorem dX10_fails_0 : decode cX10_fails 0 = .ok (.aload_n 0, 1) := by decide +kernel
theorem dX10_fails_1 : decode cX10_fails 1 = .ok (.aload_n 0, 1) := by decide +kernel
theorem dX10_fails_2 : decode cX10_fails 2 = .ok (.getfield 84, 3) := by decide +kernel
theorem dX10_fails_5 : decode cX10_fails 5 = .ok (.putfield 109, 3) := by decide +kernel
theorem dX10_fails_8 : decode cX10_fails 8 = .ok (.iconst 0, 1) := by decide +kernel
theorem dX10_fails_9 : decode cX10_fails 9 = .ok (.ireturn, 1) := by decide +kernel
theorem dX10_isNumber_0 : decode cX10_isNumber 0 = .ok (.aload_n 0, 1) := by decide +kernel
theorem dX10_isNumber_1 : decode cX10_isNumber 1 = .ok (.invokevirtual 112, 3) := by decide +kernel
theorem dX10_isNumber_4 : decode cX10_isNumber 4 = .ok (.aload_n 0, 1) := by decide +kernel
theorem dX10_isNumber_5 : decode cX10_isNumber 5 = .ok (.getfield 95, 3) := by decide +kernel
theorem dX10_isNumber_8 : decode cX10_isNumber 8 = .ok (.ldc2_w 105, 3) := by decide +kernel
theorem dX10_isNumber_11 : decode cX10_isNumber 11 = .ok (.lcmp, 1) := by decide +kernel
theorem dX10_isNumber_12 : decode cX10_isNumber 12 = .ok (.ifCond .ne 15, 3) := by decide +kernel
theorem dX10_isNumber_15 : decode cX10_isNumber 15 = .ok (.aload_n 0, 1) := by decide +kernel
theorem dX10_isNumber_16 : decode cX10_isNumber 16 = .ok (.getfield 90, 3) := by decide +kernel
theorem dX10_isNumber_19 : decode cX10_isNumber 19 = .ok (.iload_n 2, 1) := by decide +kernel
theorem dX10_isNumber_20 : decode cX10_isNumber 20 = .ok (.iload_n 3, 1) := by decide +kernel
theorem dX10_isNumber_21 : decode cX10_isNumber 21 = .ok (.invokestatic 72, 3) := by decide +kernel
theorem dX10_isNumber_24 : decode cX10_isNumber 24 = .ok (.ifCond .ne 8, 3) := by decide +kernel
theorem dX10_isNumber_27 : decode cX10_isNumber 27 = .ok (.aload_n 0, 1) := by decide +kernel
theorem dX10_isNumber_28 : decode cX10_isNumber 28 = .ok (.invokevirtual 115, 3) := by decide +kernel
theorem dX10_isNumber_31 : decode cX10_isNumber 31 = .ok (.ireturn, 1) := by decide +kernel
theorem dX10_isNumber_32 : decode cX10_isNumber 32 = .ok (.aload_n 0, 1) := by decide +kernel
theorem dX10_isNumber_33 : decode cX10_isNumber 33 = .ok (.getfield 35, 3) := by decide +kernel
theorem dX10_isNumber_36 : decode cX10_isNumber 36 = .ok (.iload_n 1, 1) := by decide +kernel
theorem dX10_isNumber_37 : decode cX10_isNumber 37 = .ok (.aload_n 0, 1) := by decide +kernel
theorem dX10_isNumber_38 : decode cX10_isNumber 38 = .ok (.getfield 90, 3) := by decide +kernel
theorem dX10_isNumber_41 : decode cX10_isNumber 41 = .ok (.iastore, 1) := by decide +kernel
theorem dX10_isNumber_42 : decode cX10_isNumber 42 = .ok (.iconst 1, 1) := by decide +kernel
theorem dX10_isNumber_43 : decode cX10_isNumber 43 = .ok (.ireturn, 1) := by decide +kernel
theorem dX10_isMood_0 : decode cX10_isMood 0 = .ok (.aload_n 0, 1) := by decide +kernel
theorem dX10_isMood_1 : decode cX10_isMood 1 = .ok (.iload_n 1, 1) := by decide +kernel
theorem dX10_isMood_2 : decode cX10_isMood 2 = .ok (.iconst 1, 1) := by decide +kernel
theorem dX10_isMood_3 : decode cX10_isMood 3 = .ok (.iadd, 1) := by decide +kernel
theorem dX10_isMood_4 : decode cX10_isMood 4 = .ok (.iconst 0, 1) := by decide +kernel
theorem dX10_isMood_5 : decode cX10_isMood 5 = .ok (.iconst 3, 1) := by decide +kernel
theorem dX10_isMood_6 : decode cX10_isMood 6 = .ok (.invokevirtual 119, 3) := by decide +kernel
theorem dX10_isMood_9 : decode cX10_isMood 9 = .ok (.ifCond .ne 5, 3) := by decide +kernel
theorem dX10_isMood_12 : decode cX10_isMood 12 = .ok (.iconst 0, 1) := by decide +kernel
theorem dX10_isMood_13 : decode cX10_isMood 13 = .ok (.ireturn, 1) := by decide +kernel
theorem dX10_isMood_14 : decode cX10_isMood 14 = .ok (.iconst 0, 1) := by decide +kernel
theorem dX10_isMood_15 : decode cX10_isMood 15 = .ok (.istore_n 2, 1) := by decide +kernel
theorem dX10_isMood_16 : decode cX10_isMood 16 = .ok (.iconst 0, 1) := by decide +kernel
theorem dX10_isMood_17 : decode cX10_isMood 17 = .ok (.istore_n 3, 1) := by decide +kernel
theorem dX10_isMood_18 : decode cX10_isMood 18 = .ok (.iload_n 2, 1) := by decide +kernel
theorem dX10_isMood_19 : decode cX10_isMood 19 = .ok (.bipush 10, 2) := by decide +kernel
theorem dX10_isMood_21 : decode cX10_isMood 21 = .ok (.if_icmp .ge 85, 3) := by decide +kernel
theorem dX10_isMood_24 : decode cX10_isMood 24 = .ok (.iload_n 1, 1) := by decide +kernel
theorem dX10_isMood_25 : decode cX10_isMood 25 = .ok (.iconst 3, 1) := by decide +kernel
theorem dX10_isMood_26 : decode cX10_isMood 26 = .ok (.iadd, 1) := by decide +kernel
theorem dX10_isMood_27 : decode cX10_isMood 27 = .ok (.iconst 3, 1) := by decide +kernel
theorem dX10_isMood_28 : decode cX10_isMood 28 = .ok (.iload_n 3, 1) := by decide +kernel
theorem dX10_isMood_29 : decode cX10_isMood 29 = .ok (.imul, 1) := by decide +kernel
theorem dX10_isMood_30 : decode cX10_isMood 30 = .ok (.iadd, 1) := by decide +kernel
theorem dX10_isMood_31 : decode cX10_isMood 31 = .ok (.istore 4, 2) := by decide +kernel
theorem dX10_isMood_33 : decode cX10_isMood 33 = .ok (.aload_n 0, 1) := by decide +kernel
theorem dX10_isMood_34 : decode cX10_isMood 34 = .ok (.iload 4, 2) := by decide +kernel
theorem dX10_isMood_36 : decode cX10_isMood 36 = .ok (.iconst 0, 1) := by decide +kernel
theorem dX10_isMood_37 : decode cX10_isMood 37 = .ok (.bipush 36, 2) := by decide +kernel
theorem dX10_isMood_39 : decode cX10_isMood 39 = .ok (.invokevirtual 119, 3) := by decide +kernel
theorem dX10_isMood_42 : decode cX10_isMood 42 = .ok (.ifCond .eq 44, 3) := by decide +kernel
theorem dX10_isMood_45 : decode cX10_isMood 45 = .ok (.aload_n 0, 1) := by decide +kernel
theorem dX10_isMood_46 : decode cX10_isMood 46 = .ok (.iload 4, 2) := by decide +kernel
theorem dX10_isMood_48 : decode cX10_isMood 48 = .ok (.iconst 1, 1) := by decide +kernel
theorem dX10_isMood_49 : decode cX10_isMood 49 = .ok (.iadd, 1) := by decide +kernel
theorem dX10_isMood_50 : decode cX10_isMood 50 = .ok (.iconst 0, 1) := by decide +kernel
theorem dX10_isMood_51 : decode cX10_isMood 51 = .ok (.iconst 3, 1) := by decide +kernel
theorem dX10_isMood_52 : decode cX10_isMood 52 = .ok (.invokevirtual 119, 3) := by decide +kernel
theorem dX10_isMood_55 : decode cX10_isMood 55 = .ok (.ifCond .eq 31, 3) := by decide +kernel
theorem dX10_isMood_58 : decode cX10_isMood 58 = .ok (.aload_n 0, 1) := by decide +kernel
theorem dX10_isMood_59 : decode cX10_isMood 59 = .ok (.iload 4, 2) := by decide +kernel
theorem dX10_isMood_61 : decode cX10_isMood 61 = .ok (.iconst 2, 1) := by decide +kernel
theorem dX10_isMood_62 : decode cX10_isMood 62 = .ok (.iadd, 1) := by decide +kernel
theorem dX10_isMood_63 : decode cX10_isMood 63 = .ok (.iload_n 3, 1) := by decide +kernel
theorem dX10_isMood_64 : decode cX10_isMood 64 = .ok (.iconst 3, 1) := by decide +kernel
theorem dX10_isMood_65 : decode cX10_isMood 65 = .ok (.if_icmp .ne 10, 3) := by decide +kernel
theorem dX10_isMood_68 : decode cX10_isMood 68 = .ok (.bipush 10, 2) := by decide +kernel
theorem dX10_isMood_70 : decode cX10_isMood 70 = .ok (.iload_n 2, 1) := by decide +kernel
theorem dX10_isMood_71 : decode cX10_isMood 71 = .ok (.isub, 1) := by decide +kernel
theorem dX10_isMood_72 : decode cX10_isMood 72 = .ok (.goto 4, 3) := by decide +kernel
theorem dX10_isMood_75 : decode cX10_isMood 75 = .ok (.iconst 1, 1) := by decide +kernel
theorem dX10_isMood_76 : decode cX10_isMood 76 = .ok (.bipush 10, 2) := by decide +kernel
theorem dX10_isMood_78 : decode cX10_isMood 78 = .ok (.iload_n 2, 1) := by decide +kernel
theorem dX10_isMood_79 : decode cX10_isMood 79 = .ok (.isub, 1) := by decide +kernel
theorem dX10_isMood_80 : decode cX10_isMood 80 = .ok (.invokevirtual 119, 3) := by decide +kernel
theorem dX10_isMood_83 : decode cX10_isMood 83 = .ok (.ifCond .ne 5, 3) := by decide +kernel
theorem dX10_isMood_86 : decode cX10_isMood 86 = .ok (.iconst 0, 1) := by decide +kernel
theorem dX10_isMood_87 : decode cX10_isMood 87 = .ok (.ireturn, 1) := by decide +kernel
theorem dX10_isMood_88 : decode cX10_isMood 88 = .ok (.iload_n 2, 1) := by decide +kernel
theorem dX10_isMood_89 : decode cX10_isMood 89 = .ok (.aload_n 0, 1) := by decide +kernel
theorem dX10_isMood_90 : decode cX10_isMood 90 = .ok (.getfield 35, 3) := by decide +kernel
theorem dX10_isMood_93 : decode cX10_isMood 93 = .ok (.iload 4, 2) := by decide +kernel
theorem dX10_isMood_95 : decode cX10_isMood 95 = .ok (.iconst 2, 1) := by decide +kernel
theorem dX10_isMood_96 : decode cX10_isMood 96 = .ok (.iadd, 1) := by decide +kernel
theorem dX10_isMood_97 : decode cX10_isMood 97 = .ok (.iaload, 1) := by decide +kernel
theorem dX10_isMood_98 : decode cX10_isMood 98 = .ok (.iadd, 1) := by decide +kernel
theorem dX10_isMood_99 : decode cX10_isMood 99 = .ok (.istore_n 2, 1) := by decide +kernel
theorem dX10_isMood_100 : decode cX10_isMood 100 = .ok (.iinc 3 1, 3) := by decide +kernel
theorem dX10_isMood_103 : decode cX10_isMood 103 = .ok (.goto (-85), 3) := by decide +kernel
theorem dX10_isMood_106 : decode cX10_isMood 106 = .ok (.aload_n 0, 1) := by decide +kernel
theorem dX10_isMood_107 : decode cX10_isMood 107 = .ok (.getfield 35, 3) := by decide +kernel
theorem dX10_isMood_110 : decode cX10_isMood 110 = .ok (.iload_n 1, 1) := by decide +kernel
theorem dX10_isMood_111 : decode cX10_isMood 111 = .ok (.iconst 2, 1) := by decide +kernel
theorem dX10_isMood_112 : decode cX10_isMood 112 = .ok (.iadd, 1) := by decide +kernel
theorem dX10_isMood_113 : decode cX10_isMood 113 = .ok (.iload_n 3, 1) := by decide +kernel
theorem dX10_isMood_114 : decode cX10_isMood 114 = .ok (.iastore, 1) := by decide +kernel
theorem dX10_isMood_115 : decode cX10_isMood 115 = .ok (.iconst 1, 1) := by decide +kernel
theorem dX10_isMood_116 : decode cX10_isMood 116 = .ok (.ireturn, 1) := by decide +kernel
theorem dX10_isLine_0 : decode cX10_isLine 0 = .ok (.aload_n 0, 1) := by decide +kernel
theorem dX10_isLine_1 : decode cX10_isLine 1 = .ok (.invokevirtual 112, 3) := by decide +kernel
theorem dX10_isLine_4 : decode cX10_isLine 4 = .ok (.aload_n 0, 1) := by decide +kernel
theorem dX10_isLine_5 : decode cX10_isLine 5 = .ok (.getfield 35, 3) := by decide +kernel
theorem dX10_isLine_8 : decode cX10_isLine 8 = .ok (.iload_n 1, 1) := by decide +kernel
theorem dX10_isLine_9 : decode cX10_isLine 9 = .ok (.aload_n 0, 1) := by decide +kernel
theorem dX10_isLine_10 : decode cX10_isLine 10 = .ok (.getfield 95, 3) := by decide +kernel
theorem dX10_isLine_13 : decode cX10_isLine 13 = .ok (.ldc2_w 122, 3) := by decide +kernel
theorem dX10_isLine_16 : decode cX10_isLine 16 = .ok (.lcmp, 1) := by decide +kernel
theorem dX10_isLine_17 : decode cX10_isLine 17 = .ok (.ifCond .ne 7, 3) := by decide +kernel
theorem dX10_isLine_20 : decode cX10_isLine 20 = .ok (.iconst 0, 1) := by decide +kernel
theorem dX10_isLine_21 : decode cX10_isLine 21 = .ok (.goto 79, 3) := by decide +kernel
theorem dX10_isLine_24 : decode cX10_isLine 24 = .ok (.aload_n 0, 1) := by decide +kernel
theorem dX10_isLine_25 : decode cX10_isLine 25 = .ok (.getfield 95, 3) := by decide +kernel
theorem dX10_isLine_28 : decode cX10_isLine 28 = .ok (.ldc2_w 124, 3) := by decide +kernel
theorem dX10_isLine_31 : decode cX10_isLine 31 = .ok (.lcmp, 1) := by decide +kernel
theorem dX10_isLine_32 : decode cX10_isLine 32 = .ok (.ifCond .ne 7, 3) := by decide +kernel
theorem dX10_isLine_35 : decode cX10_isLine 35 = .ok (.iconst 1, 1) := by decide +kernel
theorem dX10_isLine_36 : decode cX10_isLine 36 = .ok (.goto 64, 3) := by decide +kernel
theorem dX10_isLine_39 : decode cX10_isLine 39 = .ok (.aload_n 0, 1) := by decide +kernel
theorem dX10_isLine_40 : decode cX10_isLine 40 = .ok (.getfield 95, 3) := by decide +kernel
theorem dX10_isLine_43 : decode cX10_isLine 43 = .ok (.ldc2_w 126, 3) := by decide +kernel
theorem dX10_isLine_46 : decode cX10_isLine 46 = .ok (.lcmp, 1) := by decide +kernel
theorem dX10_isLine_47 : decode cX10_isLine 47 = .ok (.ifCond .ne 7, 3) := by decide +kernel
theorem dX10_isLine_50 : decode cX10_isLine 50 = .ok (.iconst 2, 1) := by decide +kernel
theorem dX10_isLine_51 : decode cX10_isLine 51 = .ok (.goto 49, 3) := by decide +kernel
theorem dX10_isLine_54 : decode cX10_isLine 54 = .ok (.aload_n 0, 1) := by decide +kernel
theorem dX10_isLine_55 : decode cX10_isLine 55 = .ok (.getfield 95, 3) := by decide +kernel
theorem dX10_isLine_58 : decode cX10_isLine 58 = .ok (.ldc2_w 128, 3) := by decide +kernel
theorem dX10_isLine_61 : decode cX10_isLine 61 = .ok (.lcmp, 1) := by decide +kernel
theorem dX10_isLine_62 : decode cX10_isLine 62 = .ok (.ifCond .ne 7, 3) := by decide +kernel
theorem dX10_isLine_65 : decode cX10_isLine 65 = .ok (.iconst 3, 1) := by decide +kernel
theorem dX10_isLine_66 : decode cX10_isLine 66 = .ok (.goto 34, 3) := by decide +kernel
theorem dX10_isLine_69 : decode cX10_isLine 69 = .ok (.aload_n 0, 1) := by decide +kernel
theorem dX10_isLine_70 : decode cX10_isLine 70 = .ok (.getfield 95, 3) := by decide +kernel
theorem dX10_isLine_73 : decode cX10_isLine 73 = .ok (.ldc2_w 130, 3) := by decide +kernel
theorem dX10_isLine_76 : decode cX10_isLine 76 = .ok (.lcmp, 1) := by decide +kernel
theorem dX10_isLine_77 : decode cX10_isLine 77 = .ok (.ifCond .ne 7, 3) := by decide +kernel
theorem dX10_isLine_80 : decode cX10_isLine 80 = .ok (.iconst 4, 1) := by decide +kernel
theorem dX10_isLine_81 : decode cX10_isLine 81 = .ok (.goto 19, 3) := by decide +kernel
theorem dX10_isLine_84 : decode cX10_isLine 84 = .ok (.aload_n 0, 1) := by decide +kernel
theorem dX10_isLine_85 : decode cX10_isLine 85 = .ok (.getfield 95, 3) := by decide +kernel
theorem dX10_isLine_88 : decode cX10_isLine 88 = .ok (.ldc2_w 132, 3) := by decide +kernel
theorem dX10_isLine_91 : decode cX10_isLine 91 = .ok (.lcmp, 1) := by decide +kernel
theorem dX10_isLine_92 : decode cX10_isLine 92 = .ok (.ifCond .ne 7, 3) := by decide +kernel
theorem dX10_isLine_95 : decode cX10_isLine 95 = .ok (.iconst 5, 1) := by decide +kernel
theorem dX10_isLine_96 : decode cX10_isLine 96 = .ok (.goto 4, 3) := by decide +kernel
theorem dX10_isLine_99 : decode cX10_isLine 99 = .ok (.iconst (-1), 1) := by decide +kernel
theorem dX10_isLine_100 : decode cX10_isLine 100 = .ok (.iastore, 1) := by decide +kernel
theorem dX10_isLine_101 : decode cX10_isLine 101 = .ok (.aload_n 0, 1) := by decide +kernel
theorem dX10_isLine_102 : decode cX10_isLine 102 = .ok (.getfield 35, 3) := by decide +kernel
theorem dX10_isLine_105 : decode cX10_isLine 105 = .ok (.iload_n 1, 1) := by decide +kernel
theorem dX10_isLine_106 : decode cX10_isLine 106 = .ok (.iaload, 1) := by decide +kernel
theorem dX10_isLine_107 : decode cX10_isLine 107 = .ok (.tableswitch 142 0 5 #[37, 48, 59, 65, 99, 131], 37) := by decide +kernel
theorem dX10_isLine_144 : decode cX10_isLine 144 = .ok (.aload_n 0, 1) := by decide +kernel
theorem dX10_isLine_145 : decode cX10_isLine 145 = .ok (.iload_n 1, 1) := by decide +kernel
theorem dX10_isLine_146 : decode cX10_isLine 146 = .ok (.iconst 1, 1) := by decide +kernel
theorem dX10_isLine_147 : decode cX10_isLine 147 = .ok (.iadd, 1) := by decide +kernel
theorem dX10_isLine_148 : decode cX10_isLine 148 = .ok (.iconst 1, 1) := by decide +kernel
theorem dX10_isLine_149 : decode cX10_isLine 149 = .ok (.bipush 12, 2) := by decide +kernel
theorem dX10_isLine_151 : decode cX10_isLine 151 = .ok (.invokevirtual 119, 3) := by decide +kernel
theorem dX10_isLine_154 : decode cX10_isLine 154 = .ok (.ireturn, 1) := by decide +kernel
theorem dX10_isLine_155 : decode cX10_isLine 155 = .ok (.aload_n 0, 1) := by decide +kernel
theorem dX10_isLine_156 : decode cX10_isLine 156 = .ok (.iload_n 1, 1) := by decide +kernel
theorem dX10_isLine_157 : decode cX10_isLine 157 = .ok (.iconst 1, 1) := by decide +kernel
theorem dX10_isLine_158 : decode cX10_isLine 158 = .ok (.iadd, 1) := by decide +kernel
theorem dX10_isLine_159 : decode cX10_isLine 159 = .ok (.iconst 1, 1) := by decide +kernel
theorem dX10_isLine_160 : decode cX10_isLine 160 = .ok (.bipush 10, 2) := by decide +kernel
theorem dX10_isLine_162 : decode cX10_isLine 162 = .ok (.invokevirtual 119, 3) := by decide +kernel
theorem dX10_isLine_165 : decode cX10_isLine 165 = .ok (.ireturn, 1) := by decide +kernel
theorem dX10_isLine_166 : decode cX10_isLine 166 = .ok (.aload_n 0, 1) := by decide +kernel
theorem dX10_isLine_167 : decode cX10_isLine 167 = .ok (.iload_n 1, 1) := by decide +kernel
theorem dX10_isLine_168 : decode cX10_isLine 168 = .ok (.invokevirtual 134, 3) := by decide +kernel
theorem dX10_isLine_171 : decode cX10_isLine 171 = .ok (.ireturn, 1) := by decide +kernel
theorem dX10_isLine_172 : decode cX10_isLine 172 = .ok (.aload_n 0, 1) := by decide +kernel
theorem dX10_isLine_173 : decode cX10_isLine 173 = .ok (.iload_n 1, 1) := by decide +kernel
theorem dX10_isLine_174 : decode cX10_isLine 174 = .ok (.iconst 1, 1) := by decide +kernel
theorem dX10_isLine_175 : decode cX10_isLine 175 = .ok (.iadd, 1) := by decide +kernel
theorem dX10_isLine_176 : decode cX10_isLine 176 = .ok (.iconst 0, 1) := by decide +kernel
theorem dX10_isLine_177 : decode cX10_isLine 177 = .ok (.sipush 400, 3) := by decide +kernel
theorem dX10_isLine_180 : decode cX10_isLine 180 = .ok (.invokevirtual 119, 3) := by decide +kernel
theorem dX10_isLine_183 : decode cX10_isLine 183 = .ok (.ifCond .eq 21, 3) := by decide +kernel
theorem dX10_isLine_186 : decode cX10_isLine 186 = .ok (.aload_n 0, 1) := by decide +kernel
theorem dX10_isLine_187 : decode cX10_isLine 187 = .ok (.iload_n 1, 1) := by decide +kernel
theorem dX10_isLine_188 : decode cX10_isLine 188 = .ok (.iconst 2, 1) := by decide +kernel
theorem dX10_isLine_189 : decode cX10_isLine 189 = .ok (.iadd, 1) := by decide +kernel
theorem dX10_isLine_190 : decode cX10_isLine 190 = .ok (.iconst 1, 1) := by decide +kernel
theorem dX10_isLine_191 : decode cX10_isLine 191 = .ok (.sipush 300, 3) := by decide +kernel
theorem dX10_isLine_194 : decode cX10_isLine 194 = .ok (.invokevirtual 119, 3) := by decide +kernel
theorem dX10_isLine_197 : decode cX10_isLine 197 = .ok (.ifCond .eq 7, 3) := by decide +kernel
theorem dX10_isLine_200 : decode cX10_isLine 200 = .ok (.iconst 1, 1) := by decide +kernel
theorem dX10_isLine_201 : decode cX10_isLine 201 = .ok (.goto 4, 3) := by decide +kernel
theorem dX10_isLine_204 : decode cX10_isLine 204 = .ok (.iconst 0, 1) := by decide +kernel
theorem dX10_isLine_205 : decode cX10_isLine 205 = .ok (.ireturn, 1) := by decide +kernel
theorem dX10_isLine_206 : decode cX10_isLine 206 = .ok (.aload_n 0, 1) := by decide +kernel
theorem dX10_isLine_207 : decode cX10_isLine 207 = .ok (.iload_n 1, 1) := by decide +kernel
theorem dX10_isLine_208 : decode cX10_isLine 208 = .ok (.iconst 1, 1) := by decide +kernel
theorem dX10_isLine_209 : decode cX10_isLine 209 = .ok (.iadd, 1) := by decide +kernel
theorem dX10_isLine_210 : decode cX10_isLine 210 = .ok (.iconst 0, 1) := by decide +kernel
theorem dX10_isLine_211 : decode cX10_isLine 211 = .ok (.bipush 10, 2) := by decide +kernel
theorem dX10_isLine_213 : decode cX10_isLine 213 = .ok (.invokevirtual 119, 3) := by decide +kernel
theorem dX10_isLine_216 : decode cX10_isLine 216 = .ok (.ifCond .eq 20, 3) := by decide +kernel
theorem dX10_isLine_219 : decode cX10_isLine 219 = .ok (.aload_n 0, 1) := by decide +kernel
theorem dX10_isLine_220 : decode cX10_isLine 220 = .ok (.iload_n 1, 1) := by decide +kernel
theorem dX10_isLine_221 : decode cX10_isLine 221 = .ok (.iconst 2, 1) := by decide +kernel
theorem dX10_isLine_222 : decode cX10_isLine 222 = .ok (.iadd, 1) := by decide +kernel
theorem dX10_isLine_223 : decode cX10_isLine 223 = .ok (.iconst 0, 1) := by decide +kernel
theorem dX10_isLine_224 : decode cX10_isLine 224 = .ok (.bipush 12, 2) := by decide +kernel
theorem dX10_isLine_226 : decode cX10_isLine 226 = .ok (.invokevirtual 119, 3) := by decide +kernel
theorem dX10_isLine_229 : decode cX10_isLine 229 = .ok (.ifCond .eq 7, 3) := by decide +kernel
theorem dX10_isLine_232 : decode cX10_isLine 232 = .ok (.iconst 1, 1) := by decide +kernel
theorem dX10_isLine_233 : decode cX10_isLine 233 = .ok (.goto 4, 3) := by decide +kernel
theorem dX10_isLine_236 : decode cX10_isLine 236 = .ok (.iconst 0, 1) := by decide +kernel
theorem dX10_isLine_237 : decode cX10_isLine 237 = .ok (.ireturn, 1) := by decide +kernel
theorem dX10_isLine_238 : decode cX10_isLine 238 = .ok (.aload_n 0, 1) := by decide +kernel
theorem dX10_isLine_239 : decode cX10_isLine 239 = .ok (.iload_n 1, 1) := by decide +kernel
theorem dX10_isLine_240 : decode cX10_isLine 240 = .ok (.iconst 1, 1) := by decide +kernel
theorem dX10_isLine_241 : decode cX10_isLine 241 = .ok (.iadd, 1) := by decide +kernel
theorem dX10_isLine_242 : decode cX10_isLine 242 = .ok (.iconst 0, 1) := by decide +kernel
theorem dX10_isLine_243 : decode cX10_isLine 243 = .ok (.bipush 99, 2) := by decide +kernel
theorem dX10_isLine_245 : decode cX10_isLine 245 = .ok (.invokevirtual 119, 3) := by decide +kernel
theorem dX10_isLine_248 : decode cX10_isLine 248 = .ok (.ireturn, 1) := by decide +kernel
theorem dX10_isLine_249 : decode cX10_isLine 249 = .ok (.aload_n 0, 1) := by decide +kernel
theorem dX10_isLine_250 : decode cX10_isLine 250 = .ok (.invokevirtual 115, 3) := by decide +kernel
theorem dX10_isLine_253 : decode cX10_isLine 253 = .ok (.ireturn, 1) := by decide +kernel
theorem dX10_isRead_0 : decode cX10_isRead 0 = .ok (.aload_n 0, 1) := by decide +kernel
theorem dX10_isRead_1 : decode cX10_isRead 1 = .ok (.iconst 0, 1) := by decide +kernel
theorem dX10_isRead_2 : decode cX10_isRead 2 = .ok (.putfield 81, 3) := by decide +kernel
theorem dX10_isRead_5 : decode cX10_isRead 5 = .ok (.aload_n 0, 1) := by decide +kernel
theorem dX10_isRead_6 : decode cX10_isRead 6 = .ok (.iconst 0, 1) := by decide +kernel
theorem dX10_isRead_7 : decode cX10_isRead 7 = .ok (.putfield 138, 3) := by decide +kernel
theorem dX10_isRead_10 : decode cX10_isRead 10 = .ok (.iconst 1, 1) := by decide +kernel
theorem dX10_isRead_11 : decode cX10_isRead 11 = .ok (.istore_n 1, 1) := by decide +kernel
theorem dX10_isRead_12 : decode cX10_isRead 12 = .ok (.iload_n 1, 1) := by decide +kernel
theorem dX10_isRead_13 : decode cX10_isRead 13 = .ok (.ifCond .eq 62, 3) := by decide +kernel
theorem dX10_isRead_16 : decode cX10_isRead 16 = .ok (.aload_n 0, 1) := by decide +kernel
theorem dX10_isRead_17 : decode cX10_isRead 17 = .ok (.bipush 15, 2) := by decide +kernel
theorem dX10_isRead_19 : decode cX10_isRead 19 = .ok (.aload_n 0, 1) := by decide +kernel
theorem dX10_isRead_20 : decode cX10_isRead 20 = .ok (.getfield 138, 3) := by decide +kernel
theorem dX10_isRead_23 : decode cX10_isRead 23 = .ok (.imul, 1) := by decide +kernel
theorem dX10_isRead_24 : decode cX10_isRead 24 = .ok (.invokevirtual 141, 3) := by decide +kernel
theorem dX10_isRead_27 : decode cX10_isRead 27 = .ok (.ifCond .ne 5, 3) := by decide +kernel
theorem dX10_isRead_30 : decode cX10_isRead 30 = .ok (.iconst 0, 1) := by decide +kernel
theorem dX10_isRead_31 : decode cX10_isRead 31 = .ok (.ireturn, 1) := by decide +kernel
theorem dX10_isRead_32 : decode cX10_isRead 32 = .ok (.aload_n 0, 1) := by decide +kernel
theorem dX10_isRead_33 : decode cX10_isRead 33 = .ok (.dup, 1) := by decide +kernel
theorem dX10_isRead_34 : decode cX10_isRead 34 = .ok (.getfield 138, 3) := by decide +kernel
theorem dX10_isRead_37 : decode cX10_isRead 37 = .ok (.iconst 1, 1) := by decide +kernel
theorem dX10_isRead_38 : decode cX10_isRead 38 = .ok (.iadd, 1) := by decide +kernel
theorem dX10_isRead_39 : decode cX10_isRead 39 = .ok (.putfield 138, 3) := by decide +kernel
theorem dX10_isRead_42 : decode cX10_isRead 42 = .ok (.aload_n 0, 1) := by decide +kernel
theorem dX10_isRead_43 : decode cX10_isRead 43 = .ok (.invokevirtual 112, 3) := by decide +kernel
theorem dX10_isRead_46 : decode cX10_isRead 46 = .ok (.aload_n 0, 1) := by decide +kernel
theorem dX10_isRead_47 : decode cX10_isRead 47 = .ok (.getfield 95, 3) := by decide +kernel
theorem dX10_isRead_50 : decode cX10_isRead 50 = .ok (.ldc2_w 107, 3) := by decide +kernel
theorem dX10_isRead_53 : decode cX10_isRead 53 = .ok (.lcmp, 1) := by decide +kernel
theorem dX10_isRead_54 : decode cX10_isRead 54 = .ok (.ifCond .ne 16, 3) := by decide +kernel
theorem dX10_isRead_57 : decode cX10_isRead 57 = .ok (.aload_n 0, 1) := by decide +kernel
theorem dX10_isRead_58 : decode cX10_isRead 58 = .ok (.getfield 138, 3) := by decide +kernel
theorem dX10_isRead_61 : decode cX10_isRead 61 = .ok (.bipush 8, 2) := by decide +kernel
theorem dX10_isRead_63 : decode cX10_isRead 63 = .ok (.if_icmp .ge 7, 3) := by decide +kernel
theorem dX10_isRead_66 : decode cX10_isRead 66 = .ok (.iconst 1, 1) := by decide +kernel
theorem dX10_isRead_67 : decode cX10_isRead 67 = .ok (.goto 4, 3) := by decide +kernel
theorem dX10_isRead_70 : decode cX10_isRead 70 = .ok (.iconst 0, 1) := by decide +kernel
theorem dX10_isRead_71 : decode cX10_isRead 71 = .ok (.istore_n 1, 1) := by decide +kernel
theorem dX10_isRead_72 : decode cX10_isRead 72 = .ok (.goto (-60), 3) := by decide +kernel
theorem dX10_isRead_75 : decode cX10_isRead 75 = .ok (.aload_n 0, 1) := by decide +kernel
theorem dX10_isRead_76 : decode cX10_isRead 76 = .ok (.getfield 95, 3) := by decide +kernel
theorem dX10_isRead_79 : decode cX10_isRead 79 = .ok (.ldc2_w 93, 3) := by decide +kernel
theorem dX10_isRead_82 : decode cX10_isRead 82 = .ok (.lcmp, 1) := by decide +kernel
theorem dX10_isRead_83 : decode cX10_isRead 83 = .ok (.ifCond .eq 10, 3) := by decide +kernel
theorem dX10_isRead_86 : decode cX10_isRead 86 = .ok (.aload_n 0, 1) := by decide +kernel
theorem dX10_isRead_87 : decode cX10_isRead 87 = .ok (.invokevirtual 115, 3) := by decide +kernel
theorem dX10_isRead_90 : decode cX10_isRead 90 = .ok (.ifCond .eq 7, 3) := by decide +kernel
theorem dX10_isRead_93 : decode cX10_isRead 93 = .ok (.iconst 1, 1) := by decide +kernel
theorem dX10_isRead_94 : decode cX10_isRead 94 = .ok (.goto 4, 3) := by decide +kernel
theorem dX10_isRead_97 : decode cX10_isRead 97 = .ok (.iconst 0, 1) := by decide +kernel
theorem dX10_isRead_98 : decode cX10_isRead 98 = .ok (.ireturn, 1) := by decide +kernel
theorem dX10_fault_0 : decode cX10_fault 0 = .ok (.aload_n 0, 1) := by decide +kernel
theorem dX10_fault_1 : decode cX10_fault 1 = .ok (.invokevirtual 144, 3) := by decide +kernel
theorem dX10_fault_4 : decode cX10_fault 4 = .ok (.ifCond .eq 7, 3) := by decide +kernel
theorem dX10_fault_7 : decode cX10_fault 7 = .ok (.iconst (-1), 1) := by decide +kernel
theorem dX10_fault_8 : decode cX10_fault 8 = .ok (.goto 7, 3) := by decide +kernel
theorem dX10_fault_11 : decode cX10_fault 11 = .ok (.aload_n 0, 1) := by decide +kernel
theorem dX10_fault_12 : decode cX10_fault 12 = .ok (.getfield 109, 3) := by decide +kernel
theorem dX10_fault_15 : decode cX10_fault 15 = .ok (.ireturn, 1) := by decide +kernel
theorem dX10_doLine_0 : decode cX10_doLine 0 = .ok (.aload_n 0, 1) := by decide +kernel
theorem dX10_doLine_1 : decode cX10_doLine 1 = .ok (.getfield 35, 3) := by decide +kernel
theorem dX10_doLine_4 : decode cX10_doLine 4 = .ok (.iload_n 1, 1) := by decide +kernel
theorem dX10_doLine_5 : decode cX10_doLine 5 = .ok (.iconst 1, 1) := by decide +kernel
theorem dX10_doLine_6 : decode cX10_doLine 6 = .ok (.iadd, 1) := by decide +kernel
theorem dX10_doLine_7 : decode cX10_doLine 7 = .ok (.iaload, 1) := by decide +kernel
theorem dX10_doLine_8 : decode cX10_doLine 8 = .ok (.istore_n 2, 1) := by decide +kernel
theorem dX10_doLine_9 : decode cX10_doLine 9 = .ok (.aload_n 0, 1) := by decide +kernel
theorem dX10_doLine_10 : decode cX10_doLine 10 = .ok (.getfield 35, 3) := by decide +kernel
theorem dX10_doLine_13 : decode cX10_doLine 13 = .ok (.iload_n 1, 1) := by decide +kernel
theorem dX10_doLine_14 : decode cX10_doLine 14 = .ok (.iconst 2, 1) := by decide +kernel
theorem dX10_doLine_15 : decode cX10_doLine 15 = .ok (.iadd, 1) := by decide +kernel
theorem dX10_doLine_16 : decode cX10_doLine 16 = .ok (.iaload, 1) := by decide +kernel
theorem dX10_doLine_17 : decode cX10_doLine 17 = .ok (.istore_n 3, 1) := by decide +kernel
theorem dX10_doLine_18 : decode cX10_doLine 18 = .ok (.aload_n 0, 1) := by decide +kernel
theorem dX10_doLine_19 : decode cX10_doLine 19 = .ok (.getfield 35, 3) := by decide +kernel
theorem dX10_doLine_22 : decode cX10_doLine 22 = .ok (.iload_n 1, 1) := by decide +kernel
theorem dX10_doLine_23 : decode cX10_doLine 23 = .ok (.iaload, 1) := by decide +kernel
theorem dX10_doLine_24 : decode cX10_doLine 24 = .ok (.tableswitch 133 0 4 #[36, 49, 57, 107, 120], 36) := by decide +kernel
theorem dX10_doLine_60 : decode cX10_doLine 60 = .ok (.aload_n 0, 1) := by decide +kernel
theorem dX10_doLine_61 : decode cX10_doLine 61 = .ok (.iload_n 2, 1) := by decide +kernel
theorem dX10_doLine_62 : decode cX10_doLine 62 = .ok (.putfield 7, 3) := by decide +kernel
theorem dX10_doLine_65 : decode cX10_doLine 65 = .ok (.aload_n 0, 1) := by decide +kernel
theorem dX10_doLine_66 : decode cX10_doLine 66 = .ok (.iconst 0, 1) := by decide +kernel
theorem dX10_doLine_67 : decode cX10_doLine 67 = .ok (.putfield 147, 3) := by decide +kernel
theorem dX10_doLine_70 : decode cX10_doLine 70 = .ok (.goto 92, 3) := by decide +kernel
theorem dX10_doLine_73 : decode cX10_doLine 73 = .ok (.aload_n 0, 1) := by decide +kernel
theorem dX10_doLine_74 : decode cX10_doLine 74 = .ok (.iload_n 2, 1) := by decide +kernel
theorem dX10_doLine_75 : decode cX10_doLine 75 = .ok (.putfield 13, 3) := by decide +kernel
theorem dX10_doLine_78 : decode cX10_doLine 78 = .ok (.goto 84, 3) := by decide +kernel
theorem dX10_doLine_81 : decode cX10_doLine 81 = .ok (.aload_n 0, 1) := by decide +kernel
theorem dX10_doLine_82 : decode cX10_doLine 82 = .ok (.getfield 16, 3) := by decide +kernel
theorem dX10_doLine_85 : decode cX10_doLine 85 = .ok (.iload_n 2, 1) := by decide +kernel
theorem dX10_doLine_86 : decode cX10_doLine 86 = .ok (.iload_n 3, 1) := by decide +kernel
theorem dX10_doLine_87 : decode cX10_doLine 87 = .ok (.iastore, 1) := by decide +kernel
theorem dX10_doLine_88 : decode cX10_doLine 88 = .ok (.iconst 0, 1) := by decide +kernel
theorem dX10_doLine_89 : decode cX10_doLine 89 = .ok (.istore 4, 2) := by decide +kernel
theorem dX10_doLine_91 : decode cX10_doLine 91 = .ok (.iload 4, 2) := by decide +kernel
theorem dX10_doLine_93 : decode cX10_doLine 93 = .ok (.iconst 3, 1) := by decide +kernel
theorem dX10_doLine_94 : decode cX10_doLine 94 = .ok (.iload_n 3, 1) := by decide +kernel
theorem dX10_doLine_95 : decode cX10_doLine 95 = .ok (.imul, 1) := by decide +kernel
theorem dX10_doLine_96 : decode cX10_doLine 96 = .ok (.if_icmp .ge 32, 3) := by decide +kernel
theorem dX10_doLine_99 : decode cX10_doLine 99 = .ok (.aload_n 0, 1) := by decide +kernel
theorem dX10_doLine_100 : decode cX10_doLine 100 = .ok (.getfield 20, 3) := by decide +kernel
theorem dX10_doLine_103 : decode cX10_doLine 103 = .ok (.bipush 12, 2) := by decide +kernel
theorem dX10_doLine_105 : decode cX10_doLine 105 = .ok (.iload_n 2, 1) := by decide +kernel
theorem dX10_doLine_106 : decode cX10_doLine 106 = .ok (.imul, 1) := by decide +kernel
theorem dX10_doLine_107 : decode cX10_doLine 107 = .ok (.iload 4, 2) := by decide +kernel
theorem dX10_doLine_109 : decode cX10_doLine 109 = .ok (.iadd, 1) := by decide +kernel
theorem dX10_doLine_110 : decode cX10_doLine 110 = .ok (.aload_n 0, 1) := by decide +kernel
theorem dX10_doLine_111 : decode cX10_doLine 111 = .ok (.getfield 35, 3) := by decide +kernel
theorem dX10_doLine_114 : decode cX10_doLine 114 = .ok (.iload_n 1, 1) := by decide +kernel
theorem dX10_doLine_115 : decode cX10_doLine 115 = .ok (.iconst 3, 1) := by decide +kernel
theorem dX10_doLine_116 : decode cX10_doLine 116 = .ok (.iadd, 1) := by decide +kernel
theorem dX10_doLine_117 : decode cX10_doLine 117 = .ok (.iload 4, 2) := by decide +kernel
theorem dX10_doLine_119 : decode cX10_doLine 119 = .ok (.iadd, 1) := by decide +kernel
theorem dX10_doLine_120 : decode cX10_doLine 120 = .ok (.iaload, 1) := by decide +kernel
theorem dX10_doLine_121 : decode cX10_doLine 121 = .ok (.iastore, 1) := by decide +kernel
theorem dX10_doLine_122 : decode cX10_doLine 122 = .ok (.iinc 4 1, 3) := by decide +kernel
theorem dX10_doLine_125 : decode cX10_doLine 125 = .ok (.goto (-34), 3) := by decide +kernel
theorem dX10_doLine_128 : decode cX10_doLine 128 = .ok (.goto 34, 3) := by decide +kernel
theorem dX10_doLine_131 : decode cX10_doLine 131 = .ok (.aload_n 0, 1) := by decide +kernel
theorem dX10_doLine_132 : decode cX10_doLine 132 = .ok (.iload_n 2, 1) := by decide +kernel
theorem dX10_doLine_133 : decode cX10_doLine 133 = .ok (.putfield 23, 3) := by decide +kernel
theorem dX10_doLine_136 : decode cX10_doLine 136 = .ok (.aload_n 0, 1) := by decide +kernel
theorem dX10_doLine_137 : decode cX10_doLine 137 = .ok (.iload_n 3, 1) := by decide +kernel
theorem dX10_doLine_138 : decode cX10_doLine 138 = .ok (.putfield 26, 3) := by decide +kernel
theorem dX10_doLine_141 : decode cX10_doLine 141 = .ok (.goto 21, 3) := by decide +kernel
theorem dX10_doLine_144 : decode cX10_doLine 144 = .ok (.aload_n 0, 1) := by decide +kernel
theorem dX10_doLine_145 : decode cX10_doLine 145 = .ok (.iload_n 2, 1) := by decide +kernel
theorem dX10_doLine_146 : decode cX10_doLine 146 = .ok (.putfield 150, 3) := by decide +kernel
theorem dX10_doLine_149 : decode cX10_doLine 149 = .ok (.aload_n 0, 1) := by decide +kernel
theorem dX10_doLine_150 : decode cX10_doLine 150 = .ok (.iload_n 3, 1) := by decide +kernel
theorem dX10_doLine_151 : decode cX10_doLine 151 = .ok (.putfield 153, 3) := by decide +kernel
theorem dX10_doLine_154 : decode cX10_doLine 154 = .ok (.goto 8, 3) := by decide +kernel
theorem dX10_doLine_157 : decode cX10_doLine 157 = .ok (.aload_n 0, 1) := by decide +kernel
theorem dX10_doLine_158 : decode cX10_doLine 158 = .ok (.iload_n 2, 1) := by decide +kernel
theorem dX10_doLine_159 : decode cX10_doLine 159 = .ok (.putfield 29, 3) := by decide +kernel
theorem dX10_doLine_162 : decode cX10_doLine 162 = .ok (.aload_n 0, 1) := by decide +kernel
theorem dX10_doLine_163 : decode cX10_doLine 163 = .ok (.getfield 35, 3) := by decide +kernel
theorem dX10_doLine_166 : decode cX10_doLine 166 = .ok (.iload_n 1, 1) := by decide +kernel
theorem dX10_doLine_167 : decode cX10_doLine 167 = .ok (.iaload, 1) := by decide +kernel
theorem dX10_doLine_168 : decode cX10_doLine 168 = .ok (.iconst 3, 1) := by decide +kernel
theorem dX10_doLine_169 : decode cX10_doLine 169 = .ok (.if_icmp .ge 13, 3) := by decide +kernel
theorem dX10_doLine_172 : decode cX10_doLine 172 = .ok (.aload_n 0, 1) := by decide +kernel
theorem dX10_doLine_173 : decode cX10_doLine 173 = .ok (.iconst 0, 1) := by decide +kernel
theorem dX10_doLine_174 : decode cX10_doLine 174 = .ok (.putfield 156, 3) := by decide +kernel
theorem dX10_doLine_177 : decode cX10_doLine 177 = .ok (.aload_n 0, 1) := by decide +kernel
theorem dX10_doLine_178 : decode cX10_doLine 178 = .ok (.iconst 0, 1) := by decide +kernel
theorem dX10_doLine_179 : decode cX10_doLine 179 = .ok (.putfield 159, 3) := by decide +kernel
theorem dX10_doLine_182 : decode cX10_doLine 182 = .ok (.return_, 1) := by decide +kernel
theorem dX10_game_0 : decode cX10_game 0 = .ok (.aload_n 0, 1) := by decide +kernel
theorem dX10_game_1 : decode cX10_game 1 = .ok (.invokevirtual 144, 3) := by decide +kernel
theorem dX10_game_4 : decode cX10_game 4 = .ok (.ifCond .ne 6, 3) := by decide +kernel
theorem dX10_game_7 : decode cX10_game 7 = .ok (.bipush (-4), 2) := by decide +kernel
theorem dX10_game_9 : decode cX10_game 9 = .ok (.ireturn, 1) := by decide +kernel
theorem dX10_game_10 : decode cX10_game 10 = .ok (.iconst 0, 1) := by decide +kernel
theorem dX10_game_11 : decode cX10_game 11 = .ok (.istore_n 1, 1) := by decide +kernel
theorem dX10_game_12 : decode cX10_game 12 = .ok (.iload_n 1, 1) := by decide +kernel
theorem dX10_game_13 : decode cX10_game 13 = .ok (.aload_n 0, 1) := by decide +kernel
theorem dX10_game_14 : decode cX10_game 14 = .ok (.getfield 138, 3) := by decide +kernel
theorem dX10_game_17 : decode cX10_game 17 = .ok (.if_icmp .ge 17, 3) := by decide +kernel
theorem dX10_game_20 : decode cX10_game 20 = .ok (.aload_n 0, 1) := by decide +kernel
theorem dX10_game_21 : decode cX10_game 21 = .ok (.bipush 15, 2) := by decide +kernel
theorem dX10_game_23 : decode cX10_game 23 = .ok (.iload_n 1, 1) := by decide +kernel
theorem dX10_game_24 : decode cX10_game 24 = .ok (.imul, 1) := by decide +kernel
theorem dX10_game_25 : decode cX10_game 25 = .ok (.invokevirtual 163, 3) := by decide +kernel
theorem dX10_game_28 : decode cX10_game 28 = .ok (.iinc 1 1, 3) := by decide +kernel
theorem dX10_game_31 : decode cX10_game 31 = .ok (.goto (-19), 3) := by decide +kernel
theorem dX10_game_34 : decode cX10_game 34 = .ok (.aload_n 0, 1) := by decide +kernel
theorem dX10_game_35 : decode cX10_game 35 = .ok (.iconst 0, 1) := by decide +kernel
theorem dX10_game_36 : decode cX10_game 36 = .ok (.putfield 76, 3) := by decide +kernel
theorem dX10_game_39 : decode cX10_game 39 = .ok (.aload_n 0, 1) := by decide +kernel
theorem dX10_game_40 : decode cX10_game 40 = .ok (.getfield 138, 3) := by decide +kernel
theorem dX10_game_43 : decode cX10_game 43 = .ok (.ireturn, 1) := by decide +kernel
theorem dX10_mood_0 : decode cX10_mood 0 = .ok (.iload_n 1, 1) := by decide +kernel
theorem dX10_mood_1 : decode cX10_mood 1 = .ok (.iconst 0, 1) := by decide +kernel
theorem dX10_mood_2 : decode cX10_mood 2 = .ok (.iconst 3, 1) := by decide +kernel
theorem dX10_mood_3 : decode cX10_mood 3 = .ok (.invokestatic 72, 3) := by decide +kernel
theorem dX10_mood_6 : decode cX10_mood 6 = .ok (.ifCond .ne 6, 3) := by decide +kernel
theorem dX10_mood_9 : decode cX10_mood 9 = .ok (.bipush (-2), 2) := by decide +kernel
theorem dX10_mood_11 : decode cX10_mood 11 = .ok (.ireturn, 1) := by decide +kernel
theorem dX10_mood_12 : decode cX10_mood 12 = .ok (.iload_n 3, 1) := by decide +kernel
theorem dX10_mood_13 : decode cX10_mood 13 = .ok (.iconst (-1), 1) := by decide +kernel
theorem dX10_mood_14 : decode cX10_mood 14 = .ok (.if_icmp .ne 10, 3) := by decide +kernel
theorem dX10_mood_17 : decode cX10_mood 17 = .ok (.aload_n 0, 1) := by decide +kernel
theorem dX10_mood_18 : decode cX10_mood 18 = .ok (.getfield 16, 3) := by decide +kernel
theorem dX10_mood_21 : decode cX10_mood 21 = .ok (.iload_n 1, 1) := by decide +kernel
theorem dX10_mood_22 : decode cX10_mood 22 = .ok (.iaload, 1) := by decide +kernel
theorem dX10_mood_23 : decode cX10_mood 23 = .ok (.ireturn, 1) := by decide +kernel
theorem dX10_mood_24 : decode cX10_mood 24 = .ok (.iload_n 2, 1) := by decide +kernel
theorem dX10_mood_25 : decode cX10_mood 25 = .ok (.iconst 0, 1) := by decide +kernel
theorem dX10_mood_26 : decode cX10_mood 26 = .ok (.aload_n 0, 1) := by decide +kernel
theorem dX10_mood_27 : decode cX10_mood 27 = .ok (.getfield 16, 3) := by decide +kernel
theorem dX10_mood_30 : decode cX10_mood 30 = .ok (.iload_n 1, 1) := by decide +kernel
theorem dX10_mood_31 : decode cX10_mood 31 = .ok (.iaload, 1) := by decide +kernel
theorem dX10_mood_32 : decode cX10_mood 32 = .ok (.iconst 1, 1) := by decide +kernel
theorem dX10_mood_33 : decode cX10_mood 33 = .ok (.isub, 1) := by decide +kernel
theorem dX10_mood_34 : decode cX10_mood 34 = .ok (.invokestatic 72, 3) := by decide +kernel
theorem dX10_mood_37 : decode cX10_mood 37 = .ok (.ifCond .ne 6, 3) := by decide +kernel
theorem dX10_mood_40 : decode cX10_mood 40 = .ok (.bipush (-2), 2) := by decide +kernel
theorem dX10_mood_42 : decode cX10_mood 42 = .ok (.ireturn, 1) := by decide +kernel
theorem dX10_mood_43 : decode cX10_mood 43 = .ok (.iload_n 3, 1) := by decide +kernel
theorem dX10_mood_44 : decode cX10_mood 44 = .ok (.iconst 0, 1) := by decide +kernel
theorem dX10_mood_45 : decode cX10_mood 45 = .ok (.iconst 2, 1) := by decide +kernel
theorem dX10_mood_46 : decode cX10_mood 46 = .ok (.invokestatic 72, 3) := by decide +kernel
theorem dX10_mood_49 : decode cX10_mood 49 = .ok (.ifCond .eq 21, 3) := by decide +kernel
theorem dX10_mood_52 : decode cX10_mood 52 = .ok (.aload_n 0, 1) := by decide +kernel
theorem dX10_mood_53 : decode cX10_mood 53 = .ok (.getfield 20, 3) := by decide +kernel
theorem dX10_mood_56 : decode cX10_mood 56 = .ok (.bipush 12, 2) := by decide +kernel
theorem dX10_mood_58 : decode cX10_mood 58 = .ok (.iload_n 1, 1) := by decide +kernel
theorem dX10_mood_59 : decode cX10_mood 59 = .ok (.imul, 1) := by decide +kernel
theorem dX10_mood_60 : decode cX10_mood 60 = .ok (.iconst 3, 1) := by decide +kernel
theorem dX10_mood_61 : decode cX10_mood 61 = .ok (.iload_n 2, 1) := by decide +kernel
theorem dX10_mood_62 : decode cX10_mood 62 = .ok (.imul, 1) := by decide +kernel
theorem dX10_mood_63 : decode cX10_mood 63 = .ok (.iadd, 1) := by decide +kernel
theorem dX10_mood_64 : decode cX10_mood 64 = .ok (.iload_n 3, 1) := by decide +kernel
theorem dX10_mood_65 : decode cX10_mood 65 = .ok (.iadd, 1) := by decide +kernel
theorem dX10_mood_66 : decode cX10_mood 66 = .ok (.iaload, 1) := by decide +kernel
theorem dX10_mood_67 : decode cX10_mood 67 = .ok (.goto 5, 3) := by decide +kernel
theorem dX10_mood_70 : decode cX10_mood 70 = .ok (.bipush (-3), 2) := by decide +kernel
theorem dX10_mood_72 : decode cX10_mood 72 = .ok (.ireturn, 1) := by decide +kernel
theorem dX10_makesOf_0 : decode cX10_makesOf 0 = .ok (.aload_n 0, 1) := by decide +kernel
theorem dX10_makesOf_1 : decode cX10_makesOf 1 = .ok (.getfield 62, 3) := by decide +kernel
theorem dX10_makesOf_4 : decode cX10_makesOf 4 = .ok (.bipush 11, 2) := by decide +kernel
theorem dX10_makesOf_6 : decode cX10_makesOf 6 = .ok (.iload_n 1, 1) := by decide +kernel
theorem dX10_makesOf_7 : decode cX10_makesOf 7 = .ok (.imul, 1) := by decide +kernel
theorem dX10_makesOf_8 : decode cX10_makesOf 8 = .ok (.iload_n 2, 1) := by decide +kernel
theorem dX10_makesOf_9 : decode cX10_makesOf 9 = .ok (.iadd, 1) := by decide +kernel
theorem dX10_makesOf_10 : decode cX10_makesOf 10 = .ok (.laload, 1) := by decide +kernel
theorem dX10_makesOf_11 : decode cX10_makesOf 11 = .ok (.lreturn, 1) := by decide +kernel
theorem dX10_winsOf_0 : decode cX10_winsOf 0 = .ok (.iload_n 3, 1) := by decide +kernel
theorem dX10_winsOf_1 : decode cX10_winsOf 1 = .ok (.ifCond .gt 10, 3) := by decide +kernel
theorem dX10_winsOf_4 : decode cX10_winsOf 4 = .ok (.iload_n 1, 1) := by decide +kernel
theorem dX10_winsOf_5 : decode cX10_winsOf 5 = .ok (.invokestatic 167, 3) := by decide +kernel
theorem dX10_winsOf_8 : decode cX10_winsOf 8 = .ok (.goto 20, 3) := by decide +kernel
theorem dX10_winsOf_11 : decode cX10_winsOf 11 = .ok (.aload_n 0, 1) := by decide +kernel
theorem dX10_winsOf_12 : decode cX10_winsOf 12 = .ok (.getfield 67, 3) := by decide +kernel
theorem dX10_winsOf_15 : decode cX10_winsOf 15 = .ok (.sipush 1000, 3) := by decide +kernel
theorem dX10_winsOf_18 : decode cX10_winsOf 18 = .ok (.bipush 11, 2) := by decide +kernel
theorem dX10_winsOf_20 : decode cX10_winsOf 20 = .ok (.iload_n 1, 1) := by decide +kernel
theorem dX10_winsOf_21 : decode cX10_winsOf 21 = .ok (.imul, 1) := by decide +kernel
theorem dX10_winsOf_22 : decode cX10_winsOf 22 = .ok (.iload_n 2, 1) := by decide +kernel
theorem dX10_winsOf_23 : decode cX10_winsOf 23 = .ok (.iadd, 1) := by decide +kernel
theorem dX10_winsOf_24 : decode cX10_winsOf 24 = .ok (.imul, 1) := by decide +kernel
theorem dX10_winsOf_25 : decode cX10_winsOf 25 = .ok (.iload_n 3, 1) := by decide +kernel
theorem dX10_winsOf_26 : decode cX10_winsOf 26 = .ok (.iadd, 1) := by decide +kernel
theorem dX10_winsOf_27 : decode cX10_winsOf 27 = .ok (.laload, 1) := by decide +kernel
theorem dX10_winsOf_28 : decode cX10_winsOf 28 = .ok (.lreturn, 1) := by decide +kernel
theorem dX10_rest_0 : decode cX10_rest 0 = .ok (.iload_n 1, 1) := by decide +kernel
theorem dX10_rest_1 : decode cX10_rest 1 = .ok (.iload_n 0, 1) := by decide +kernel
theorem dX10_rest_2 : decode cX10_rest 2 = .ok (.if_icmp .le 7, 3) := by decide +kernel
theorem dX10_rest_5 : decode cX10_rest 5 = .ok (.iconst 0, 1) := by decide +kernel
theorem dX10_rest_6 : decode cX10_rest 6 = .ok (.goto 6, 3) := by decide +kernel
theorem dX10_rest_9 : decode cX10_rest 9 = .ok (.iload_n 0, 1) := by decide +kernel
theorem dX10_rest_10 : decode cX10_rest 10 = .ok (.iload_n 1, 1) := by decide +kernel
theorem dX10_rest_11 : decode cX10_rest 11 = .ok (.isub, 1) := by decide +kernel
theorem dX10_rest_12 : decode cX10_rest 12 = .ok (.ireturn, 1) := by decide +kernel
theorem dX10_makesBy_0 : decode cX10_makesBy 0 = .ok (.lconst 0, 1) := by decide +kernel
theorem dX10_makesBy_1 : decode cX10_makesBy 1 = .ok (.lstore 4, 2) := by decide +kernel
theorem dX10_makesBy_3 : decode cX10_makesBy 3 = .ok (.iconst 0, 1) := by decide +kernel
theorem dX10_makesBy_4 : decode cX10_makesBy 4 = .ok (.istore 6, 2) := by decide +kernel
theorem dX10_makesBy_6 : decode cX10_makesBy 6 = .ok (.iload 6, 2) := by decide +kernel
theorem dX10_makesBy_8 : decode cX10_makesBy 8 = .ok (.aload_n 0, 1) := by decide +kernel
theorem dX10_makesBy_9 : decode cX10_makesBy 9 = .ok (.getfield 16, 3) := by decide +kernel
theorem dX10_makesBy_12 : decode cX10_makesBy 12 = .ok (.iload_n 1, 1) := by decide +kernel
theorem dX10_makesBy_13 : decode cX10_makesBy 13 = .ok (.iaload, 1) := by decide +kernel
theorem dX10_makesBy_14 : decode cX10_makesBy 14 = .ok (.if_icmp .ge 72, 3) := by decide +kernel
theorem dX10_makesBy_17 : decode cX10_makesBy 17 = .ok (.bipush 12, 2) := by decide +kernel
theorem dX10_makesBy_19 : decode cX10_makesBy 19 = .ok (.iload_n 1, 1) := by decide +kernel
theorem dX10_makesBy_20 : decode cX10_makesBy 20 = .ok (.imul, 1) := by decide +kernel
theorem dX10_makesBy_21 : decode cX10_makesBy 21 = .ok (.iconst 3, 1) := by decide +kernel
theorem dX10_makesBy_22 : decode cX10_makesBy 22 = .ok (.iload 6, 2) := by decide +kernel
theorem dX10_makesBy_24 : decode cX10_makesBy 24 = .ok (.imul, 1) := by decide +kernel
theorem dX10_makesBy_25 : decode cX10_makesBy 25 = .ok (.iadd, 1) := by decide +kernel
theorem dX10_makesBy_26 : decode cX10_makesBy 26 = .ok (.istore 7, 2) := by decide +kernel
theorem dX10_makesBy_28 : decode cX10_makesBy 28 = .ok (.lload 4, 2) := by decide +kernel
theorem dX10_makesBy_30 : decode cX10_makesBy 30 = .ok (.aload_n 0, 1) := by decide +kernel
theorem dX10_makesBy_31 : decode cX10_makesBy 31 = .ok (.getfield 20, 3) := by decide +kernel
theorem dX10_makesBy_34 : decode cX10_makesBy 34 = .ok (.iload 7, 2) := by decide +kernel
theorem dX10_makesBy_36 : decode cX10_makesBy 36 = .ok (.iconst 2, 1) := by decide +kernel
theorem dX10_makesBy_37 : decode cX10_makesBy 37 = .ok (.iadd, 1) := by decide +kernel
theorem dX10_makesBy_38 : decode cX10_makesBy 38 = .ok (.iaload, 1) := by decide +kernel
theorem dX10_makesBy_39 : decode cX10_makesBy 39 = .ok (.i2l, 1) := by decide +kernel
theorem dX10_makesBy_40 : decode cX10_makesBy 40 = .ok (.aload_n 0, 1) := by decide +kernel
theorem dX10_makesBy_41 : decode cX10_makesBy 41 = .ok (.getfield 20, 3) := by decide +kernel
theorem dX10_makesBy_44 : decode cX10_makesBy 44 = .ok (.iload 7, 2) := by decide +kernel
theorem dX10_makesBy_46 : decode cX10_makesBy 46 = .ok (.iaload, 1) := by decide +kernel
theorem dX10_makesBy_47 : decode cX10_makesBy 47 = .ok (.i2l, 1) := by decide +kernel
theorem dX10_makesBy_48 : decode cX10_makesBy 48 = .ok (.iload_n 2, 1) := by decide +kernel
theorem dX10_makesBy_49 : decode cX10_makesBy 49 = .ok (.iconst 1, 1) := by decide +kernel
theorem dX10_makesBy_50 : decode cX10_makesBy 50 = .ok (.isub, 1) := by decide +kernel
theorem dX10_makesBy_51 : decode cX10_makesBy 51 = .ok (.invokestatic 167, 3) := by decide +kernel
theorem dX10_makesBy_54 : decode cX10_makesBy 54 = .ok (.lmul, 1) := by decide +kernel
theorem dX10_makesBy_55 : decode cX10_makesBy 55 = .ok (.aload_n 0, 1) := by decide +kernel
theorem dX10_makesBy_56 : decode cX10_makesBy 56 = .ok (.iload_n 2, 1) := by decide +kernel
theorem dX10_makesBy_57 : decode cX10_makesBy 57 = .ok (.iconst 1, 1) := by decide +kernel
theorem dX10_makesBy_58 : decode cX10_makesBy 58 = .ok (.isub, 1) := by decide +kernel
theorem dX10_makesBy_59 : decode cX10_makesBy 59 = .ok (.iload_n 3, 1) := by decide +kernel
theorem dX10_makesBy_60 : decode cX10_makesBy 60 = .ok (.aload_n 0, 1) := by decide +kernel
theorem dX10_makesBy_61 : decode cX10_makesBy 61 = .ok (.getfield 20, 3) := by decide +kernel
theorem dX10_makesBy_64 : decode cX10_makesBy 64 = .ok (.iload 7, 2) := by decide +kernel
theorem dX10_makesBy_66 : decode cX10_makesBy 66 = .ok (.iconst 1, 1) := by decide +kernel
theorem dX10_makesBy_67 : decode cX10_makesBy 67 = .ok (.iadd, 1) := by decide +kernel
theorem dX10_makesBy_68 : decode cX10_makesBy 68 = .ok (.iaload, 1) := by decide +kernel
theorem dX10_makesBy_69 : decode cX10_makesBy 69 = .ok (.invokestatic 171, 3) := by decide +kernel
theorem dX10_makesBy_72 : decode cX10_makesBy 72 = .ok (.invokevirtual 175, 3) := by decide +kernel
theorem dX10_makesBy_75 : decode cX10_makesBy 75 = .ok (.ladd, 1) := by decide +kernel
theorem dX10_makesBy_76 : decode cX10_makesBy 76 = .ok (.lmul, 1) := by decide +kernel
theorem dX10_makesBy_77 : decode cX10_makesBy 77 = .ok (.ladd, 1) := by decide +kernel
theorem dX10_makesBy_78 : decode cX10_makesBy 78 = .ok (.lstore 4, 2) := by decide +kernel
theorem dX10_makesBy_80 : decode cX10_makesBy 80 = .ok (.iinc 6 1, 3) := by decide +kernel
theorem dX10_makesBy_83 : decode cX10_makesBy 83 = .ok (.goto (-77), 3) := by decide +kernel
theorem dX10_makesBy_86 : decode cX10_makesBy 86 = .ok (.lload 4, 2) := by decide +kernel
theorem dX10_makesBy_88 : decode cX10_makesBy 88 = .ok (.lreturn, 1) := by decide +kernel
theorem dX10_winsBy_0 : decode cX10_winsBy 0 = .ok (.lconst 0, 1) := by decide +kernel
theorem dX10_winsBy_1 : decode cX10_winsBy 1 = .ok (.lstore 5, 2) := by decide +kernel
theorem dX10_winsBy_3 : decode cX10_winsBy 3 = .ok (.iconst 0, 1) := by decide +kernel
theorem dX10_winsBy_4 : decode cX10_winsBy 4 = .ok (.istore 7, 2) := by decide +kernel
theorem dX10_winsBy_6 : decode cX10_winsBy 6 = .ok (.iload 7, 2) := by decide +kernel
theorem dX10_winsBy_8 : decode cX10_winsBy 8 = .ok (.aload_n 0, 1) := by decide +kernel
theorem dX10_winsBy_9 : decode cX10_winsBy 9 = .ok (.getfield 16, 3) := by decide +kernel
theorem dX10_winsBy_12 : decode cX10_winsBy 12 = .ok (.iload_n 1, 1) := by decide +kernel
theorem dX10_winsBy_13 : decode cX10_winsBy 13 = .ok (.iaload, 1) := by decide +kernel
theorem dX10_winsBy_14 : decode cX10_winsBy 14 = .ok (.if_icmp .ge 66, 3) := by decide +kernel
theorem dX10_winsBy_17 : decode cX10_winsBy 17 = .ok (.bipush 12, 2) := by decide +kernel
theorem dX10_winsBy_19 : decode cX10_winsBy 19 = .ok (.iload_n 1, 1) := by decide +kernel
theorem dX10_winsBy_20 : decode cX10_winsBy 20 = .ok (.imul, 1) := by decide +kernel
theorem dX10_winsBy_21 : decode cX10_winsBy 21 = .ok (.iconst 3, 1) := by decide +kernel
theorem dX10_winsBy_22 : decode cX10_winsBy 22 = .ok (.iload 7, 2) := by decide +kernel
theorem dX10_winsBy_24 : decode cX10_winsBy 24 = .ok (.imul, 1) := by decide +kernel
theorem dX10_winsBy_25 : decode cX10_winsBy 25 = .ok (.iadd, 1) := by decide +kernel
theorem dX10_winsBy_26 : decode cX10_winsBy 26 = .ok (.istore 8, 2) := by decide +kernel
theorem dX10_winsBy_28 : decode cX10_winsBy 28 = .ok (.lload 5, 2) := by decide +kernel
theorem dX10_winsBy_30 : decode cX10_winsBy 30 = .ok (.aload_n 0, 1) := by decide +kernel
theorem dX10_winsBy_31 : decode cX10_winsBy 31 = .ok (.getfield 20, 3) := by decide +kernel
theorem dX10_winsBy_34 : decode cX10_winsBy 34 = .ok (.iload 8, 2) := by decide +kernel
theorem dX10_winsBy_36 : decode cX10_winsBy 36 = .ok (.iconst 2, 1) := by decide +kernel
theorem dX10_winsBy_37 : decode cX10_winsBy 37 = .ok (.iadd, 1) := by decide +kernel
theorem dX10_winsBy_38 : decode cX10_winsBy 38 = .ok (.iaload, 1) := by decide +kernel
theorem dX10_winsBy_39 : decode cX10_winsBy 39 = .ok (.i2l, 1) := by decide +kernel
theorem dX10_winsBy_40 : decode cX10_winsBy 40 = .ok (.aload_n 0, 1) := by decide +kernel
theorem dX10_winsBy_41 : decode cX10_winsBy 41 = .ok (.iload_n 2, 1) := by decide +kernel
theorem dX10_winsBy_42 : decode cX10_winsBy 42 = .ok (.iconst 1, 1) := by decide +kernel
theorem dX10_winsBy_43 : decode cX10_winsBy 43 = .ok (.isub, 1) := by decide +kernel
theorem dX10_winsBy_44 : decode cX10_winsBy 44 = .ok (.iload_n 3, 1) := by decide +kernel
theorem dX10_winsBy_45 : decode cX10_winsBy 45 = .ok (.aload_n 0, 1) := by decide +kernel
theorem dX10_winsBy_46 : decode cX10_winsBy 46 = .ok (.getfield 20, 3) := by decide +kernel
theorem dX10_winsBy_49 : decode cX10_winsBy 49 = .ok (.iload 8, 2) := by decide +kernel
theorem dX10_winsBy_51 : decode cX10_winsBy 51 = .ok (.iconst 1, 1) := by decide +kernel
theorem dX10_winsBy_52 : decode cX10_winsBy 52 = .ok (.iadd, 1) := by decide +kernel
theorem dX10_winsBy_53 : decode cX10_winsBy 53 = .ok (.iaload, 1) := by decide +kernel
theorem dX10_winsBy_54 : decode cX10_winsBy 54 = .ok (.invokestatic 171, 3) := by decide +kernel
theorem dX10_winsBy_57 : decode cX10_winsBy 57 = .ok (.iload 4, 2) := by decide +kernel
theorem dX10_winsBy_59 : decode cX10_winsBy 59 = .ok (.aload_n 0, 1) := by decide +kernel
theorem dX10_winsBy_60 : decode cX10_winsBy 60 = .ok (.getfield 20, 3) := by decide +kernel
theorem dX10_winsBy_63 : decode cX10_winsBy 63 = .ok (.iload 8, 2) := by decide +kernel
theorem dX10_winsBy_65 : decode cX10_winsBy 65 = .ok (.iaload, 1) := by decide +kernel
theorem dX10_winsBy_66 : decode cX10_winsBy 66 = .ok (.isub, 1) := by decide +kernel
theorem dX10_winsBy_67 : decode cX10_winsBy 67 = .ok (.invokevirtual 179, 3) := by decide +kernel
theorem dX10_winsBy_70 : decode cX10_winsBy 70 = .ok (.lmul, 1) := by decide +kernel
theorem dX10_winsBy_71 : decode cX10_winsBy 71 = .ok (.ladd, 1) := by decide +kernel
theorem dX10_winsBy_72 : decode cX10_winsBy 72 = .ok (.lstore 5, 2) := by decide +kernel
theorem dX10_winsBy_74 : decode cX10_winsBy 74 = .ok (.iinc 7 1, 3) := by decide +kernel
theorem dX10_winsBy_77 : decode cX10_winsBy 77 = .ok (.goto (-71), 3) := by decide +kernel
theorem dX10_winsBy_80 : decode cX10_winsBy 80 = .ok (.lload 5, 2) := by decide +kernel
theorem dX10_winsBy_82 : decode cX10_winsBy 82 = .ok (.lreturn, 1) := by decide +kernel
theorem dX10_layOut_0 : decode cX10_layOut 0 = .ok (.aload_n 0, 1) := by decide +kernel
theorem dX10_layOut_1 : decode cX10_layOut 1 = .ok (.getfield 159, 3) := by decide +kernel
theorem dX10_layOut_4 : decode cX10_layOut 4 = .ok (.ifCond .eq 4, 3) := by decide +kernel
theorem dX10_layOut_7 : decode cX10_layOut 7 = .ok (.return_, 1) := by decide +kernel
theorem dX10_layOut_8 : decode cX10_layOut 8 = .ok (.aload_n 0, 1) := by decide +kernel
theorem dX10_layOut_9 : decode cX10_layOut 9 = .ok (.iconst 1, 1) := by decide +kernel
theorem dX10_layOut_10 : decode cX10_layOut 10 = .ok (.putfield 159, 3) := by decide +kernel
theorem dX10_layOut_13 : decode cX10_layOut 13 = .ok (.iconst 0, 1) := by decide +kernel
theorem dX10_layOut_14 : decode cX10_layOut 14 = .ok (.istore_n 1, 1) := by decide +kernel
theorem dX10_layOut_15 : decode cX10_layOut 15 = .ok (.iload_n 1, 1) := by decide +kernel
theorem dX10_layOut_16 : decode cX10_layOut 16 = .ok (.aload_n 0, 1) := by decide +kernel
theorem dX10_layOut_17 : decode cX10_layOut 17 = .ok (.getfield 7, 3) := by decide +kernel
theorem dX10_layOut_20 : decode cX10_layOut 20 = .ok (.if_icmp .gt 139, 3) := by decide +kernel
theorem dX10_layOut_23 : decode cX10_layOut 23 = .ok (.iconst 0, 1) := by decide +kernel
theorem dX10_layOut_24 : decode cX10_layOut 24 = .ok (.istore_n 2, 1) := by decide +kernel
theorem dX10_layOut_25 : decode cX10_layOut 25 = .ok (.iload_n 2, 1) := by decide +kernel
theorem dX10_layOut_26 : decode cX10_layOut 26 = .ok (.aload_n 0, 1) := by decide +kernel
theorem dX10_layOut_27 : decode cX10_layOut 27 = .ok (.getfield 13, 3) := by decide +kernel
theorem dX10_layOut_30 : decode cX10_layOut 30 = .ok (.if_icmp .gt 123, 3) := by decide +kernel
theorem dX10_layOut_33 : decode cX10_layOut 33 = .ok (.aload_n 0, 1) := by decide +kernel
theorem dX10_layOut_34 : decode cX10_layOut 34 = .ok (.getfield 62, 3) := by decide +kernel
theorem dX10_layOut_37 : decode cX10_layOut 37 = .ok (.bipush 11, 2) := by decide +kernel
theorem dX10_layOut_39 : decode cX10_layOut 39 = .ok (.iload_n 1, 1) := by decide +kernel
theorem dX10_layOut_40 : decode cX10_layOut 40 = .ok (.imul, 1) := by decide +kernel
theorem dX10_layOut_41 : decode cX10_layOut 41 = .ok (.iload_n 2, 1) := by decide +kernel
theorem dX10_layOut_42 : decode cX10_layOut 42 = .ok (.iadd, 1) := by decide +kernel
theorem dX10_layOut_43 : decode cX10_layOut 43 = .ok (.lconst 0, 1) := by decide +kernel
theorem dX10_layOut_44 : decode cX10_layOut 44 = .ok (.lastore, 1) := by decide +kernel
theorem dX10_layOut_45 : decode cX10_layOut 45 = .ok (.iconst 1, 1) := by decide +kernel
theorem dX10_layOut_46 : decode cX10_layOut 46 = .ok (.istore_n 3, 1) := by decide +kernel
theorem dX10_layOut_47 : decode cX10_layOut 47 = .ok (.iload_n 3, 1) := by decide +kernel
theorem dX10_layOut_48 : decode cX10_layOut 48 = .ok (.sipush 1000, 3) := by decide +kernel
theorem dX10_layOut_51 : decode cX10_layOut 51 = .ok (.if_icmp .ge 27, 3) := by decide +kernel
theorem dX10_layOut_54 : decode cX10_layOut 54 = .ok (.aload_n 0, 1) := by decide +kernel
theorem dX10_layOut_55 : decode cX10_layOut 55 = .ok (.getfield 67, 3) := by decide +kernel
theorem dX10_layOut_58 : decode cX10_layOut 58 = .ok (.sipush 1000, 3) := by decide +kernel
theorem dX10_layOut_61 : decode cX10_layOut 61 = .ok (.bipush 11, 2) := by decide +kernel
theorem dX10_layOut_63 : decode cX10_layOut 63 = .ok (.iload_n 1, 1) := by decide +kernel
theorem dX10_layOut_64 : decode cX10_layOut 64 = .ok (.imul, 1) := by decide +kernel
theorem dX10_layOut_65 : decode cX10_layOut 65 = .ok (.iload_n 2, 1) := by decide +kernel
theorem dX10_layOut_66 : decode cX10_layOut 66 = .ok (.iadd, 1) := by decide +kernel
theorem dX10_layOut_67 : decode cX10_layOut 67 = .ok (.imul, 1) := by decide +kernel
theorem dX10_layOut_68 : decode cX10_layOut 68 = .ok (.iload_n 3, 1) := by decide +kernel
theorem dX10_layOut_69 : decode cX10_layOut 69 = .ok (.iadd, 1) := by decide +kernel
theorem dX10_layOut_70 : decode cX10_layOut 70 = .ok (.lconst 0, 1) := by decide +kernel
theorem dX10_layOut_71 : decode cX10_layOut 71 = .ok (.lastore, 1) := by decide +kernel
theorem dX10_layOut_72 : decode cX10_layOut 72 = .ok (.iinc 3 1, 3) := by decide +kernel
theorem dX10_layOut_75 : decode cX10_layOut 75 = .ok (.goto (-28), 3) := by decide +kernel
theorem dX10_layOut_78 : decode cX10_layOut 78 = .ok (.iconst 0, 1) := by decide +kernel
theorem dX10_layOut_79 : decode cX10_layOut 79 = .ok (.istore_n 3, 1) := by decide +kernel
theorem dX10_layOut_80 : decode cX10_layOut 80 = .ok (.iload_n 3, 1) := by decide +kernel
theorem dX10_layOut_81 : decode cX10_layOut 81 = .ok (.iconst 4, 1) := by decide +kernel
theorem dX10_layOut_82 : decode cX10_layOut 82 = .ok (.if_icmp .ge 65, 3) := by decide +kernel
theorem dX10_layOut_85 : decode cX10_layOut 85 = .ok (.iload_n 1, 1) := by decide +kernel
theorem dX10_layOut_86 : decode cX10_layOut 86 = .ok (.ifCond .le 61, 3) := by decide +kernel
theorem dX10_layOut_89 : decode cX10_layOut 89 = .ok (.iload_n 2, 1) := by decide +kernel
theorem dX10_layOut_90 : decode cX10_layOut 90 = .ok (.ifCond .le 57, 3) := by decide +kernel
theorem dX10_layOut_93 : decode cX10_layOut 93 = .ok (.aload_n 0, 1) := by decide +kernel
theorem dX10_layOut_94 : decode cX10_layOut 94 = .ok (.getfield 16, 3) := by decide +kernel
theorem dX10_layOut_97 : decode cX10_layOut 97 = .ok (.iload_n 3, 1) := by decide +kernel
theorem dX10_layOut_98 : decode cX10_layOut 98 = .ok (.iaload, 1) := by decide +kernel
theorem dX10_layOut_99 : decode cX10_layOut 99 = .ok (.ifCond .le 42, 3) := by decide +kernel
theorem dX10_layOut_102 : decode cX10_layOut 102 = .ok (.aload_n 0, 1) := by decide +kernel
theorem dX10_layOut_103 : decode cX10_layOut 103 = .ok (.getfield 62, 3) := by decide +kernel
theorem dX10_layOut_106 : decode cX10_layOut 106 = .ok (.bipush 11, 2) := by decide +kernel
theorem dX10_layOut_108 : decode cX10_layOut 108 = .ok (.iload_n 1, 1) := by decide +kernel
theorem dX10_layOut_109 : decode cX10_layOut 109 = .ok (.imul, 1) := by decide +kernel
theorem dX10_layOut_110 : decode cX10_layOut 110 = .ok (.iload_n 2, 1) := by decide +kernel
theorem dX10_layOut_111 : decode cX10_layOut 111 = .ok (.iadd, 1) := by decide +kernel
theorem dX10_layOut_112 : decode cX10_layOut 112 = .ok (.aload_n 0, 1) := by decide +kernel
theorem dX10_layOut_113 : decode cX10_layOut 113 = .ok (.getfield 62, 3) := by decide +kernel
theorem dX10_layOut_116 : decode cX10_layOut 116 = .ok (.bipush 11, 2) := by decide +kernel
theorem dX10_layOut_118 : decode cX10_layOut 118 = .ok (.iload_n 1, 1) := by decide +kernel
theorem dX10_layOut_119 : decode cX10_layOut 119 = .ok (.imul, 1) := by decide +kernel
theorem dX10_layOut_120 : decode cX10_layOut 120 = .ok (.iload_n 2, 1) := by decide +kernel
theorem dX10_layOut_121 : decode cX10_layOut 121 = .ok (.iadd, 1) := by decide +kernel
theorem dX10_layOut_122 : decode cX10_layOut 122 = .ok (.laload, 1) := by decide +kernel
theorem dX10_layOut_123 : decode cX10_layOut 123 = .ok (.aload_n 0, 1) := by decide +kernel
theorem dX10_layOut_124 : decode cX10_layOut 124 = .ok (.iload_n 3, 1) := by decide +kernel
theorem dX10_layOut_125 : decode cX10_layOut 125 = .ok (.iload_n 1, 1) := by decide +kernel
theorem dX10_layOut_126 : decode cX10_layOut 126 = .ok (.iload_n 2, 1) := by decide +kernel
theorem dX10_layOut_127 : decode cX10_layOut 127 = .ok (.invokevirtual 183, 3) := by decide +kernel
theorem dX10_layOut_130 : decode cX10_layOut 130 = .ok (.invokestatic 186, 3) := by decide +kernel
theorem dX10_layOut_133 : decode cX10_layOut 133 = .ok (.lastore, 1) := by decide +kernel
theorem dX10_layOut_134 : decode cX10_layOut 134 = .ok (.aload_n 0, 1) := by decide +kernel
theorem dX10_layOut_135 : decode cX10_layOut 135 = .ok (.iload_n 3, 1) := by decide +kernel
theorem dX10_layOut_136 : decode cX10_layOut 136 = .ok (.iload_n 1, 1) := by decide +kernel
theorem dX10_layOut_137 : decode cX10_layOut 137 = .ok (.iload_n 2, 1) := by decide +kernel
theorem dX10_layOut_138 : decode cX10_layOut 138 = .ok (.invokevirtual 190, 3) := by decide +kernel
theorem dX10_layOut_141 : decode cX10_layOut 141 = .ok (.iinc 3 1, 3) := by decide +kernel
theorem dX10_layOut_144 : decode cX10_layOut 144 = .ok (.goto (-64), 3) := by decide +kernel
theorem dX10_layOut_147 : decode cX10_layOut 147 = .ok (.iinc 2 1, 3) := by decide +kernel
theorem dX10_layOut_150 : decode cX10_layOut 150 = .ok (.goto (-125), 3) := by decide +kernel
theorem dX10_layOut_153 : decode cX10_layOut 153 = .ok (.iinc 1 1, 3) := by decide +kernel
theorem dX10_layOut_156 : decode cX10_layOut 156 = .ok (.goto (-141), 3) := by decide +kernel
theorem dX10_layOut_159 : decode cX10_layOut 159 = .ok (.return_, 1) := by decide +kernel
theorem dX10_layWins_0 : decode cX10_layWins 0 = .ok (.iconst 1, 1) := by decide +kernel
theorem dX10_layWins_1 : decode cX10_layWins 1 = .ok (.istore 4, 2) := by decide +kernel
theorem dX10_layWins_3 : decode cX10_layWins 3 = .ok (.iload 4, 2) := by decide +kernel
theorem dX10_layWins_5 : decode cX10_layWins 5 = .ok (.sipush 1000, 3) := by decide +kernel
theorem dX10_layWins_8 : decode cX10_layWins 8 = .ok (.if_icmp .ge 50, 3) := by decide +kernel
theorem dX10_layWins_11 : decode cX10_layWins 11 = .ok (.sipush 1000, 3) := by decide +kernel
theorem dX10_layWins_14 : decode cX10_layWins 14 = .ok (.bipush 11, 2) := by decide +kernel
theorem dX10_layWins_16 : decode cX10_layWins 16 = .ok (.iload_n 2, 1) := by decide +kernel
theorem dX10_layWins_17 : decode cX10_layWins 17 = .ok (.imul, 1) := by decide +kernel
theorem dX10_layWins_18 : decode cX10_layWins 18 = .ok (.iload_n 3, 1) := by decide +kernel
theorem dX10_layWins_19 : decode cX10_layWins 19 = .ok (.iadd, 1) := by decide +kernel
theorem dX10_layWins_20 : decode cX10_layWins 20 = .ok (.imul, 1) := by decide +kernel
theorem dX10_layWins_21 : decode cX10_layWins 21 = .ok (.iload 4, 2) := by decide +kernel
theorem dX10_layWins_23 : decode cX10_layWins 23 = .ok (.iadd, 1) := by decide +kernel
theorem dX10_layWins_24 : decode cX10_layWins 24 = .ok (.istore 5, 2) := by decide +kernel
theorem dX10_layWins_26 : decode cX10_layWins 26 = .ok (.aload_n 0, 1) := by decide +kernel
theorem dX10_layWins_27 : decode cX10_layWins 27 = .ok (.getfield 67, 3) := by decide +kernel
theorem dX10_layWins_30 : decode cX10_layWins 30 = .ok (.iload 5, 2) := by decide +kernel
theorem dX10_layWins_32 : decode cX10_layWins 32 = .ok (.aload_n 0, 1) := by decide +kernel
theorem dX10_layWins_33 : decode cX10_layWins 33 = .ok (.getfield 67, 3) := by decide +kernel
theorem dX10_layWins_36 : decode cX10_layWins 36 = .ok (.iload 5, 2) := by decide +kernel
theorem dX10_layWins_38 : decode cX10_layWins 38 = .ok (.laload, 1) := by decide +kernel
theorem dX10_layWins_39 : decode cX10_layWins 39 = .ok (.aload_n 0, 1) := by decide +kernel
theorem dX10_layWins_40 : decode cX10_layWins 40 = .ok (.iload_n 1, 1) := by decide +kernel
theorem dX10_layWins_41 : decode cX10_layWins 41 = .ok (.iload_n 2, 1) := by decide +kernel
theorem dX10_layWins_42 : decode cX10_layWins 42 = .ok (.iload_n 3, 1) := by decide +kernel
theorem dX10_layWins_43 : decode cX10_layWins 43 = .ok (.iload 4, 2) := by decide +kernel
theorem dX10_layWins_45 : decode cX10_layWins 45 = .ok (.invokevirtual 194, 3) := by decide +kernel
theorem dX10_layWins_48 : decode cX10_layWins 48 = .ok (.invokestatic 186, 3) := by decide +kernel
theorem dX10_layWins_51 : decode cX10_layWins 51 = .ok (.lastore, 1) := by decide +kernel
theorem dX10_layWins_52 : decode cX10_layWins 52 = .ok (.iinc 4 1, 3) := by decide +kernel
theorem dX10_layWins_55 : decode cX10_layWins 55 = .ok (.goto (-52), 3) := by decide +kernel
theorem dX10_layWins_58 : decode cX10_layWins 58 = .ok (.return_, 1) := by decide +kernel
theorem dX10_greater_0 : decode cX10_greater 0 = .ok (.lload_n 0, 1) := by decide +kernel
theorem dX10_greater_1 : decode cX10_greater 1 = .ok (.lload_n 2, 1) := by decide +kernel
theorem dX10_greater_2 : decode cX10_greater 2 = .ok (.lcmp, 1) := by decide +kernel
theorem dX10_greater_3 : decode cX10_greater 3 = .ok (.ifCond .le 7, 3) := by decide +kernel
theorem dX10_greater_6 : decode cX10_greater 6 = .ok (.lload_n 0, 1) := by decide +kernel
theorem dX10_greater_7 : decode cX10_greater 7 = .ok (.goto 4, 3) := by decide +kernel
theorem dX10_greater_10 : decode cX10_greater 10 = .ok (.lload_n 2, 1) := by decide +kernel
theorem dX10_greater_11 : decode cX10_greater 11 = .ok (.lreturn, 1) := by decide +kernel
theorem dX10_partOf_0 : decode cX10_partOf 0 = .ok (.lload_n 0, 1) := by decide +kernel
theorem dX10_partOf_1 : decode cX10_partOf 1 = .ok (.lstore 5, 2) := by decide +kernel
theorem dX10_partOf_3 : decode cX10_partOf 3 = .ok (.lload_n 2, 1) := by decide +kernel
theorem dX10_partOf_4 : decode cX10_partOf 4 = .ok (.lstore 7, 2) := by decide +kernel
theorem dX10_partOf_6 : decode cX10_partOf 6 = .ok (.lload 7, 2) := by decide +kernel
theorem dX10_partOf_8 : decode cX10_partOf 8 = .ok (.lconst 0, 1) := by decide +kernel
theorem dX10_partOf_9 : decode cX10_partOf 9 = .ok (.lcmp, 1) := by decide +kernel
theorem dX10_partOf_10 : decode cX10_partOf 10 = .ok (.ifCond .eq 21, 3) := by decide +kernel
theorem dX10_partOf_13 : decode cX10_partOf 13 = .ok (.lload 5, 2) := by decide +kernel
theorem dX10_partOf_15 : decode cX10_partOf 15 = .ok (.lload 7, 2) := by decide +kernel
theorem dX10_partOf_17 : decode cX10_partOf 17 = .ok (.lrem, 1) := by decide +kernel
theorem dX10_partOf_18 : decode cX10_partOf 18 = .ok (.lstore 9, 2) := by decide +kernel
theorem dX10_partOf_20 : decode cX10_partOf 20 = .ok (.lload 7, 2) := by decide +kernel
theorem dX10_partOf_22 : decode cX10_partOf 22 = .ok (.lstore 5, 2) := by decide +kernel
theorem dX10_partOf_24 : decode cX10_partOf 24 = .ok (.lload 9, 2) := by decide +kernel
theorem dX10_partOf_26 : decode cX10_partOf 26 = .ok (.lstore 7, 2) := by decide +kernel
theorem dX10_partOf_28 : decode cX10_partOf 28 = .ok (.goto (-22), 3) := by decide +kernel
theorem dX10_partOf_31 : decode cX10_partOf 31 = .ok (.iload 4, 2) := by decide +kernel
theorem dX10_partOf_33 : decode cX10_partOf 33 = .ok (.ifCond .ne 7, 3) := by decide +kernel
theorem dX10_partOf_36 : decode cX10_partOf 36 = .ok (.lload_n 0, 1) := by decide +kernel
theorem dX10_partOf_37 : decode cX10_partOf 37 = .ok (.goto 4, 3) := by decide +kernel
theorem dX10_partOf_40 : decode cX10_partOf 40 = .ok (.lload_n 2, 1) := by decide +kernel
theorem dX10_partOf_41 : decode cX10_partOf 41 = .ok (.lload 5, 2) := by decide +kernel
theorem dX10_partOf_43 : decode cX10_partOf 43 = .ok (.ldiv, 1) := by decide +kernel
theorem dX10_partOf_44 : decode cX10_partOf 44 = .ok (.lreturn, 1) := by decide +kernel
theorem dX10_areIn_0 : decode cX10_areIn 0 = .ok (.iload_n 1, 1) := by decide +kernel
theorem dX10_areIn_1 : decode cX10_areIn 1 = .ok (.iconst 0, 1) := by decide +kernel
theorem dX10_areIn_2 : decode cX10_areIn 2 = .ok (.aload_n 0, 1) := by decide +kernel
theorem dX10_areIn_3 : decode cX10_areIn 3 = .ok (.getfield 7, 3) := by decide +kernel
theorem dX10_areIn_6 : decode cX10_areIn 6 = .ok (.invokestatic 72, 3) := by decide +kernel
theorem dX10_areIn_9 : decode cX10_areIn 9 = .ok (.ifCond .eq 19, 3) := by decide +kernel
theorem dX10_areIn_12 : decode cX10_areIn 12 = .ok (.iload_n 2, 1) := by decide +kernel
theorem dX10_areIn_13 : decode cX10_areIn 13 = .ok (.iconst 0, 1) := by decide +kernel
theorem dX10_areIn_14 : decode cX10_areIn 14 = .ok (.aload_n 0, 1) := by decide +kernel
theorem dX10_areIn_15 : decode cX10_areIn 15 = .ok (.getfield 13, 3) := by decide +kernel
theorem dX10_areIn_18 : decode cX10_areIn 18 = .ok (.invokestatic 72, 3) := by decide +kernel
theorem dX10_areIn_21 : decode cX10_areIn 21 = .ok (.ifCond .eq 7, 3) := by decide +kernel
theorem dX10_areIn_24 : decode cX10_areIn 24 = .ok (.iconst 1, 1) := by decide +kernel
theorem dX10_areIn_25 : decode cX10_areIn 25 = .ok (.goto 4, 3) := by decide +kernel
theorem dX10_areIn_28 : decode cX10_areIn 28 = .ok (.iconst 0, 1) := by decide +kernel
theorem dX10_areIn_29 : decode cX10_areIn 29 = .ok (.ireturn, 1) := by decide +kernel
theorem dX10_makes_0 : decode cX10_makes 0 = .ok (.aload_n 0, 1) := by decide +kernel
theorem dX10_makes_1 : decode cX10_makes 1 = .ok (.iload_n 1, 1) := by decide +kernel
theorem dX10_makes_2 : decode cX10_makes 2 = .ok (.iload_n 2, 1) := by decide +kernel
theorem dX10_makes_3 : decode cX10_makes 3 = .ok (.invokevirtual 198, 3) := by decide +kernel
theorem dX10_makes_6 : decode cX10_makes 6 = .ok (.ifCond .eq 12, 3) := by decide +kernel
theorem dX10_makes_9 : decode cX10_makes 9 = .ok (.iload_n 3, 1) := by decide +kernel
theorem dX10_makes_10 : decode cX10_makes 10 = .ok (.iconst 0, 1) := by decide +kernel
theorem dX10_makes_11 : decode cX10_makes 11 = .ok (.iconst 1, 1) := by decide +kernel
theorem dX10_makes_12 : decode cX10_makes 12 = .ok (.invokestatic 72, 3) := by decide +kernel
theorem dX10_makes_15 : decode cX10_makes 15 = .ok (.ifCond .ne 7, 3) := by decide +kernel
theorem dX10_makes_18 : decode cX10_makes 18 = .ok (.ldc2_w 107, 3) := by decide +kernel
theorem dX10_makes_21 : decode cX10_makes 21 = .ok (.lreturn, 1) := by decide +kernel
theorem dX10_makes_22 : decode cX10_makes 22 = .ok (.aload_n 0, 1) := by decide +kernel
theorem dX10_makes_23 : decode cX10_makes 23 = .ok (.invokevirtual 202, 3) := by decide +kernel
theorem dX10_makes_26 : decode cX10_makes 26 = .ok (.aload_n 0, 1) := by decide +kernel
theorem dX10_makes_27 : decode cX10_makes 27 = .ok (.iload_n 1, 1) := by decide +kernel
theorem dX10_makes_28 : decode cX10_makes 28 = .ok (.iload_n 2, 1) := by decide +kernel
theorem dX10_makes_29 : decode cX10_makes 29 = .ok (.invokevirtual 175, 3) := by decide +kernel
theorem dX10_makes_32 : decode cX10_makes 32 = .ok (.iload_n 1, 1) := by decide +kernel
theorem dX10_makes_33 : decode cX10_makes 33 = .ok (.invokestatic 167, 3) := by decide +kernel
theorem dX10_makes_36 : decode cX10_makes 36 = .ok (.iload_n 3, 1) := by decide +kernel
theorem dX10_makes_37 : decode cX10_makes 37 = .ok (.invokestatic 205, 3) := by decide +kernel
theorem dX10_makes_40 : decode cX10_makes 40 = .ok (.lreturn, 1) := by decide +kernel
theorem dX10_wins_0 : decode cX10_wins 0 = .ok (.aload_n 0, 1) := by decide +kernel
theorem dX10_wins_1 : decode cX10_wins 1 = .ok (.iload_n 1, 1) := by decide +kernel
theorem dX10_wins_2 : decode cX10_wins 2 = .ok (.iload_n 2, 1) := by decide +kernel
theorem dX10_wins_3 : decode cX10_wins 3 = .ok (.invokevirtual 198, 3) := by decide +kernel
theorem dX10_wins_6 : decode cX10_wins 6 = .ok (.ifCond .eq 24, 3) := by decide +kernel
theorem dX10_wins_9 : decode cX10_wins 9 = .ok (.iload_n 3, 1) := by decide +kernel
theorem dX10_wins_10 : decode cX10_wins 10 = .ok (.iconst 0, 1) := by decide +kernel
theorem dX10_wins_11 : decode cX10_wins 11 = .ok (.sipush 999, 3) := by decide +kernel
theorem dX10_wins_14 : decode cX10_wins 14 = .ok (.invokestatic 72, 3) := by decide +kernel
theorem dX10_wins_17 : decode cX10_wins 17 = .ok (.ifCond .eq 13, 3) := by decide +kernel
theorem dX10_wins_20 : decode cX10_wins 20 = .ok (.iload 4, 2) := by decide +kernel
theorem dX10_wins_22 : decode cX10_wins 22 = .ok (.iconst 0, 1) := by decide +kernel
theorem dX10_wins_23 : decode cX10_wins 23 = .ok (.iconst 1, 1) := by decide +kernel
theorem dX10_wins_24 : decode cX10_wins 24 = .ok (.invokestatic 72, 3) := by decide +kernel
theorem dX10_wins_27 : decode cX10_wins 27 = .ok (.ifCond .ne 7, 3) := by decide +kernel
theorem dX10_wins_30 : decode cX10_wins 30 = .ok (.ldc2_w 107, 3) := by decide +kernel
theorem dX10_wins_33 : decode cX10_wins 33 = .ok (.lreturn, 1) := by decide +kernel
theorem dX10_wins_34 : decode cX10_wins 34 = .ok (.aload_n 0, 1) := by decide +kernel
theorem dX10_wins_35 : decode cX10_wins 35 = .ok (.invokevirtual 202, 3) := by decide +kernel
theorem dX10_wins_38 : decode cX10_wins 38 = .ok (.aload_n 0, 1) := by decide +kernel
theorem dX10_wins_39 : decode cX10_wins 39 = .ok (.iload_n 1, 1) := by decide +kernel
theorem dX10_wins_40 : decode cX10_wins 40 = .ok (.iload_n 2, 1) := by decide +kernel
theorem dX10_wins_41 : decode cX10_wins 41 = .ok (.iload_n 3, 1) := by decide +kernel
theorem dX10_wins_42 : decode cX10_wins 42 = .ok (.invokevirtual 179, 3) := by decide +kernel
theorem dX10_wins_45 : decode cX10_wins 45 = .ok (.iload_n 1, 1) := by decide +kernel
theorem dX10_wins_46 : decode cX10_wins 46 = .ok (.invokestatic 167, 3) := by decide +kernel
theorem dX10_wins_49 : decode cX10_wins 49 = .ok (.iload 4, 2) := by decide +kernel
theorem dX10_wins_51 : decode cX10_wins 51 = .ok (.invokestatic 205, 3) := by decide +kernel
theorem dX10_wins_54 : decode cX10_wins 54 = .ok (.lreturn, 1) := by decide +kernel
theorem dX10_best_0 : decode cX10_best 0 = .ok (.aload_n 0, 1) := by decide +kernel
theorem dX10_best_1 : decode cX10_best 1 = .ok (.iload_n 1, 1) := by decide +kernel
theorem dX10_best_2 : decode cX10_best 2 = .ok (.iload_n 2, 1) := by decide +kernel
theorem dX10_best_3 : decode cX10_best 3 = .ok (.invokevirtual 198, 3) := by decide +kernel
theorem dX10_best_6 : decode cX10_best 6 = .ok (.ifCond .eq 14, 3) := by decide +kernel
theorem dX10_best_9 : decode cX10_best 9 = .ok (.iload_n 3, 1) := by decide +kernel
theorem dX10_best_10 : decode cX10_best 10 = .ok (.iconst (-1), 1) := by decide +kernel
theorem dX10_best_11 : decode cX10_best 11 = .ok (.sipush 999, 3) := by decide +kernel
theorem dX10_best_14 : decode cX10_best 14 = .ok (.invokestatic 72, 3) := by decide +kernel
theorem dX10_best_17 : decode cX10_best 17 = .ok (.ifCond .ne 6, 3) := by decide +kernel
theorem dX10_best_20 : decode cX10_best 20 = .ok (.bipush (-3), 2) := by decide +kernel
theorem dX10_best_22 : decode cX10_best 22 = .ok (.ireturn, 1) := by decide +kernel
theorem dX10_best_23 : decode cX10_best 23 = .ok (.iload_n 1, 1) := by decide +kernel
theorem dX10_best_24 : decode cX10_best 24 = .ok (.ifCond .eq 11, 3) := by decide +kernel
theorem dX10_best_27 : decode cX10_best 27 = .ok (.iload_n 2, 1) := by decide +kernel
theorem dX10_best_28 : decode cX10_best 28 = .ok (.ifCond .eq 7, 3) := by decide +kernel
theorem dX10_best_31 : decode cX10_best 31 = .ok (.iload_n 3, 1) := by decide +kernel
theorem dX10_best_32 : decode cX10_best 32 = .ok (.ifCond .ne 5, 3) := by decide +kernel
theorem dX10_best_35 : decode cX10_best 35 = .ok (.iconst (-1), 1) := by decide +kernel
theorem dX10_best_36 : decode cX10_best 36 = .ok (.ireturn, 1) := by decide +kernel
theorem dX10_best_37 : decode cX10_best 37 = .ok (.aload_n 0, 1) := by decide +kernel
theorem dX10_best_38 : decode cX10_best 38 = .ok (.invokevirtual 202, 3) := by decide +kernel
theorem dX10_best_41 : decode cX10_best 41 = .ok (.iconst 0, 1) := by decide +kernel
theorem dX10_best_42 : decode cX10_best 42 = .ok (.istore 4, 2) := by decide +kernel
theorem dX10_best_44 : decode cX10_best 44 = .ok (.iload 4, 2) := by decide +kernel
theorem dX10_best_46 : decode cX10_best 46 = .ok (.iconst 4, 1) := by decide +kernel
theorem dX10_best_47 : decode cX10_best 47 = .ok (.if_icmp .ge 68, 3) := by decide +kernel
theorem dX10_best_50 : decode cX10_best 50 = .ok (.aload_n 0, 1) := by decide +kernel
theorem dX10_best_51 : decode cX10_best 51 = .ok (.getfield 16, 3) := by decide +kernel
theorem dX10_best_54 : decode cX10_best 54 = .ok (.iload 4, 2) := by decide +kernel
theorem dX10_best_56 : decode cX10_best 56 = .ok (.iaload, 1) := by decide +kernel
theorem dX10_best_57 : decode cX10_best 57 = .ok (.ifCond .le 52, 3) := by decide +kernel
theorem dX10_best_60 : decode cX10_best 60 = .ok (.iload_n 3, 1) := by decide +kernel
theorem dX10_best_61 : decode cX10_best 61 = .ok (.iconst (-1), 1) := by decide +kernel
theorem dX10_best_62 : decode cX10_best 62 = .ok (.if_icmp .ne 24, 3) := by decide +kernel
theorem dX10_best_65 : decode cX10_best 65 = .ok (.aload_n 0, 1) := by decide +kernel
theorem dX10_best_66 : decode cX10_best 66 = .ok (.iload 4, 2) := by decide +kernel
theorem dX10_best_68 : decode cX10_best 68 = .ok (.iload_n 1, 1) := by decide +kernel
theorem dX10_best_69 : decode cX10_best 69 = .ok (.iload_n 2, 1) := by decide +kernel
theorem dX10_best_70 : decode cX10_best 70 = .ok (.invokevirtual 183, 3) := by decide +kernel
theorem dX10_best_73 : decode cX10_best 73 = .ok (.aload_n 0, 1) := by decide +kernel
theorem dX10_best_74 : decode cX10_best 74 = .ok (.iload_n 1, 1) := by decide +kernel
theorem dX10_best_75 : decode cX10_best 75 = .ok (.iload_n 2, 1) := by decide +kernel
theorem dX10_best_76 : decode cX10_best 76 = .ok (.invokevirtual 175, 3) := by decide +kernel
theorem dX10_best_79 : decode cX10_best 79 = .ok (.lcmp, 1) := by decide +kernel
theorem dX10_best_80 : decode cX10_best 80 = .ok (.ifCond .ne 29, 3) := by decide +kernel
theorem dX10_best_83 : decode cX10_best 83 = .ok (.goto 23, 3) := by decide +kernel
theorem dX10_best_86 : decode cX10_best 86 = .ok (.aload_n 0, 1) := by decide +kernel
theorem dX10_best_87 : decode cX10_best 87 = .ok (.iload 4, 2) := by decide +kernel
theorem dX10_best_89 : decode cX10_best 89 = .ok (.iload_n 1, 1) := by decide +kernel
theorem dX10_best_90 : decode cX10_best 90 = .ok (.iload_n 2, 1) := by decide +kernel
theorem dX10_best_91 : decode cX10_best 91 = .ok (.iload_n 3, 1) := by decide +kernel
theorem dX10_best_92 : decode cX10_best 92 = .ok (.invokevirtual 194, 3) := by decide +kernel
theorem dX10_best_95 : decode cX10_best 95 = .ok (.aload_n 0, 1) := by decide +kernel
theorem dX10_best_96 : decode cX10_best 96 = .ok (.iload_n 1, 1) := by decide +kernel
theorem dX10_best_97 : decode cX10_best 97 = .ok (.iload_n 2, 1) := by decide +kernel
theorem dX10_best_98 : decode cX10_best 98 = .ok (.iload_n 3, 1) := by decide +kernel
theorem dX10_best_99 : decode cX10_best 99 = .ok (.invokevirtual 179, 3) := by decide +kernel
theorem dX10_best_102 : decode cX10_best 102 = .ok (.lcmp, 1) := by decide +kernel
theorem dX10_best_103 : decode cX10_best 103 = .ok (.ifCond .ne 6, 3) := by decide +kernel
theorem dX10_best_106 : decode cX10_best 106 = .ok (.iload 4, 2) := by decide +kernel
theorem dX10_best_108 : decode cX10_best 108 = .ok (.ireturn, 1) := by decide +kernel
theorem dX10_best_109 : decode cX10_best 109 = .ok (.iinc 4 1, 3) := by decide +kernel
theorem dX10_best_112 : decode cX10_best 112 = .ok (.goto (-68), 3) := by decide +kernel
theorem dX10_best_115 : decode cX10_best 115 = .ok (.iconst (-1), 1) := by decide +kernel
theorem dX10_best_116 : decode cX10_best 116 = .ok (.ireturn, 1) := by decide +kernel
theorem dX10_spendOf_0 : decode cX10_spendOf 0 = .ok (.aload_n 0, 1) := by decide +kernel
theorem dX10_spendOf_1 : decode cX10_spendOf 1 = .ok (.invokevirtual 202, 3) := by decide +kernel
theorem dX10_spendOf_4 : decode cX10_spendOf 4 = .ok (.aload_n 0, 1) := by decide +kernel
theorem dX10_spendOf_5 : decode cX10_spendOf 5 = .ok (.aload_n 0, 1) := by decide +kernel
theorem dX10_spendOf_6 : decode cX10_spendOf 6 = .ok (.getfield 7, 3) := by decide +kernel
theorem dX10_spendOf_9 : decode cX10_spendOf 9 = .ok (.aload_n 0, 1) := by decide +kernel
theorem dX10_spendOf_10 : decode cX10_spendOf 10 = .ok (.getfield 13, 3) := by decide +kernel
theorem dX10_spendOf_13 : decode cX10_spendOf 13 = .ok (.invokevirtual 175, 3) := by decide +kernel
theorem dX10_spendOf_16 : decode cX10_spendOf 16 = .ok (.lstore_n 3, 1) := by decide +kernel
theorem dX10_spendOf_17 : decode cX10_spendOf 17 = .ok (.lload_n 3, 1) := by decide +kernel
theorem dX10_spendOf_18 : decode cX10_spendOf 18 = .ok (.lconst 0, 1) := by decide +kernel
theorem dX10_spendOf_19 : decode cX10_spendOf 19 = .ok (.lcmp, 1) := by decide +kernel
theorem dX10_spendOf_20 : decode cX10_spendOf 20 = .ok (.ifCond .ne 7, 3) := by decide +kernel
theorem dX10_spendOf_23 : decode cX10_spendOf 23 = .ok (.iconst 0, 1) := by decide +kernel
theorem dX10_spendOf_24 : decode cX10_spendOf 24 = .ok (.goto 26, 3) := by decide +kernel
theorem dX10_spendOf_27 : decode cX10_spendOf 27 = .ok (.ldc2_w 209, 3) := by decide +kernel
theorem dX10_spendOf_30 : decode cX10_spendOf 30 = .ok (.aload_n 0, 1) := by decide +kernel
theorem dX10_spendOf_31 : decode cX10_spendOf 31 = .ok (.iload_n 1, 1) := by decide +kernel
theorem dX10_spendOf_32 : decode cX10_spendOf 32 = .ok (.iload_n 2, 1) := by decide +kernel
theorem dX10_spendOf_33 : decode cX10_spendOf 33 = .ok (.invokevirtual 175, 3) := by decide +kernel
theorem dX10_spendOf_36 : decode cX10_spendOf 36 = .ok (.lmul, 1) := by decide +kernel
theorem dX10_spendOf_37 : decode cX10_spendOf 37 = .ok (.aload_n 0, 1) := by decide +kernel
theorem dX10_spendOf_38 : decode cX10_spendOf 38 = .ok (.getfield 7, 3) := by decide +kernel
theorem dX10_spendOf_41 : decode cX10_spendOf 41 = .ok (.iload_n 1, 1) := by decide +kernel
theorem dX10_spendOf_42 : decode cX10_spendOf 42 = .ok (.isub, 1) := by decide +kernel
theorem dX10_spendOf_43 : decode cX10_spendOf 43 = .ok (.invokestatic 167, 3) := by decide +kernel
theorem dX10_spendOf_46 : decode cX10_spendOf 46 = .ok (.lmul, 1) := by decide +kernel
theorem dX10_spendOf_47 : decode cX10_spendOf 47 = .ok (.lload_n 3, 1) := by decide +kernel
theorem dX10_spendOf_48 : decode cX10_spendOf 48 = .ok (.ldiv, 1) := by decide +kernel
theorem dX10_spendOf_49 : decode cX10_spendOf 49 = .ok (.l2i, 1) := by decide +kernel
theorem dX10_spendOf_50 : decode cX10_spendOf 50 = .ok (.ireturn, 1) := by decide +kernel
theorem dX10_spend_0 : decode cX10_spend 0 = .ok (.aload_n 0, 1) := by decide +kernel
theorem dX10_spend_1 : decode cX10_spend 1 = .ok (.iload_n 1, 1) := by decide +kernel
theorem dX10_spend_2 : decode cX10_spend 2 = .ok (.iload_n 2, 1) := by decide +kernel
theorem dX10_spend_3 : decode cX10_spend 3 = .ok (.invokevirtual 198, 3) := by decide +kernel
theorem dX10_spend_6 : decode cX10_spend 6 = .ok (.ifCond .eq 12, 3) := by decide +kernel
theorem dX10_spend_9 : decode cX10_spend 9 = .ok (.aload_n 0, 1) := by decide +kernel
theorem dX10_spend_10 : decode cX10_spend 10 = .ok (.iload_n 1, 1) := by decide +kernel
theorem dX10_spend_11 : decode cX10_spend 11 = .ok (.iload_n 2, 1) := by decide +kernel
theorem dX10_spend_12 : decode cX10_spend 12 = .ok (.invokevirtual 211, 3) := by decide +kernel
theorem dX10_spend_15 : decode cX10_spend 15 = .ok (.goto 5, 3) := by decide +kernel
theorem dX10_spend_18 : decode cX10_spend 18 = .ok (.bipush (-3), 2) := by decide +kernel
theorem dX10_spend_20 : decode cX10_spend 20 = .ok (.ireturn, 1) := by decide +kernel
theorem dX10_bat_0 : decode cX10_bat 0 = .ok (.iload_n 1, 1) := by decide +kernel
theorem dX10_bat_1 : decode cX10_bat 1 = .ok (.iconst 0, 1) := by decide +kernel
theorem dX10_bat_2 : decode cX10_bat 2 = .ok (.bipush 36, 2) := by decide +kernel
theorem dX10_bat_4 : decode cX10_bat 4 = .ok (.invokestatic 72, 3) := by decide +kernel
theorem dX10_bat_7 : decode cX10_bat 7 = .ok (.ifCond .ne 6, 3) := by decide +kernel
theorem dX10_bat_10 : decode cX10_bat 10 = .ok (.bipush (-3), 2) := by decide +kernel
theorem dX10_bat_12 : decode cX10_bat 12 = .ok (.ireturn, 1) := by decide +kernel
theorem dX10_bat_13 : decode cX10_bat 13 = .ok (.aload_n 0, 1) := by decide +kernel
theorem dX10_bat_14 : decode cX10_bat 14 = .ok (.getfield 147, 3) := by decide +kernel
theorem dX10_bat_17 : decode cX10_bat 17 = .ok (.aload_n 0, 1) := by decide +kernel
theorem dX10_bat_18 : decode cX10_bat 18 = .ok (.getfield 7, 3) := by decide +kernel
theorem dX10_bat_21 : decode cX10_bat 21 = .ok (.if_icmp .ne 6, 3) := by decide +kernel
theorem dX10_bat_24 : decode cX10_bat 24 = .ok (.bipush (-5), 2) := by decide +kernel
theorem dX10_bat_26 : decode cX10_bat 26 = .ok (.ireturn, 1) := by decide +kernel
theorem dX10_bat_27 : decode cX10_bat 27 = .ok (.aload_n 0, 1) := by decide +kernel
theorem dX10_bat_28 : decode cX10_bat 28 = .ok (.getfield 38, 3) := by decide +kernel
theorem dX10_bat_31 : decode cX10_bat 31 = .ok (.aload_n 0, 1) := by decide +kernel
theorem dX10_bat_32 : decode cX10_bat 32 = .ok (.getfield 147, 3) := by decide +kernel
theorem dX10_bat_35 : decode cX10_bat 35 = .ok (.iload_n 1, 1) := by decide +kernel
theorem dX10_bat_36 : decode cX10_bat 36 = .ok (.iastore, 1) := by decide +kernel
theorem dX10_bat_37 : decode cX10_bat 37 = .ok (.aload_n 0, 1) := by decide +kernel
theorem dX10_bat_38 : decode cX10_bat 38 = .ok (.dup, 1) := by decide +kernel
theorem dX10_bat_39 : decode cX10_bat 39 = .ok (.getfield 147, 3) := by decide +kernel
theorem dX10_bat_42 : decode cX10_bat 42 = .ok (.iconst 1, 1) := by decide +kernel
theorem dX10_bat_43 : decode cX10_bat 43 = .ok (.iadd, 1) := by decide +kernel
theorem dX10_bat_44 : decode cX10_bat 44 = .ok (.putfield 147, 3) := by decide +kernel
theorem dX10_bat_47 : decode cX10_bat 47 = .ok (.aload_n 0, 1) := by decide +kernel
theorem dX10_bat_48 : decode cX10_bat 48 = .ok (.getfield 147, 3) := by decide +kernel
theorem dX10_bat_51 : decode cX10_bat 51 = .ok (.ireturn, 1) := by decide +kernel
theorem dX10_firstAll_0 : decode cX10_firstAll 0 = .ok (.iconst 0, 1) := by decide +kernel
theorem dX10_firstAll_1 : decode cX10_firstAll 1 = .ok (.istore_n 1, 1) := by decide +kernel
theorem dX10_firstAll_2 : decode cX10_firstAll 2 = .ok (.iconst 0, 1) := by decide +kernel
theorem dX10_firstAll_3 : decode cX10_firstAll 3 = .ok (.istore_n 2, 1) := by decide +kernel
theorem dX10_firstAll_4 : decode cX10_firstAll 4 = .ok (.iload_n 2, 1) := by decide +kernel
theorem dX10_firstAll_5 : decode cX10_firstAll 5 = .ok (.aload_n 0, 1) := by decide +kernel
theorem dX10_firstAll_6 : decode cX10_firstAll 6 = .ok (.getfield 147, 3) := by decide +kernel
theorem dX10_firstAll_9 : decode cX10_firstAll 9 = .ok (.if_icmp .ge 18, 3) := by decide +kernel
theorem dX10_firstAll_12 : decode cX10_firstAll 12 = .ok (.iload_n 1, 1) := by decide +kernel
theorem dX10_firstAll_13 : decode cX10_firstAll 13 = .ok (.aload_n 0, 1) := by decide +kernel
theorem dX10_firstAll_14 : decode cX10_firstAll 14 = .ok (.getfield 38, 3) := by decide +kernel
theorem dX10_firstAll_17 : decode cX10_firstAll 17 = .ok (.iload_n 2, 1) := by decide +kernel
theorem dX10_firstAll_18 : decode cX10_firstAll 18 = .ok (.iaload, 1) := by decide +kernel
theorem dX10_firstAll_19 : decode cX10_firstAll 19 = .ok (.iadd, 1) := by decide +kernel
theorem dX10_firstAll_20 : decode cX10_firstAll 20 = .ok (.istore_n 1, 1) := by decide +kernel
theorem dX10_firstAll_21 : decode cX10_firstAll 21 = .ok (.iinc 2 1, 3) := by decide +kernel
theorem dX10_firstAll_24 : decode cX10_firstAll 24 = .ok (.goto (-20), 3) := by decide +kernel
theorem dX10_firstAll_27 : decode cX10_firstAll 27 = .ok (.iload_n 1, 1) := by decide +kernel
theorem dX10_firstAll_28 : decode cX10_firstAll 28 = .ok (.ireturn, 1) := by decide +kernel
theorem dX10_anew_0 : decode cX10_anew 0 = .ok (.aload_n 0, 1) := by decide +kernel
theorem dX10_anew_1 : decode cX10_anew 1 = .ok (.invokevirtual 214, 3) := by decide +kernel
theorem dX10_anew_4 : decode cX10_anew 4 = .ok (.istore_n 1, 1) := by decide +kernel
theorem dX10_anew_5 : decode cX10_anew 5 = .ok (.aload_n 0, 1) := by decide +kernel
theorem dX10_anew_6 : decode cX10_anew 6 = .ok (.iconst 0, 1) := by decide +kernel
theorem dX10_anew_7 : decode cX10_anew 7 = .ok (.putfield 147, 3) := by decide +kernel
theorem dX10_anew_10 : decode cX10_anew 10 = .ok (.aload_n 0, 1) := by decide +kernel
theorem dX10_anew_11 : decode cX10_anew 11 = .ok (.iconst 0, 1) := by decide +kernel
theorem dX10_anew_12 : decode cX10_anew 12 = .ok (.putfield 156, 3) := by decide +kernel
theorem dX10_anew_15 : decode cX10_anew 15 = .ok (.iload_n 1, 1) := by decide +kernel
theorem dX10_anew_16 : decode cX10_anew 16 = .ok (.ireturn, 1) := by decide +kernel
theorem dX10_goTo_0 : decode cX10_goTo 0 = .ok (.aload_n 0, 1) := by decide +kernel
theorem dX10_goTo_1 : decode cX10_goTo 1 = .ok (.invokevirtual 218, 3) := by decide +kernel
theorem dX10_goTo_4 : decode cX10_goTo 4 = .ok (.iconst 0, 1) := by decide +kernel
theorem dX10_goTo_5 : decode cX10_goTo 5 = .ok (.istore_n 2, 1) := by decide +kernel
theorem dX10_goTo_6 : decode cX10_goTo 6 = .ok (.iload_n 2, 1) := by decide +kernel
theorem dX10_goTo_7 : decode cX10_goTo 7 = .ok (.iload_n 1, 1) := by decide +kernel
theorem dX10_goTo_8 : decode cX10_goTo 8 = .ok (.if_icmp .ge 73, 3) := by decide +kernel
theorem dX10_goTo_11 : decode cX10_goTo 11 = .ok (.aload_n 0, 1) := by decide +kernel
theorem dX10_goTo_12 : decode cX10_goTo 12 = .ok (.getfield 44, 3) := by decide +kernel
theorem dX10_goTo_15 : decode cX10_goTo 15 = .ok (.iload_n 2, 1) := by decide +kernel
theorem dX10_goTo_16 : decode cX10_goTo 16 = .ok (.iaload, 1) := by decide +kernel
theorem dX10_goTo_17 : decode cX10_goTo 17 = .ok (.ifCond .ne 48, 3) := by decide +kernel
theorem dX10_goTo_20 : decode cX10_goTo 20 = .ok (.aload_n 0, 1) := by decide +kernel
theorem dX10_goTo_21 : decode cX10_goTo 21 = .ok (.dup, 1) := by decide +kernel
theorem dX10_goTo_22 : decode cX10_goTo 22 = .ok (.getfield 221, 3) := by decide +kernel
theorem dX10_goTo_25 : decode cX10_goTo 25 = .ok (.iconst 1, 1) := by decide +kernel
theorem dX10_goTo_26 : decode cX10_goTo 26 = .ok (.isub, 1) := by decide +kernel
theorem dX10_goTo_27 : decode cX10_goTo 27 = .ok (.putfield 221, 3) := by decide +kernel
theorem dX10_goTo_30 : decode cX10_goTo 30 = .ok (.aload_n 0, 1) := by decide +kernel
theorem dX10_goTo_31 : decode cX10_goTo 31 = .ok (.aload_n 0, 1) := by decide +kernel
theorem dX10_goTo_32 : decode cX10_goTo 32 = .ok (.getfield 224, 3) := by decide +kernel
theorem dX10_goTo_35 : decode cX10_goTo 35 = .ok (.aload_n 0, 1) := by decide +kernel
theorem dX10_goTo_36 : decode cX10_goTo 36 = .ok (.getfield 50, 3) := by decide +kernel
theorem dX10_goTo_39 : decode cX10_goTo 39 = .ok (.iload_n 2, 1) := by decide +kernel
theorem dX10_goTo_40 : decode cX10_goTo 40 = .ok (.iaload, 1) := by decide +kernel
theorem dX10_goTo_41 : decode cX10_goTo 41 = .ok (.invokestatic 171, 3) := by decide +kernel
theorem dX10_goTo_44 : decode cX10_goTo 44 = .ok (.putfield 224, 3) := by decide +kernel
theorem dX10_goTo_47 : decode cX10_goTo 47 = .ok (.aload_n 0, 1) := by decide +kernel
theorem dX10_goTo_48 : decode cX10_goTo 48 = .ok (.dup, 1) := by decide +kernel
theorem dX10_goTo_49 : decode cX10_goTo 49 = .ok (.getfield 227, 3) := by decide +kernel
theorem dX10_goTo_52 : decode cX10_goTo 52 = .ok (.aload_n 0, 1) := by decide +kernel
theorem dX10_goTo_53 : decode cX10_goTo 53 = .ok (.getfield 47, 3) := by decide +kernel
theorem dX10_goTo_56 : decode cX10_goTo 56 = .ok (.iload_n 2, 1) := by decide +kernel
theorem dX10_goTo_57 : decode cX10_goTo 57 = .ok (.iaload, 1) := by decide +kernel
theorem dX10_goTo_58 : decode cX10_goTo 58 = .ok (.iadd, 1) := by decide +kernel
theorem dX10_goTo_59 : decode cX10_goTo 59 = .ok (.putfield 227, 3) := by decide +kernel
theorem dX10_goTo_62 : decode cX10_goTo 62 = .ok (.goto 13, 3) := by decide +kernel
theorem dX10_goTo_65 : decode cX10_goTo 65 = .ok (.aload_n 0, 1) := by decide +kernel
theorem dX10_goTo_66 : decode cX10_goTo 66 = .ok (.aload_n 0, 1) := by decide +kernel
theorem dX10_goTo_67 : decode cX10_goTo 67 = .ok (.getfield 47, 3) := by decide +kernel
theorem dX10_goTo_70 : decode cX10_goTo 70 = .ok (.iload_n 2, 1) := by decide +kernel
theorem dX10_goTo_71 : decode cX10_goTo 71 = .ok (.iaload, 1) := by decide +kernel
theorem dX10_goTo_72 : decode cX10_goTo 72 = .ok (.invokevirtual 230, 3) := by decide +kernel
theorem dX10_goTo_75 : decode cX10_goTo 75 = .ok (.iinc 2 1, 3) := by decide +kernel
theorem dX10_goTo_78 : decode cX10_goTo 78 = .ok (.goto (-72), 3) := by decide +kernel
theorem dX10_goTo_81 : decode cX10_goTo 81 = .ok (.return_, 1) := by decide +kernel
theorem dX10_begin_0 : decode cX10_begin 0 = .ok (.aload_n 0, 1) := by decide +kernel
theorem dX10_begin_1 : decode cX10_begin 1 = .ok (.invokevirtual 202, 3) := by decide +kernel
theorem dX10_begin_4 : decode cX10_begin 4 = .ok (.aload_n 0, 1) := by decide +kernel
theorem dX10_begin_5 : decode cX10_begin 5 = .ok (.aload_n 0, 1) := by decide +kernel
theorem dX10_begin_6 : decode cX10_begin 6 = .ok (.getfield 7, 3) := by decide +kernel
theorem dX10_begin_9 : decode cX10_begin 9 = .ok (.putfield 221, 3) := by decide +kernel
theorem dX10_begin_12 : decode cX10_begin 12 = .ok (.aload_n 0, 1) := by decide +kernel
theorem dX10_begin_13 : decode cX10_begin 13 = .ok (.aload_n 0, 1) := by decide +kernel
theorem dX10_begin_14 : decode cX10_begin 14 = .ok (.getfield 13, 3) := by decide +kernel
theorem dX10_begin_17 : decode cX10_begin 17 = .ok (.putfield 224, 3) := by decide +kernel
theorem dX10_begin_20 : decode cX10_begin 20 = .ok (.aload_n 0, 1) := by decide +kernel
theorem dX10_begin_21 : decode cX10_begin 21 = .ok (.iconst 0, 1) := by decide +kernel
theorem dX10_begin_22 : decode cX10_begin 22 = .ok (.putfield 227, 3) := by decide +kernel
theorem dX10_begin_25 : decode cX10_begin 25 = .ok (.aload_n 0, 1) := by decide +kernel
theorem dX10_begin_26 : decode cX10_begin 26 = .ok (.iconst 0, 1) := by decide +kernel
theorem dX10_begin_27 : decode cX10_begin 27 = .ok (.putfield 233, 3) := by decide +kernel
theorem dX10_begin_30 : decode cX10_begin 30 = .ok (.aload_n 0, 1) := by decide +kernel
theorem dX10_begin_31 : decode cX10_begin 31 = .ok (.iconst 0, 1) := by decide +kernel
theorem dX10_begin_32 : decode cX10_begin 32 = .ok (.putfield 236, 3) := by decide +kernel
theorem dX10_begin_35 : decode cX10_begin 35 = .ok (.aload_n 0, 1) := by decide +kernel
theorem dX10_begin_36 : decode cX10_begin 36 = .ok (.iconst 0, 1) := by decide +kernel
theorem dX10_begin_37 : decode cX10_begin 37 = .ok (.putfield 239, 3) := by decide +kernel
theorem dX10_begin_40 : decode cX10_begin 40 = .ok (.aload_n 0, 1) := by decide +kernel
theorem dX10_begin_41 : decode cX10_begin 41 = .ok (.aload_n 0, 1) := by decide +kernel
theorem dX10_begin_42 : decode cX10_begin 42 = .ok (.invokevirtual 214, 3) := by decide +kernel
theorem dX10_begin_45 : decode cX10_begin 45 = .ok (.iconst 1, 1) := by decide +kernel
theorem dX10_begin_46 : decode cX10_begin 46 = .ok (.iadd, 1) := by decide +kernel
theorem dX10_begin_47 : decode cX10_begin 47 = .ok (.putfield 242, 3) := by decide +kernel
theorem dX10_begin_50 : decode cX10_begin 50 = .ok (.return_, 1) := by decide +kernel
theorem dX10_bentOf_0 : decode cX10_bentOf 0 = .ok (.aload_n 0, 1) := by decide +kernel
theorem dX10_bentOf_1 : decode cX10_bentOf 1 = .ok (.invokevirtual 214, 3) := by decide +kernel
theorem dX10_bentOf_4 : decode cX10_bentOf 4 = .ok (.aload_n 0, 1) := by decide +kernel
theorem dX10_bentOf_5 : decode cX10_bentOf 5 = .ok (.getfield 23, 3) := by decide +kernel
theorem dX10_bentOf_8 : decode cX10_bentOf 8 = .ok (.isub, 1) := by decide +kernel
theorem dX10_bentOf_9 : decode cX10_bentOf 9 = .ok (.istore_n 3, 1) := by decide +kernel
theorem dX10_bentOf_10 : decode cX10_bentOf 10 = .ok (.iload_n 3, 1) := by decide +kernel
theorem dX10_bentOf_11 : decode cX10_bentOf 11 = .ok (.ifCond .ge 7, 3) := by decide +kernel
theorem dX10_bentOf_14 : decode cX10_bentOf 14 = .ok (.iconst 0, 1) := by decide +kernel
theorem dX10_bentOf_15 : decode cX10_bentOf 15 = .ok (.goto 19, 3) := by decide +kernel
theorem dX10_bentOf_18 : decode cX10_bentOf 18 = .ok (.iload_n 3, 1) := by decide +kernel
theorem dX10_bentOf_19 : decode cX10_bentOf 19 = .ok (.aload_n 0, 1) := by decide +kernel
theorem dX10_bentOf_20 : decode cX10_bentOf 20 = .ok (.getfield 26, 3) := by decide +kernel
theorem dX10_bentOf_23 : decode cX10_bentOf 23 = .ok (.if_icmp .le 10, 3) := by decide +kernel
theorem dX10_bentOf_26 : decode cX10_bentOf 26 = .ok (.aload_n 0, 1) := by decide +kernel
theorem dX10_bentOf_27 : decode cX10_bentOf 27 = .ok (.getfield 26, 3) := by decide +kernel
theorem dX10_bentOf_30 : decode cX10_bentOf 30 = .ok (.goto 4, 3) := by decide +kernel
theorem dX10_bentOf_33 : decode cX10_bentOf 33 = .ok (.iload_n 3, 1) := by decide +kernel
theorem dX10_bentOf_34 : decode cX10_bentOf 34 = .ok (.istore_n 3, 1) := by decide +kernel
theorem dX10_bentOf_35 : decode cX10_bentOf 35 = .ok (.aload_n 0, 1) := by decide +kernel
theorem dX10_bentOf_36 : decode cX10_bentOf 36 = .ok (.iload_n 1, 1) := by decide +kernel
theorem dX10_bentOf_37 : decode cX10_bentOf 37 = .ok (.iload_n 2, 1) := by decide +kernel
theorem dX10_bentOf_38 : decode cX10_bentOf 38 = .ok (.invokevirtual 211, 3) := by decide +kernel
theorem dX10_bentOf_41 : decode cX10_bentOf 41 = .ok (.aload_n 0, 1) := by decide +kernel
theorem dX10_bentOf_42 : decode cX10_bentOf 42 = .ok (.getfield 26, 3) := by decide +kernel
theorem dX10_bentOf_45 : decode cX10_bentOf 45 = .ok (.iload_n 3, 1) := by decide +kernel
theorem dX10_bentOf_46 : decode cX10_bentOf 46 = .ok (.isub, 1) := by decide +kernel
theorem dX10_bentOf_47 : decode cX10_bentOf 47 = .ok (.imul, 1) := by decide +kernel
theorem dX10_bentOf_48 : decode cX10_bentOf 48 = .ok (.sipush 1000, 3) := by decide +kernel
theorem dX10_bentOf_51 : decode cX10_bentOf 51 = .ok (.iload_n 1, 1) := by decide +kernel
theorem dX10_bentOf_52 : decode cX10_bentOf 52 = .ok (.imul, 1) := by decide +kernel
theorem dX10_bentOf_53 : decode cX10_bentOf 53 = .ok (.aload_n 0, 1) := by decide +kernel
theorem dX10_bentOf_54 : decode cX10_bentOf 54 = .ok (.getfield 7, 3) := by decide +kernel
theorem dX10_bentOf_57 : decode cX10_bentOf 57 = .ok (.idiv, 1) := by decide +kernel
theorem dX10_bentOf_58 : decode cX10_bentOf 58 = .ok (.iload_n 3, 1) := by decide +kernel
theorem dX10_bentOf_59 : decode cX10_bentOf 59 = .ok (.imul, 1) := by decide +kernel
theorem dX10_bentOf_60 : decode cX10_bentOf 60 = .ok (.iadd, 1) := by decide +kernel
theorem dX10_bentOf_61 : decode cX10_bentOf 61 = .ok (.aload_n 0, 1) := by decide +kernel
theorem dX10_bentOf_62 : decode cX10_bentOf 62 = .ok (.getfield 26, 3) := by decide +kernel
theorem dX10_bentOf_65 : decode cX10_bentOf 65 = .ok (.idiv, 1) := by decide +kernel
theorem dX10_bentOf_66 : decode cX10_bentOf 66 = .ok (.ireturn, 1) := by decide +kernel
theorem dX10_rained_0 : decode cX10_rained 0 = .ok (.aload_n 0, 1) := by decide +kernel
theorem dX10_rained_1 : decode cX10_rained 1 = .ok (.getfield 221, 3) := by decide +kernel
theorem dX10_rained_4 : decode cX10_rained 4 = .ok (.iload_n 1, 1) := by decide +kernel
theorem dX10_rained_5 : decode cX10_rained 5 = .ok (.isub, 1) := by decide +kernel
theorem dX10_rained_6 : decode cX10_rained 6 = .ok (.istore_n 2, 1) := by decide +kernel
theorem dX10_rained_7 : decode cX10_rained 7 = .ok (.aload_n 0, 1) := by decide +kernel
theorem dX10_rained_8 : decode cX10_rained 8 = .ok (.dup, 1) := by decide +kernel
theorem dX10_rained_9 : decode cX10_rained 9 = .ok (.getfield 236, 3) := by decide +kernel
theorem dX10_rained_12 : decode cX10_rained 12 = .ok (.aload_n 0, 1) := by decide +kernel
theorem dX10_rained_13 : decode cX10_rained 13 = .ok (.aload_n 0, 1) := by decide +kernel
theorem dX10_rained_14 : decode cX10_rained 14 = .ok (.getfield 221, 3) := by decide +kernel
theorem dX10_rained_17 : decode cX10_rained 17 = .ok (.aload_n 0, 1) := by decide +kernel
theorem dX10_rained_18 : decode cX10_rained 18 = .ok (.getfield 224, 3) := by decide +kernel
theorem dX10_rained_21 : decode cX10_rained 21 = .ok (.invokevirtual 211, 3) := by decide +kernel
theorem dX10_rained_24 : decode cX10_rained 24 = .ok (.aload_n 0, 1) := by decide +kernel
theorem dX10_rained_25 : decode cX10_rained 25 = .ok (.iload_n 2, 1) := by decide +kernel
theorem dX10_rained_26 : decode cX10_rained 26 = .ok (.aload_n 0, 1) := by decide +kernel
theorem dX10_rained_27 : decode cX10_rained 27 = .ok (.getfield 224, 3) := by decide +kernel
theorem dX10_rained_30 : decode cX10_rained 30 = .ok (.invokevirtual 211, 3) := by decide +kernel
theorem dX10_rained_33 : decode cX10_rained 33 = .ok (.isub, 1) := by decide +kernel
theorem dX10_rained_34 : decode cX10_rained 34 = .ok (.iadd, 1) := by decide +kernel
theorem dX10_rained_35 : decode cX10_rained 35 = .ok (.putfield 236, 3) := by decide +kernel
theorem dX10_rained_38 : decode cX10_rained 38 = .ok (.aload_n 0, 1) := by decide +kernel
theorem dX10_rained_39 : decode cX10_rained 39 = .ok (.dup, 1) := by decide +kernel
theorem dX10_rained_40 : decode cX10_rained 40 = .ok (.getfield 239, 3) := by decide +kernel
theorem dX10_rained_43 : decode cX10_rained 43 = .ok (.aload_n 0, 1) := by decide +kernel
theorem dX10_rained_44 : decode cX10_rained 44 = .ok (.aload_n 0, 1) := by decide +kernel
theorem dX10_rained_45 : decode cX10_rained 45 = .ok (.getfield 221, 3) := by decide +kernel
theorem dX10_rained_48 : decode cX10_rained 48 = .ok (.aload_n 0, 1) := by decide +kernel
theorem dX10_rained_49 : decode cX10_rained 49 = .ok (.getfield 224, 3) := by decide +kernel
theorem dX10_rained_52 : decode cX10_rained 52 = .ok (.invokevirtual 245, 3) := by decide +kernel
theorem dX10_rained_55 : decode cX10_rained 55 = .ok (.aload_n 0, 1) := by decide +kernel
theorem dX10_rained_56 : decode cX10_rained 56 = .ok (.iload_n 2, 1) := by decide +kernel
theorem dX10_rained_57 : decode cX10_rained 57 = .ok (.aload_n 0, 1) := by decide +kernel
theorem dX10_rained_58 : decode cX10_rained 58 = .ok (.getfield 224, 3) := by decide +kernel
theorem dX10_rained_61 : decode cX10_rained 61 = .ok (.invokevirtual 245, 3) := by decide +kernel
theorem dX10_rained_64 : decode cX10_rained 64 = .ok (.isub, 1) := by decide +kernel
theorem dX10_rained_65 : decode cX10_rained 65 = .ok (.iadd, 1) := by decide +kernel
theorem dX10_rained_66 : decode cX10_rained 66 = .ok (.putfield 239, 3) := by decide +kernel
theorem dX10_rained_69 : decode cX10_rained 69 = .ok (.aload_n 0, 1) := by decide +kernel
theorem dX10_rained_70 : decode cX10_rained 70 = .ok (.aload_n 0, 1) := by decide +kernel
theorem dX10_rained_71 : decode cX10_rained 71 = .ok (.getfield 221, 3) := by decide +kernel
theorem dX10_rained_74 : decode cX10_rained 74 = .ok (.aload_n 0, 1) := by decide +kernel
theorem dX10_rained_75 : decode cX10_rained 75 = .ok (.getfield 224, 3) := by decide +kernel
theorem dX10_rained_78 : decode cX10_rained 78 = .ok (.aload_n 0, 1) := by decide +kernel
theorem dX10_rained_79 : decode cX10_rained 79 = .ok (.getfield 242, 3) := by decide +kernel
theorem dX10_rained_82 : decode cX10_rained 82 = .ok (.aload_n 0, 1) := by decide +kernel
theorem dX10_rained_83 : decode cX10_rained 83 = .ok (.getfield 227, 3) := by decide +kernel
theorem dX10_rained_86 : decode cX10_rained 86 = .ok (.isub, 1) := by decide +kernel
theorem dX10_rained_87 : decode cX10_rained 87 = .ok (.invokevirtual 179, 3) := by decide +kernel
theorem dX10_rained_90 : decode cX10_rained 90 = .ok (.lstore_n 3, 1) := by decide +kernel
theorem dX10_rained_91 : decode cX10_rained 91 = .ok (.aload_n 0, 1) := by decide +kernel
theorem dX10_rained_92 : decode cX10_rained 92 = .ok (.getfield 242, 3) := by decide +kernel
theorem dX10_rained_95 : decode cX10_rained 95 = .ok (.istore 5, 2) := by decide +kernel
theorem dX10_rained_97 : decode cX10_rained 97 = .ok (.iload 5, 2) := by decide +kernel
theorem dX10_rained_99 : decode cX10_rained 99 = .ok (.iconst 1, 1) := by decide +kernel
theorem dX10_rained_100 : decode cX10_rained 100 = .ok (.if_icmp .le 35, 3) := by decide +kernel
theorem dX10_rained_103 : decode cX10_rained 103 = .ok (.aload_n 0, 1) := by decide +kernel
theorem dX10_rained_104 : decode cX10_rained 104 = .ok (.iload_n 2, 1) := by decide +kernel
theorem dX10_rained_105 : decode cX10_rained 105 = .ok (.aload_n 0, 1) := by decide +kernel
theorem dX10_rained_106 : decode cX10_rained 106 = .ok (.getfield 224, 3) := by decide +kernel
theorem dX10_rained_109 : decode cX10_rained 109 = .ok (.iload 5, 2) := by decide +kernel
theorem dX10_rained_111 : decode cX10_rained 111 = .ok (.aload_n 0, 1) := by decide +kernel
theorem dX10_rained_112 : decode cX10_rained 112 = .ok (.getfield 227, 3) := by decide +kernel
theorem dX10_rained_115 : decode cX10_rained 115 = .ok (.isub, 1) := by decide +kernel
theorem dX10_rained_116 : decode cX10_rained 116 = .ok (.invokevirtual 179, 3) := by decide +kernel
theorem dX10_rained_119 : decode cX10_rained 119 = .ok (.iload_n 1, 1) := by decide +kernel
theorem dX10_rained_120 : decode cX10_rained 120 = .ok (.invokestatic 167, 3) := by decide +kernel
theorem dX10_rained_123 : decode cX10_rained 123 = .ok (.lmul, 1) := by decide +kernel
theorem dX10_rained_124 : decode cX10_rained 124 = .ok (.lload_n 3, 1) := by decide +kernel
theorem dX10_rained_125 : decode cX10_rained 125 = .ok (.lcmp, 1) := by decide +kernel
theorem dX10_rained_126 : decode cX10_rained 126 = .ok (.ifCond .ge 9, 3) := by decide +kernel
theorem dX10_rained_129 : decode cX10_rained 129 = .ok (.iinc 5 (-1), 3) := by decide +kernel
theorem dX10_rained_132 : decode cX10_rained 132 = .ok (.goto (-35), 3) := by decide +kernel
theorem dX10_rained_135 : decode cX10_rained 135 = .ok (.aload_n 0, 1) := by decide +kernel
theorem dX10_rained_136 : decode cX10_rained 136 = .ok (.iload 5, 2) := by decide +kernel
theorem dX10_rained_138 : decode cX10_rained 138 = .ok (.putfield 242, 3) := by decide +kernel
theorem dX10_rained_141 : decode cX10_rained 141 = .ok (.aload_n 0, 1) := by decide +kernel
theorem dX10_rained_142 : decode cX10_rained 142 = .ok (.dup, 1) := by decide +kernel
theorem dX10_rained_143 : decode cX10_rained 143 = .ok (.getfield 233, 3) := by decide +kernel
theorem dX10_rained_146 : decode cX10_rained 146 = .ok (.iload_n 1, 1) := by decide +kernel
theorem dX10_rained_147 : decode cX10_rained 147 = .ok (.iadd, 1) := by decide +kernel
theorem dX10_rained_148 : decode cX10_rained 148 = .ok (.putfield 233, 3) := by decide +kernel
theorem dX10_rained_151 : decode cX10_rained 151 = .ok (.aload_n 0, 1) := by decide +kernel
theorem dX10_rained_152 : decode cX10_rained 152 = .ok (.iload_n 2, 1) := by decide +kernel
theorem dX10_rained_153 : decode cX10_rained 153 = .ok (.putfield 221, 3) := by decide +kernel
theorem dX10_rained_156 : decode cX10_rained 156 = .ok (.return_, 1) := by decide +kernel
theorem dX10_worst_0 : decode cX10_worst 0 = .ok (.iconst 0, 1) := by decide +kernel
theorem dX10_worst_1 : decode cX10_worst 1 = .ok (.istore_n 1, 1) := by decide +kernel
theorem dX10_worst_2 : decode cX10_worst 2 = .ok (.iload_n 1, 1) := by decide +kernel
theorem dX10_worst_3 : decode cX10_worst 3 = .ok (.aload_n 0, 1) := by decide +kernel
theorem dX10_worst_4 : decode cX10_worst 4 = .ok (.getfield 7, 3) := by decide +kernel
theorem dX10_worst_7 : decode cX10_worst 7 = .ok (.if_icmp .ge 73, 3) := by decide +kernel
theorem dX10_worst_10 : decode cX10_worst 10 = .ok (.iload_n 1, 1) := by decide +kernel
theorem dX10_worst_11 : decode cX10_worst 11 = .ok (.aload_n 0, 1) := by decide +kernel
theorem dX10_worst_12 : decode cX10_worst 12 = .ok (.getfield 147, 3) := by decide +kernel
theorem dX10_worst_15 : decode cX10_worst 15 = .ok (.if_icmp .ge 12, 3) := by decide +kernel
theorem dX10_worst_18 : decode cX10_worst 18 = .ok (.aload_n 0, 1) := by decide +kernel
theorem dX10_worst_19 : decode cX10_worst 19 = .ok (.getfield 38, 3) := by decide +kernel
theorem dX10_worst_22 : decode cX10_worst 22 = .ok (.iload_n 1, 1) := by decide +kernel
theorem dX10_worst_23 : decode cX10_worst 23 = .ok (.iaload, 1) := by decide +kernel
theorem dX10_worst_24 : decode cX10_worst 24 = .ok (.goto 4, 3) := by decide +kernel
theorem dX10_worst_27 : decode cX10_worst 27 = .ok (.iconst 0, 1) := by decide +kernel
theorem dX10_worst_28 : decode cX10_worst 28 = .ok (.istore_n 2, 1) := by decide +kernel
theorem dX10_worst_29 : decode cX10_worst 29 = .ok (.iload_n 1, 1) := by decide +kernel
theorem dX10_worst_30 : decode cX10_worst 30 = .ok (.istore_n 3, 1) := by decide +kernel
theorem dX10_worst_31 : decode cX10_worst 31 = .ok (.iload_n 3, 1) := by decide +kernel
theorem dX10_worst_32 : decode cX10_worst 32 = .ok (.ifCond .le 35, 3) := by decide +kernel
theorem dX10_worst_35 : decode cX10_worst 35 = .ok (.aload_n 0, 1) := by decide +kernel
theorem dX10_worst_36 : decode cX10_worst 36 = .ok (.getfield 41, 3) := by decide +kernel
theorem dX10_worst_39 : decode cX10_worst 39 = .ok (.iload_n 3, 1) := by decide +kernel
theorem dX10_worst_40 : decode cX10_worst 40 = .ok (.iconst 1, 1) := by decide +kernel
theorem dX10_worst_41 : decode cX10_worst 41 = .ok (.isub, 1) := by decide +kernel
theorem dX10_worst_42 : decode cX10_worst 42 = .ok (.iaload, 1) := by decide +kernel
theorem dX10_worst_43 : decode cX10_worst 43 = .ok (.iload_n 2, 1) := by decide +kernel
theorem dX10_worst_44 : decode cX10_worst 44 = .ok (.if_icmp .le 23, 3) := by decide +kernel
theorem dX10_worst_47 : decode cX10_worst 47 = .ok (.aload_n 0, 1) := by decide +kernel
theorem dX10_worst_48 : decode cX10_worst 48 = .ok (.getfield 41, 3) := by decide +kernel
theorem dX10_worst_51 : decode cX10_worst 51 = .ok (.iload_n 3, 1) := by decide +kernel
theorem dX10_worst_52 : decode cX10_worst 52 = .ok (.aload_n 0, 1) := by decide +kernel
theorem dX10_worst_53 : decode cX10_worst 53 = .ok (.getfield 41, 3) := by decide +kernel
theorem dX10_worst_56 : decode cX10_worst 56 = .ok (.iload_n 3, 1) := by decide +kernel
theorem dX10_worst_57 : decode cX10_worst 57 = .ok (.iconst 1, 1) := by decide +kernel
theorem dX10_worst_58 : decode cX10_worst 58 = .ok (.isub, 1) := by decide +kernel
theorem dX10_worst_59 : decode cX10_worst 59 = .ok (.iaload, 1) := by decide +kernel
theorem dX10_worst_60 : decode cX10_worst 60 = .ok (.iastore, 1) := by decide +kernel
theorem dX10_worst_61 : decode cX10_worst 61 = .ok (.iinc 3 (-1), 3) := by decide +kernel
theorem dX10_worst_64 : decode cX10_worst 64 = .ok (.goto (-33), 3) := by decide +kernel
theorem dX10_worst_67 : decode cX10_worst 67 = .ok (.aload_n 0, 1) := by decide +kernel
theorem dX10_worst_68 : decode cX10_worst 68 = .ok (.getfield 41, 3) := by decide +kernel
theorem dX10_worst_71 : decode cX10_worst 71 = .ok (.iload_n 3, 1) := by decide +kernel
theorem dX10_worst_72 : decode cX10_worst 72 = .ok (.iload_n 2, 1) := by decide +kernel
theorem dX10_worst_73 : decode cX10_worst 73 = .ok (.iastore, 1) := by decide +kernel
theorem dX10_worst_74 : decode cX10_worst 74 = .ok (.iinc 1 1, 3) := by decide +kernel
theorem dX10_worst_77 : decode cX10_worst 77 = .ok (.goto (-75), 3) := by decide +kernel
theorem dX10_worst_80 : decode cX10_worst 80 = .ok (.aload_n 0, 1) := by decide +kernel
theorem dX10_worst_81 : decode cX10_worst 81 = .ok (.invokevirtual 214, 3) := by decide +kernel
theorem dX10_worst_84 : decode cX10_worst 84 = .ok (.istore_n 1, 1) := by decide +kernel
theorem dX10_worst_85 : decode cX10_worst 85 = .ok (.iconst 0, 1) := by decide +kernel
theorem dX10_worst_86 : decode cX10_worst 86 = .ok (.istore_n 2, 1) := by decide +kernel
theorem dX10_worst_87 : decode cX10_worst 87 = .ok (.iload_n 2, 1) := by decide +kernel
theorem dX10_worst_88 : decode cX10_worst 88 = .ok (.aload_n 0, 1) := by decide +kernel
theorem dX10_worst_89 : decode cX10_worst 89 = .ok (.getfield 233, 3) := by decide +kernel
theorem dX10_worst_92 : decode cX10_worst 92 = .ok (.if_icmp .ge 18, 3) := by decide +kernel
theorem dX10_worst_95 : decode cX10_worst 95 = .ok (.iload_n 1, 1) := by decide +kernel
theorem dX10_worst_96 : decode cX10_worst 96 = .ok (.aload_n 0, 1) := by decide +kernel
theorem dX10_worst_97 : decode cX10_worst 97 = .ok (.getfield 41, 3) := by decide +kernel
theorem dX10_worst_100 : decode cX10_worst 100 = .ok (.iload_n 2, 1) := by decide +kernel
theorem dX10_worst_101 : decode cX10_worst 101 = .ok (.iaload, 1) := by decide +kernel
theorem dX10_worst_102 : decode cX10_worst 102 = .ok (.isub, 1) := by decide +kernel
theorem dX10_worst_103 : decode cX10_worst 103 = .ok (.istore_n 1, 1) := by decide +kernel
theorem dX10_worst_104 : decode cX10_worst 104 = .ok (.iinc 2 1, 3) := by decide +kernel
theorem dX10_worst_107 : decode cX10_worst 107 = .ok (.goto (-20), 3) := by decide +kernel
theorem dX10_worst_110 : decode cX10_worst 110 = .ok (.iload_n 1, 1) := by decide +kernel
theorem dX10_worst_111 : decode cX10_worst 111 = .ok (.iconst 1, 1) := by decide +kernel
theorem dX10_worst_112 : decode cX10_worst 112 = .ok (.iadd, 1) := by decide +kernel
theorem dX10_worst_113 : decode cX10_worst 113 = .ok (.ireturn, 1) := by decide +kernel
theorem dX10_targetNow_0 : decode cX10_targetNow 0 = .ok (.aload_n 0, 1) := by decide +kernel
theorem dX10_targetNow_1 : decode cX10_targetNow 1 = .ok (.invokevirtual 214, 3) := by decide +kernel
theorem dX10_targetNow_4 : decode cX10_targetNow 4 = .ok (.istore_n 2, 1) := by decide +kernel
theorem dX10_targetNow_5 : decode cX10_targetNow 5 = .ok (.iconst 0, 1) := by decide +kernel
theorem dX10_targetNow_6 : decode cX10_targetNow 6 = .ok (.istore_n 3, 1) := by decide +kernel
theorem dX10_targetNow_7 : decode cX10_targetNow 7 = .ok (.iload_n 1, 1) := by decide +kernel
theorem dX10_targetNow_8 : decode cX10_targetNow 8 = .ok (.tableswitch 114 0 4 #[36, 58, 66, 86, 106], 36) := by decide +kernel
theorem dX10_targetNow_44 : decode cX10_targetNow 44 = .ok (.iload_n 2, 1) := by decide +kernel
theorem dX10_targetNow_45 : decode cX10_targetNow 45 = .ok (.aload_n 0, 1) := by decide +kernel
theorem dX10_targetNow_46 : decode cX10_targetNow 46 = .ok (.getfield 7, 3) := by decide +kernel
theorem dX10_targetNow_49 : decode cX10_targetNow 49 = .ok (.aload_n 0, 1) := by decide +kernel
theorem dX10_targetNow_50 : decode cX10_targetNow 50 = .ok (.getfield 233, 3) := by decide +kernel
theorem dX10_targetNow_53 : decode cX10_targetNow 53 = .ok (.isub, 1) := by decide +kernel
theorem dX10_targetNow_54 : decode cX10_targetNow 54 = .ok (.imul, 1) := by decide +kernel
theorem dX10_targetNow_55 : decode cX10_targetNow 55 = .ok (.aload_n 0, 1) := by decide +kernel
theorem dX10_targetNow_56 : decode cX10_targetNow 56 = .ok (.getfield 7, 3) := by decide +kernel
theorem dX10_targetNow_59 : decode cX10_targetNow 59 = .ok (.idiv, 1) := by decide +kernel
theorem dX10_targetNow_60 : decode cX10_targetNow 60 = .ok (.iconst 1, 1) := by decide +kernel
theorem dX10_targetNow_61 : decode cX10_targetNow 61 = .ok (.iadd, 1) := by decide +kernel
theorem dX10_targetNow_62 : decode cX10_targetNow 62 = .ok (.istore_n 3, 1) := by decide +kernel
theorem dX10_targetNow_63 : decode cX10_targetNow 63 = .ok (.goto 73, 3) := by decide +kernel
theorem dX10_targetNow_66 : decode cX10_targetNow 66 = .ok (.aload_n 0, 1) := by decide +kernel
theorem dX10_targetNow_67 : decode cX10_targetNow 67 = .ok (.invokevirtual 248, 3) := by decide +kernel
theorem dX10_targetNow_70 : decode cX10_targetNow 70 = .ok (.istore_n 3, 1) := by decide +kernel
theorem dX10_targetNow_71 : decode cX10_targetNow 71 = .ok (.goto 65, 3) := by decide +kernel
theorem dX10_targetNow_74 : decode cX10_targetNow 74 = .ok (.iload_n 2, 1) := by decide +kernel
theorem dX10_targetNow_75 : decode cX10_targetNow 75 = .ok (.sipush 1000, 3) := by decide +kernel
theorem dX10_targetNow_78 : decode cX10_targetNow 78 = .ok (.aload_n 0, 1) := by decide +kernel
theorem dX10_targetNow_79 : decode cX10_targetNow 79 = .ok (.getfield 236, 3) := by decide +kernel
theorem dX10_targetNow_82 : decode cX10_targetNow 82 = .ok (.isub, 1) := by decide +kernel
theorem dX10_targetNow_83 : decode cX10_targetNow 83 = .ok (.imul, 1) := by decide +kernel
theorem dX10_targetNow_84 : decode cX10_targetNow 84 = .ok (.sipush 1000, 3) := by decide +kernel
theorem dX10_targetNow_87 : decode cX10_targetNow 87 = .ok (.idiv, 1) := by decide +kernel
theorem dX10_targetNow_88 : decode cX10_targetNow 88 = .ok (.iconst 1, 1) := by decide +kernel
theorem dX10_targetNow_89 : decode cX10_targetNow 89 = .ok (.iadd, 1) := by decide +kernel
theorem dX10_targetNow_90 : decode cX10_targetNow 90 = .ok (.istore_n 3, 1) := by decide +kernel
theorem dX10_targetNow_91 : decode cX10_targetNow 91 = .ok (.goto 45, 3) := by decide +kernel
theorem dX10_targetNow_94 : decode cX10_targetNow 94 = .ok (.iload_n 2, 1) := by decide +kernel
theorem dX10_targetNow_95 : decode cX10_targetNow 95 = .ok (.sipush 1000, 3) := by decide +kernel
theorem dX10_targetNow_98 : decode cX10_targetNow 98 = .ok (.aload_n 0, 1) := by decide +kernel
theorem dX10_targetNow_99 : decode cX10_targetNow 99 = .ok (.getfield 239, 3) := by decide +kernel
theorem dX10_targetNow_102 : decode cX10_targetNow 102 = .ok (.isub, 1) := by decide +kernel
theorem dX10_targetNow_103 : decode cX10_targetNow 103 = .ok (.imul, 1) := by decide +kernel
theorem dX10_targetNow_104 : decode cX10_targetNow 104 = .ok (.sipush 1000, 3) := by decide +kernel
theorem dX10_targetNow_107 : decode cX10_targetNow 107 = .ok (.idiv, 1) := by decide +kernel
theorem dX10_targetNow_108 : decode cX10_targetNow 108 = .ok (.iconst 1, 1) := by decide +kernel
theorem dX10_targetNow_109 : decode cX10_targetNow 109 = .ok (.iadd, 1) := by decide +kernel
theorem dX10_targetNow_110 : decode cX10_targetNow 110 = .ok (.istore_n 3, 1) := by decide +kernel
theorem dX10_targetNow_111 : decode cX10_targetNow 111 = .ok (.goto 25, 3) := by decide +kernel
theorem dX10_targetNow_114 : decode cX10_targetNow 114 = .ok (.aload_n 0, 1) := by decide +kernel
theorem dX10_targetNow_115 : decode cX10_targetNow 115 = .ok (.getfield 242, 3) := by decide +kernel
theorem dX10_targetNow_118 : decode cX10_targetNow 118 = .ok (.istore_n 3, 1) := by decide +kernel
theorem dX10_targetNow_119 : decode cX10_targetNow 119 = .ok (.goto 17, 3) := by decide +kernel
theorem dX10_targetNow_122 : decode cX10_targetNow 122 = .ok (.iload_n 2, 1) := by decide +kernel
theorem dX10_targetNow_123 : decode cX10_targetNow 123 = .ok (.iconst 1, 1) := by decide +kernel
theorem dX10_targetNow_124 : decode cX10_targetNow 124 = .ok (.iadd, 1) := by decide +kernel
theorem dX10_targetNow_125 : decode cX10_targetNow 125 = .ok (.aload_n 0, 1) := by decide +kernel
theorem dX10_targetNow_126 : decode cX10_targetNow 126 = .ok (.getfield 29, 3) := by decide +kernel
theorem dX10_targetNow_129 : decode cX10_targetNow 129 = .ok (.aload_n 0, 1) := by decide +kernel
theorem dX10_targetNow_130 : decode cX10_targetNow 130 = .ok (.getfield 233, 3) := by decide +kernel
theorem dX10_targetNow_133 : decode cX10_targetNow 133 = .ok (.imul, 1) := by decide +kernel
theorem dX10_targetNow_134 : decode cX10_targetNow 134 = .ok (.isub, 1) := by decide +kernel
theorem dX10_targetNow_135 : decode cX10_targetNow 135 = .ok (.istore_n 3, 1) := by decide +kernel
theorem dX10_targetNow_136 : decode cX10_targetNow 136 = .ok (.iload_n 3, 1) := by decide +kernel
theorem dX10_targetNow_137 : decode cX10_targetNow 137 = .ok (.iconst 1, 1) := by decide +kernel
theorem dX10_targetNow_138 : decode cX10_targetNow 138 = .ok (.if_icmp .ge 7, 3) := by decide +kernel
theorem dX10_targetNow_141 : decode cX10_targetNow 141 = .ok (.iconst 1, 1) := by decide +kernel
theorem dX10_targetNow_142 : decode cX10_targetNow 142 = .ok (.goto 4, 3) := by decide +kernel
theorem dX10_targetNow_145 : decode cX10_targetNow 145 = .ok (.iload_n 3, 1) := by decide +kernel
theorem dX10_targetNow_146 : decode cX10_targetNow 146 = .ok (.ireturn, 1) := by decide +kernel
theorem dX10_isRule_0 : decode cX10_isRule 0 = .ok (.iload_n 0, 1) := by decide +kernel
theorem dX10_isRule_1 : decode cX10_isRule 1 = .ok (.iconst 0, 1) := by decide +kernel
theorem dX10_isRule_2 : decode cX10_isRule 2 = .ok (.iconst 5, 1) := by decide +kernel
theorem dX10_isRule_3 : decode cX10_isRule 3 = .ok (.invokestatic 72, 3) := by decide +kernel
theorem dX10_isRule_6 : decode cX10_isRule 6 = .ok (.ireturn, 1) := by decide +kernel
theorem dX10_millionths_0 : decode cX10_millionths 0 = .ok (.iload_n 2, 1) := by decide +kernel
theorem dX10_millionths_1 : decode cX10_millionths 1 = .ok (.bipush 6, 2) := by decide +kernel
theorem dX10_millionths_3 : decode cX10_millionths 3 = .ok (.if_icmp .le 15, 3) := by decide +kernel
theorem dX10_millionths_6 : decode cX10_millionths 6 = .ok (.lload_n 0, 1) := by decide +kernel
theorem dX10_millionths_7 : decode cX10_millionths 7 = .ok (.iload_n 2, 1) := by decide +kernel
theorem dX10_millionths_8 : decode cX10_millionths 8 = .ok (.bipush 6, 2) := by decide +kernel
theorem dX10_millionths_10 : decode cX10_millionths 10 = .ok (.isub, 1) := by decide +kernel
theorem dX10_millionths_11 : decode cX10_millionths 11 = .ok (.invokestatic 167, 3) := by decide +kernel
theorem dX10_millionths_14 : decode cX10_millionths 14 = .ok (.ldiv, 1) := by decide +kernel
theorem dX10_millionths_15 : decode cX10_millionths 15 = .ok (.goto 12, 3) := by decide +kernel
theorem dX10_millionths_18 : decode cX10_millionths 18 = .ok (.lload_n 0, 1) := by decide +kernel
theorem dX10_millionths_19 : decode cX10_millionths 19 = .ok (.bipush 6, 2) := by decide +kernel
theorem dX10_millionths_21 : decode cX10_millionths 21 = .ok (.iload_n 2, 1) := by decide +kernel
theorem dX10_millionths_22 : decode cX10_millionths 22 = .ok (.isub, 1) := by decide +kernel
theorem dX10_millionths_23 : decode cX10_millionths 23 = .ok (.invokestatic 167, 3) := by decide +kernel
theorem dX10_millionths_26 : decode cX10_millionths 26 = .ok (.lmul, 1) := by decide +kernel
theorem dX10_millionths_27 : decode cX10_millionths 27 = .ok (.l2i, 1) := by decide +kernel
theorem dX10_millionths_28 : decode cX10_millionths 28 = .ok (.ireturn, 1) := by decide +kernel
theorem dX10_oddsNow_0 : decode cX10_oddsNow 0 = .ok (.aload_n 0, 1) := by decide +kernel
theorem dX10_oddsNow_1 : decode cX10_oddsNow 1 = .ok (.aload_n 0, 1) := by decide +kernel
theorem dX10_oddsNow_2 : decode cX10_oddsNow 2 = .ok (.getfield 221, 3) := by decide +kernel
theorem dX10_oddsNow_5 : decode cX10_oddsNow 5 = .ok (.aload_n 0, 1) := by decide +kernel
theorem dX10_oddsNow_6 : decode cX10_oddsNow 6 = .ok (.getfield 224, 3) := by decide +kernel
theorem dX10_oddsNow_9 : decode cX10_oddsNow 9 = .ok (.aload_n 0, 1) := by decide +kernel
theorem dX10_oddsNow_10 : decode cX10_oddsNow 10 = .ok (.iload_n 1, 1) := by decide +kernel
theorem dX10_oddsNow_11 : decode cX10_oddsNow 11 = .ok (.invokevirtual 251, 3) := by decide +kernel
theorem dX10_oddsNow_14 : decode cX10_oddsNow 14 = .ok (.aload_n 0, 1) := by decide +kernel
theorem dX10_oddsNow_15 : decode cX10_oddsNow 15 = .ok (.getfield 227, 3) := by decide +kernel
theorem dX10_oddsNow_18 : decode cX10_oddsNow 18 = .ok (.isub, 1) := by decide +kernel
theorem dX10_oddsNow_19 : decode cX10_oddsNow 19 = .ok (.invokevirtual 179, 3) := by decide +kernel
theorem dX10_oddsNow_22 : decode cX10_oddsNow 22 = .ok (.aload_n 0, 1) := by decide +kernel
theorem dX10_oddsNow_23 : decode cX10_oddsNow 23 = .ok (.getfield 221, 3) := by decide +kernel
theorem dX10_oddsNow_26 : decode cX10_oddsNow 26 = .ok (.invokestatic 255, 3) := by decide +kernel
theorem dX10_oddsNow_29 : decode cX10_oddsNow 29 = .ok (.ireturn, 1) := by decide +kernel
theorem dX10_play_0 : decode cX10_play 0 = .ok (.iload_n 1, 1) := by decide +kernel
theorem dX10_play_1 : decode cX10_play 1 = .ok (.iconst 0, 1) := by decide +kernel
theorem dX10_play_2 : decode cX10_play 2 = .ok (.bipush 36, 2) := by decide +kernel
theorem dX10_play_4 : decode cX10_play 4 = .ok (.invokestatic 72, 3) := by decide +kernel
theorem dX10_play_7 : decode cX10_play 7 = .ok (.ifCond .eq 12, 3) := by decide +kernel
theorem dX10_play_10 : decode cX10_play 10 = .ok (.iload_n 2, 1) := by decide +kernel
theorem dX10_play_11 : decode cX10_play 11 = .ok (.iconst 0, 1) := by decide +kernel
theorem dX10_play_12 : decode cX10_play 12 = .ok (.iconst 3, 1) := by decide +kernel
theorem dX10_play_13 : decode cX10_play 13 = .ok (.invokestatic 72, 3) := by decide +kernel
theorem dX10_play_16 : decode cX10_play 16 = .ok (.ifCond .ne 6, 3) := by decide +kernel
theorem dX10_play_19 : decode cX10_play 19 = .ok (.bipush (-3), 2) := by decide +kernel
theorem dX10_play_21 : decode cX10_play 21 = .ok (.ireturn, 1) := by decide +kernel
theorem dX10_play_22 : decode cX10_play 22 = .ok (.aload_n 0, 1) := by decide +kernel
theorem dX10_play_23 : decode cX10_play 23 = .ok (.aload_n 0, 1) := by decide +kernel
theorem dX10_play_24 : decode cX10_play 24 = .ok (.getfield 156, 3) := by decide +kernel
theorem dX10_play_27 : decode cX10_play 27 = .ok (.invokevirtual 259, 3) := by decide +kernel
theorem dX10_play_30 : decode cX10_play 30 = .ok (.aload_n 0, 1) := by decide +kernel
theorem dX10_play_31 : decode cX10_play 31 = .ok (.getfield 221, 3) := by decide +kernel
theorem dX10_play_34 : decode cX10_play 34 = .ok (.ifCond .eq 10, 3) := by decide +kernel
theorem dX10_play_37 : decode cX10_play 37 = .ok (.aload_n 0, 1) := by decide +kernel
theorem dX10_play_38 : decode cX10_play 38 = .ok (.getfield 224, 3) := by decide +kernel
theorem dX10_play_41 : decode cX10_play 41 = .ok (.ifCond .ne 6, 3) := by decide +kernel
theorem dX10_play_44 : decode cX10_play 44 = .ok (.bipush (-4), 2) := by decide +kernel
theorem dX10_play_46 : decode cX10_play 46 = .ok (.ireturn, 1) := by decide +kernel
theorem dX10_play_47 : decode cX10_play 47 = .ok (.aload_n 0, 1) := by decide +kernel
theorem dX10_play_48 : decode cX10_play 48 = .ok (.getfield 156, 3) := by decide +kernel
theorem dX10_play_51 : decode cX10_play 51 = .ok (.bipush 24, 2) := by decide +kernel
theorem dX10_play_53 : decode cX10_play 53 = .ok (.if_icmp .ne 6, 3) := by decide +kernel
theorem dX10_play_56 : decode cX10_play 56 = .ok (.bipush (-5), 2) := by decide +kernel
theorem dX10_play_58 : decode cX10_play 58 = .ok (.ireturn, 1) := by decide +kernel
theorem dX10_play_59 : decode cX10_play 59 = .ok (.aload_n 0, 1) := by decide +kernel
theorem dX10_play_60 : decode cX10_play 60 = .ok (.getfield 44, 3) := by decide +kernel
theorem dX10_play_63 : decode cX10_play 63 = .ok (.aload_n 0, 1) := by decide +kernel
theorem dX10_play_64 : decode cX10_play 64 = .ok (.getfield 156, 3) := by decide +kernel
theorem dX10_play_67 : decode cX10_play 67 = .ok (.iconst 0, 1) := by decide +kernel
theorem dX10_play_68 : decode cX10_play 68 = .ok (.iastore, 1) := by decide +kernel
theorem dX10_play_69 : decode cX10_play 69 = .ok (.aload_n 0, 1) := by decide +kernel
theorem dX10_play_70 : decode cX10_play 70 = .ok (.getfield 47, 3) := by decide +kernel
theorem dX10_play_73 : decode cX10_play 73 = .ok (.aload_n 0, 1) := by decide +kernel
theorem dX10_play_74 : decode cX10_play 74 = .ok (.getfield 156, 3) := by decide +kernel
theorem dX10_play_77 : decode cX10_play 77 = .ok (.iload_n 1, 1) := by decide +kernel
theorem dX10_play_78 : decode cX10_play 78 = .ok (.iastore, 1) := by decide +kernel
theorem dX10_play_79 : decode cX10_play 79 = .ok (.aload_n 0, 1) := by decide +kernel
theorem dX10_play_80 : decode cX10_play 80 = .ok (.getfield 50, 3) := by decide +kernel
theorem dX10_play_83 : decode cX10_play 83 = .ok (.aload_n 0, 1) := by decide +kernel
theorem dX10_play_84 : decode cX10_play 84 = .ok (.getfield 156, 3) := by decide +kernel
theorem dX10_play_87 : decode cX10_play 87 = .ok (.iload_n 2, 1) := by decide +kernel
theorem dX10_play_88 : decode cX10_play 88 = .ok (.iastore, 1) := by decide +kernel
theorem dX10_play_89 : decode cX10_play 89 = .ok (.aload_n 0, 1) := by decide +kernel
theorem dX10_play_90 : decode cX10_play 90 = .ok (.dup, 1) := by decide +kernel
theorem dX10_play_91 : decode cX10_play 91 = .ok (.getfield 156, 3) := by decide +kernel
theorem dX10_play_94 : decode cX10_play 94 = .ok (.iconst 1, 1) := by decide +kernel
theorem dX10_play_95 : decode cX10_play 95 = .ok (.iadd, 1) := by decide +kernel
theorem dX10_play_96 : decode cX10_play 96 = .ok (.putfield 156, 3) := by decide +kernel
theorem dX10_play_99 : decode cX10_play 99 = .ok (.aload_n 0, 1) := by decide +kernel
theorem dX10_play_100 : decode cX10_play 100 = .ok (.getfield 227, 3) := by decide +kernel
theorem dX10_play_103 : decode cX10_play 103 = .ok (.iload_n 1, 1) := by decide +kernel
theorem dX10_play_104 : decode cX10_play 104 = .ok (.iadd, 1) := by decide +kernel
theorem dX10_play_105 : decode cX10_play 105 = .ok (.ireturn, 1) := by decide +kernel
theorem dX10_rain_0 : decode cX10_rain 0 = .ok (.iload_n 1, 1) := by decide +kernel
theorem dX10_rain_1 : decode cX10_rain 1 = .ok (.iconst 1, 1) := by decide +kernel
theorem dX10_rain_2 : decode cX10_rain 2 = .ok (.bipush 12, 2) := by decide +kernel
theorem dX10_rain_4 : decode cX10_rain 4 = .ok (.invokestatic 72, 3) := by decide +kernel
theorem dX10_rain_7 : decode cX10_rain 7 = .ok (.ifCond .ne 6, 3) := by decide +kernel
theorem dX10_rain_10 : decode cX10_rain 10 = .ok (.bipush (-3), 2) := by decide +kernel
theorem dX10_rain_12 : decode cX10_rain 12 = .ok (.ireturn, 1) := by decide +kernel
theorem dX10_rain_13 : decode cX10_rain 13 = .ok (.aload_n 0, 1) := by decide +kernel
theorem dX10_rain_14 : decode cX10_rain 14 = .ok (.aload_n 0, 1) := by decide +kernel
theorem dX10_rain_15 : decode cX10_rain 15 = .ok (.getfield 156, 3) := by decide +kernel
theorem dX10_rain_18 : decode cX10_rain 18 = .ok (.invokevirtual 259, 3) := by decide +kernel
theorem dX10_rain_21 : decode cX10_rain 21 = .ok (.iload_n 1, 1) := by decide +kernel
theorem dX10_rain_22 : decode cX10_rain 22 = .ok (.aload_n 0, 1) := by decide +kernel
theorem dX10_rain_23 : decode cX10_rain 23 = .ok (.getfield 221, 3) := by decide +kernel
theorem dX10_rain_26 : decode cX10_rain 26 = .ok (.if_icmp .le 6, 3) := by decide +kernel
theorem dX10_rain_29 : decode cX10_rain 29 = .ok (.bipush (-4), 2) := by decide +kernel
theorem dX10_rain_31 : decode cX10_rain 31 = .ok (.ireturn, 1) := by decide +kernel
theorem dX10_rain_32 : decode cX10_rain 32 = .ok (.aload_n 0, 1) := by decide +kernel
theorem dX10_rain_33 : decode cX10_rain 33 = .ok (.getfield 156, 3) := by decide +kernel
theorem dX10_rain_36 : decode cX10_rain 36 = .ok (.bipush 24, 2) := by decide +kernel
theorem dX10_rain_38 : decode cX10_rain 38 = .ok (.if_icmp .ne 6, 3) := by decide +kernel
theorem dX10_rain_41 : decode cX10_rain 41 = .ok (.bipush (-5), 2) := by decide +kernel
theorem dX10_rain_43 : decode cX10_rain 43 = .ok (.ireturn, 1) := by decide +kernel
theorem dX10_rain_44 : decode cX10_rain 44 = .ok (.aload_n 0, 1) := by decide +kernel
theorem dX10_rain_45 : decode cX10_rain 45 = .ok (.getfield 44, 3) := by decide +kernel
theorem dX10_rain_48 : decode cX10_rain 48 = .ok (.aload_n 0, 1) := by decide +kernel
theorem dX10_rain_49 : decode cX10_rain 49 = .ok (.getfield 156, 3) := by decide +kernel
theorem dX10_rain_52 : decode cX10_rain 52 = .ok (.iconst 1, 1) := by decide +kernel
theorem dX10_rain_53 : decode cX10_rain 53 = .ok (.iastore, 1) := by decide +kernel
theorem dX10_rain_54 : decode cX10_rain 54 = .ok (.aload_n 0, 1) := by decide +kernel
theorem dX10_rain_55 : decode cX10_rain 55 = .ok (.getfield 47, 3) := by decide +kernel
theorem dX10_rain_58 : decode cX10_rain 58 = .ok (.aload_n 0, 1) := by decide +kernel
theorem dX10_rain_59 : decode cX10_rain 59 = .ok (.getfield 156, 3) := by decide +kernel
theorem dX10_rain_62 : decode cX10_rain 62 = .ok (.iload_n 1, 1) := by decide +kernel
theorem dX10_rain_63 : decode cX10_rain 63 = .ok (.iastore, 1) := by decide +kernel
theorem dX10_rain_64 : decode cX10_rain 64 = .ok (.aload_n 0, 1) := by decide +kernel
theorem dX10_rain_65 : decode cX10_rain 65 = .ok (.getfield 50, 3) := by decide +kernel
theorem dX10_rain_68 : decode cX10_rain 68 = .ok (.aload_n 0, 1) := by decide +kernel
theorem dX10_rain_69 : decode cX10_rain 69 = .ok (.getfield 156, 3) := by decide +kernel
theorem dX10_rain_72 : decode cX10_rain 72 = .ok (.iconst 0, 1) := by decide +kernel
theorem dX10_rain_73 : decode cX10_rain 73 = .ok (.iastore, 1) := by decide +kernel
theorem dX10_rain_74 : decode cX10_rain 74 = .ok (.aload_n 0, 1) := by decide +kernel
theorem dX10_rain_75 : decode cX10_rain 75 = .ok (.dup, 1) := by decide +kernel
theorem dX10_rain_76 : decode cX10_rain 76 = .ok (.getfield 156, 3) := by decide +kernel
theorem dX10_rain_79 : decode cX10_rain 79 = .ok (.iconst 1, 1) := by decide +kernel
theorem dX10_rain_80 : decode cX10_rain 80 = .ok (.iadd, 1) := by decide +kernel
theorem dX10_rain_81 : decode cX10_rain 81 = .ok (.putfield 156, 3) := by decide +kernel
theorem dX10_rain_84 : decode cX10_rain 84 = .ok (.aload_n 0, 1) := by decide +kernel
theorem dX10_rain_85 : decode cX10_rain 85 = .ok (.getfield 221, 3) := by decide +kernel
theorem dX10_rain_88 : decode cX10_rain 88 = .ok (.iload_n 1, 1) := by decide +kernel
theorem dX10_rain_89 : decode cX10_rain 89 = .ok (.isub, 1) := by decide +kernel
theorem dX10_rain_90 : decode cX10_rain 90 = .ok (.ireturn, 1) := by decide +kernel
theorem dX10_event_0 : decode cX10_event 0 = .ok (.iload_n 1, 1) := by decide +kernel
theorem dX10_event_1 : decode cX10_event 1 = .ok (.iconst 0, 1) := by decide +kernel
theorem dX10_event_2 : decode cX10_event 2 = .ok (.aload_n 0, 1) := by decide +kernel
theorem dX10_event_3 : decode cX10_event 3 = .ok (.getfield 156, 3) := by decide +kernel
theorem dX10_event_6 : decode cX10_event 6 = .ok (.iconst 1, 1) := by decide +kernel
theorem dX10_event_7 : decode cX10_event 7 = .ok (.isub, 1) := by decide +kernel
theorem dX10_event_8 : decode cX10_event 8 = .ok (.invokestatic 72, 3) := by decide +kernel
theorem dX10_event_11 : decode cX10_event 11 = .ok (.ifCond .ne 6, 3) := by decide +kernel
theorem dX10_event_14 : decode cX10_event 14 = .ok (.bipush (-2), 2) := by decide +kernel
theorem dX10_event_16 : decode cX10_event 16 = .ok (.ireturn, 1) := by decide +kernel
theorem dX10_event_17 : decode cX10_event 17 = .ok (.iload_n 2, 1) := by decide +kernel
theorem dX10_event_18 : decode cX10_event 18 = .ok (.ifCond .ne 12, 3) := by decide +kernel
theorem dX10_event_21 : decode cX10_event 21 = .ok (.aload_n 0, 1) := by decide +kernel
theorem dX10_event_22 : decode cX10_event 22 = .ok (.getfield 44, 3) := by decide +kernel
theorem dX10_event_25 : decode cX10_event 25 = .ok (.iload_n 1, 1) := by decide +kernel
theorem dX10_event_26 : decode cX10_event 26 = .ok (.iaload, 1) := by decide +kernel
theorem dX10_event_27 : decode cX10_event 27 = .ok (.goto 33, 3) := by decide +kernel
theorem dX10_event_30 : decode cX10_event 30 = .ok (.iload_n 2, 1) := by decide +kernel
theorem dX10_event_31 : decode cX10_event 31 = .ok (.iconst 1, 1) := by decide +kernel
theorem dX10_event_32 : decode cX10_event 32 = .ok (.if_icmp .ne 12, 3) := by decide +kernel
theorem dX10_event_35 : decode cX10_event 35 = .ok (.aload_n 0, 1) := by decide +kernel
theorem dX10_event_36 : decode cX10_event 36 = .ok (.getfield 47, 3) := by decide +kernel
theorem dX10_event_39 : decode cX10_event 39 = .ok (.iload_n 1, 1) := by decide +kernel
theorem dX10_event_40 : decode cX10_event 40 = .ok (.iaload, 1) := by decide +kernel
theorem dX10_event_41 : decode cX10_event 41 = .ok (.goto 19, 3) := by decide +kernel
theorem dX10_event_44 : decode cX10_event 44 = .ok (.iload_n 2, 1) := by decide +kernel
theorem dX10_event_45 : decode cX10_event 45 = .ok (.iconst 2, 1) := by decide +kernel
theorem dX10_event_46 : decode cX10_event 46 = .ok (.if_icmp .ne 12, 3) := by decide +kernel
theorem dX10_event_49 : decode cX10_event 49 = .ok (.aload_n 0, 1) := by decide +kernel
theorem dX10_event_50 : decode cX10_event 50 = .ok (.getfield 50, 3) := by decide +kernel
theorem dX10_event_53 : decode cX10_event 53 = .ok (.iload_n 1, 1) := by decide +kernel
theorem dX10_event_54 : decode cX10_event 54 = .ok (.iaload, 1) := by decide +kernel
theorem dX10_event_55 : decode cX10_event 55 = .ok (.goto 5, 3) := by decide +kernel
theorem dX10_event_58 : decode cX10_event 58 = .ok (.bipush (-3), 2) := by decide +kernel
theorem dX10_event_60 : decode cX10_event 60 = .ok (.ireturn, 1) := by decide +kernel
theorem dX10_target_0 : decode cX10_target 0 = .ok (.iload_n 1, 1) := by decide +kernel
theorem dX10_target_1 : decode cX10_target 1 = .ok (.invokestatic 262, 3) := by decide +kernel
theorem dX10_target_4 : decode cX10_target 4 = .ok (.ifCond .ne 6, 3) := by decide +kernel
theorem dX10_target_7 : decode cX10_target 7 = .ok (.bipush (-2), 2) := by decide +kernel
theorem dX10_target_9 : decode cX10_target 9 = .ok (.ireturn, 1) := by decide +kernel
theorem dX10_target_10 : decode cX10_target 10 = .ok (.aload_n 0, 1) := by decide +kernel
theorem dX10_target_11 : decode cX10_target 11 = .ok (.aload_n 0, 1) := by decide +kernel
theorem dX10_target_12 : decode cX10_target 12 = .ok (.getfield 156, 3) := by decide +kernel
theorem dX10_target_15 : decode cX10_target 15 = .ok (.invokevirtual 259, 3) := by decide +kernel
theorem dX10_target_18 : decode cX10_target 18 = .ok (.aload_n 0, 1) := by decide +kernel
theorem dX10_target_19 : decode cX10_target 19 = .ok (.iload_n 1, 1) := by decide +kernel
theorem dX10_target_20 : decode cX10_target 20 = .ok (.invokevirtual 251, 3) := by decide +kernel
theorem dX10_target_23 : decode cX10_target 23 = .ok (.ireturn, 1) := by decide +kernel
theorem dX10_odds_0 : decode cX10_odds 0 = .ok (.iload_n 1, 1) := by decide +kernel
theorem dX10_odds_1 : decode cX10_odds 1 = .ok (.invokestatic 262, 3) := by decide +kernel
theorem dX10_odds_4 : decode cX10_odds 4 = .ok (.ifCond .ne 6, 3) := by decide +kernel
theorem dX10_odds_7 : decode cX10_odds 7 = .ok (.bipush (-2), 2) := by decide +kernel
theorem dX10_odds_9 : decode cX10_odds 9 = .ok (.ireturn, 1) := by decide +kernel
theorem dX10_odds_10 : decode cX10_odds 10 = .ok (.aload_n 0, 1) := by decide +kernel
theorem dX10_odds_11 : decode cX10_odds 11 = .ok (.aload_n 0, 1) := by decide +kernel
theorem dX10_odds_12 : decode cX10_odds 12 = .ok (.getfield 156, 3) := by decide +kernel
theorem dX10_odds_15 : decode cX10_odds 15 = .ok (.invokevirtual 259, 3) := by decide +kernel
theorem dX10_odds_18 : decode cX10_odds 18 = .ok (.aload_n 0, 1) := by decide +kernel
theorem dX10_odds_19 : decode cX10_odds 19 = .ok (.iload_n 1, 1) := by decide +kernel
theorem dX10_odds_20 : decode cX10_odds 20 = .ok (.invokevirtual 265, 3) := by decide +kernel
theorem dX10_odds_23 : decode cX10_odds 23 = .ok (.ireturn, 1) := by decide +kernel
theorem dX10_gain_0 : decode cX10_gain 0 = .ok (.iload_n 1, 1) := by decide +kernel
theorem dX10_gain_1 : decode cX10_gain 1 = .ok (.invokestatic 262, 3) := by decide +kernel
theorem dX10_gain_4 : decode cX10_gain 4 = .ok (.ifCond .ne 6, 3) := by decide +kernel
theorem dX10_gain_7 : decode cX10_gain 7 = .ok (.bipush (-2), 2) := by decide +kernel
theorem dX10_gain_9 : decode cX10_gain 9 = .ok (.ireturn, 1) := by decide +kernel
theorem dX10_gain_10 : decode cX10_gain 10 = .ok (.iconst (-1), 1) := by decide +kernel
theorem dX10_gain_11 : decode cX10_gain 11 = .ok (.istore_n 2, 1) := by decide +kernel
theorem dX10_gain_12 : decode cX10_gain 12 = .ok (.iconst 0, 1) := by decide +kernel
theorem dX10_gain_13 : decode cX10_gain 13 = .ok (.istore_n 3, 1) := by decide +kernel
theorem dX10_gain_14 : decode cX10_gain 14 = .ok (.iload_n 3, 1) := by decide +kernel
theorem dX10_gain_15 : decode cX10_gain 15 = .ok (.aload_n 0, 1) := by decide +kernel
theorem dX10_gain_16 : decode cX10_gain 16 = .ok (.getfield 156, 3) := by decide +kernel
theorem dX10_gain_19 : decode cX10_gain 19 = .ok (.if_icmp .ge 25, 3) := by decide +kernel
theorem dX10_gain_22 : decode cX10_gain 22 = .ok (.aload_n 0, 1) := by decide +kernel
theorem dX10_gain_23 : decode cX10_gain 23 = .ok (.getfield 44, 3) := by decide +kernel
theorem dX10_gain_26 : decode cX10_gain 26 = .ok (.iload_n 3, 1) := by decide +kernel
theorem dX10_gain_27 : decode cX10_gain 27 = .ok (.iaload, 1) := by decide +kernel
theorem dX10_gain_28 : decode cX10_gain 28 = .ok (.iconst 1, 1) := by decide +kernel
theorem dX10_gain_29 : decode cX10_gain 29 = .ok (.if_icmp .ne 7, 3) := by decide +kernel
theorem dX10_gain_32 : decode cX10_gain 32 = .ok (.iload_n 3, 1) := by decide +kernel
theorem dX10_gain_33 : decode cX10_gain 33 = .ok (.goto 4, 3) := by decide +kernel
theorem dX10_gain_36 : decode cX10_gain 36 = .ok (.iload_n 2, 1) := by decide +kernel
theorem dX10_gain_37 : decode cX10_gain 37 = .ok (.istore_n 2, 1) := by decide +kernel
theorem dX10_gain_38 : decode cX10_gain 38 = .ok (.iinc 3 1, 3) := by decide +kernel
theorem dX10_gain_41 : decode cX10_gain 41 = .ok (.goto (-27), 3) := by decide +kernel
theorem dX10_gain_44 : decode cX10_gain 44 = .ok (.iload_n 2, 1) := by decide +kernel
theorem dX10_gain_45 : decode cX10_gain 45 = .ok (.iconst (-1), 1) := by decide +kernel
theorem dX10_gain_46 : decode cX10_gain 46 = .ok (.if_icmp .ne 6, 3) := by decide +kernel
theorem dX10_gain_49 : decode cX10_gain 49 = .ok (.bipush (-4), 2) := by decide +kernel
theorem dX10_gain_51 : decode cX10_gain 51 = .ok (.ireturn, 1) := by decide +kernel
theorem dX10_gain_52 : decode cX10_gain 52 = .ok (.aload_n 0, 1) := by decide +kernel
theorem dX10_gain_53 : decode cX10_gain 53 = .ok (.iload_n 2, 1) := by decide +kernel
theorem dX10_gain_54 : decode cX10_gain 54 = .ok (.invokevirtual 259, 3) := by decide +kernel
theorem dX10_gain_57 : decode cX10_gain 57 = .ok (.aload_n 0, 1) := by decide +kernel
theorem dX10_gain_58 : decode cX10_gain 58 = .ok (.iload_n 1, 1) := by decide +kernel
theorem dX10_gain_59 : decode cX10_gain 59 = .ok (.invokevirtual 265, 3) := by decide +kernel
theorem dX10_gain_62 : decode cX10_gain 62 = .ok (.istore_n 3, 1) := by decide +kernel
theorem dX10_gain_63 : decode cX10_gain 63 = .ok (.aload_n 0, 1) := by decide +kernel
theorem dX10_gain_64 : decode cX10_gain 64 = .ok (.iload_n 2, 1) := by decide +kernel
theorem dX10_gain_65 : decode cX10_gain 65 = .ok (.iconst 1, 1) := by decide +kernel
theorem dX10_gain_66 : decode cX10_gain 66 = .ok (.iadd, 1) := by decide +kernel
theorem dX10_gain_67 : decode cX10_gain 67 = .ok (.invokevirtual 259, 3) := by decide +kernel
theorem dX10_gain_70 : decode cX10_gain 70 = .ok (.aload_n 0, 1) := by decide +kernel
theorem dX10_gain_71 : decode cX10_gain 71 = .ok (.iload_n 1, 1) := by decide +kernel
theorem dX10_gain_72 : decode cX10_gain 72 = .ok (.invokevirtual 265, 3) := by decide +kernel
theorem dX10_gain_75 : decode cX10_gain 75 = .ok (.iload_n 3, 1) := by decide +kernel
theorem dX10_gain_76 : decode cX10_gain 76 = .ok (.isub, 1) := by decide +kernel
theorem dX10_gain_77 : decode cX10_gain 77 = .ok (.ldc_w 268, 3) := by decide +kernel
theorem dX10_gain_80 : decode cX10_gain 80 = .ok (.iadd, 1) := by decide +kernel
theorem dX10_gain_81 : decode cX10_gain 81 = .ok (.ireturn, 1) := by decide +kernel
theorem dX10_won_0 : decode cX10_won 0 = .ok (.iload_n 1, 1) := by decide +kernel
theorem dX10_won_1 : decode cX10_won 1 = .ok (.invokestatic 262, 3) := by decide +kernel
theorem dX10_won_4 : decode cX10_won 4 = .ok (.ifCond .ne 6, 3) := by decide +kernel
theorem dX10_won_7 : decode cX10_won 7 = .ok (.bipush (-2), 2) := by decide +kernel
theorem dX10_won_9 : decode cX10_won 9 = .ok (.ireturn, 1) := by decide +kernel
theorem dX10_won_10 : decode cX10_won 10 = .ok (.aload_n 0, 1) := by decide +kernel
theorem dX10_won_11 : decode cX10_won 11 = .ok (.aload_n 0, 1) := by decide +kernel
theorem dX10_won_12 : decode cX10_won 12 = .ok (.getfield 156, 3) := by decide +kernel
theorem dX10_won_15 : decode cX10_won 15 = .ok (.invokevirtual 259, 3) := by decide +kernel
theorem dX10_won_18 : decode cX10_won 18 = .ok (.aload_n 0, 1) := by decide +kernel
theorem dX10_won_19 : decode cX10_won 19 = .ok (.getfield 227, 3) := by decide +kernel
theorem dX10_won_22 : decode cX10_won 22 = .ok (.aload_n 0, 1) := by decide +kernel
theorem dX10_won_23 : decode cX10_won 23 = .ok (.iload_n 1, 1) := by decide +kernel
theorem dX10_won_24 : decode cX10_won 24 = .ok (.invokevirtual 251, 3) := by decide +kernel
theorem dX10_won_27 : decode cX10_won 27 = .ok (.if_icmp .lt 7, 3) := by decide +kernel
theorem dX10_won_30 : decode cX10_won 30 = .ok (.iconst 1, 1) := by decide +kernel
theorem dX10_won_31 : decode cX10_won 31 = .ok (.goto 22, 3) := by decide +kernel
theorem dX10_won_34 : decode cX10_won 34 = .ok (.aload_n 0, 1) := by decide +kernel
theorem dX10_won_35 : decode cX10_won 35 = .ok (.getfield 221, 3) := by decide +kernel
theorem dX10_won_38 : decode cX10_won 38 = .ok (.ifCond .eq 10, 3) := by decide +kernel
theorem dX10_won_41 : decode cX10_won 41 = .ok (.aload_n 0, 1) := by decide +kernel
theorem dX10_won_42 : decode cX10_won 42 = .ok (.getfield 224, 3) := by decide +kernel
theorem dX10_won_45 : decode cX10_won 45 = .ok (.ifCond .ne 7, 3) := by decide +kernel
theorem dX10_won_48 : decode cX10_won 48 = .ok (.iconst 0, 1) := by decide +kernel
theorem dX10_won_49 : decode cX10_won 49 = .ok (.goto 4, 3) := by decide +kernel
theorem dX10_won_52 : decode cX10_won 52 = .ok (.iconst 2, 1) := by decide +kernel
theorem dX10_won_53 : decode cX10_won 53 = .ok (.ireturn, 1) := by decide +kernel
theorem dX10_odd_0 : decode cX10_odd 0 = .ok (.iload_n 1, 1) := by decide +kernel
theorem dX10_odd_1 : decode cX10_odd 1 = .ok (.invokestatic 262, 3) := by decide +kernel
theorem dX10_odd_4 : decode cX10_odd 4 = .ok (.ifCond .ne 6, 3) := by decide +kernel
theorem dX10_odd_7 : decode cX10_odd 7 = .ok (.bipush (-2), 2) := by decide +kernel
theorem dX10_odd_9 : decode cX10_odd 9 = .ok (.ireturn, 1) := by decide +kernel
theorem dX10_odd_10 : decode cX10_odd 10 = .ok (.aload_n 0, 1) := by decide +kernel
theorem dX10_odd_11 : decode cX10_odd 11 = .ok (.getfield 7, 3) := by decide +kernel
theorem dX10_odd_14 : decode cX10_odd 14 = .ok (.istore_n 2, 1) := by decide +kernel
theorem dX10_odd_15 : decode cX10_odd 15 = .ok (.iload_n 2, 1) := by decide +kernel
theorem dX10_odd_16 : decode cX10_odd 16 = .ok (.iconst 1, 1) := by decide +kernel
theorem dX10_odd_17 : decode cX10_odd 17 = .ok (.if_icmp .le 82, 3) := by decide +kernel
theorem dX10_odd_20 : decode cX10_odd 20 = .ok (.iconst 1, 1) := by decide +kernel
theorem dX10_odd_21 : decode cX10_odd 21 = .ok (.istore_n 3, 1) := by decide +kernel
theorem dX10_odd_22 : decode cX10_odd 22 = .ok (.iload_n 3, 1) := by decide +kernel
theorem dX10_odd_23 : decode cX10_odd 23 = .ok (.iload_n 2, 1) := by decide +kernel
theorem dX10_odd_24 : decode cX10_odd 24 = .ok (.if_icmp .ge 69, 3) := by decide +kernel
theorem dX10_odd_27 : decode cX10_odd 27 = .ok (.aload_n 0, 1) := by decide +kernel
theorem dX10_odd_28 : decode cX10_odd 28 = .ok (.invokevirtual 218, 3) := by decide +kernel
theorem dX10_odd_31 : decode cX10_odd 31 = .ok (.aload_n 0, 1) := by decide +kernel
theorem dX10_odd_32 : decode cX10_odd 32 = .ok (.iload_n 2, 1) := by decide +kernel
theorem dX10_odd_33 : decode cX10_odd 33 = .ok (.putfield 221, 3) := by decide +kernel
theorem dX10_odd_36 : decode cX10_odd 36 = .ok (.aload_n 0, 1) := by decide +kernel
theorem dX10_odd_37 : decode cX10_odd 37 = .ok (.invokevirtual 214, 3) := by decide +kernel
theorem dX10_odd_40 : decode cX10_odd 40 = .ok (.iconst 1, 1) := by decide +kernel
theorem dX10_odd_41 : decode cX10_odd 41 = .ok (.iadd, 1) := by decide +kernel
theorem dX10_odd_42 : decode cX10_odd 42 = .ok (.bipush 36, 2) := by decide +kernel
theorem dX10_odd_44 : decode cX10_odd 44 = .ok (.iload_n 2, 1) := by decide +kernel
theorem dX10_odd_45 : decode cX10_odd 45 = .ok (.imul, 1) := by decide +kernel
theorem dX10_odd_46 : decode cX10_odd 46 = .ok (.if_icmp .le 7, 3) := by decide +kernel
theorem dX10_odd_49 : decode cX10_odd 49 = .ok (.iconst 1, 1) := by decide +kernel
theorem dX10_odd_50 : decode cX10_odd 50 = .ok (.goto 4, 3) := by decide +kernel
theorem dX10_odd_53 : decode cX10_odd 53 = .ok (.iconst 0, 1) := by decide +kernel
theorem dX10_odd_54 : decode cX10_odd 54 = .ok (.istore 4, 2) := by decide +kernel
theorem dX10_odd_56 : decode cX10_odd 56 = .ok (.aload_n 0, 1) := by decide +kernel
theorem dX10_odd_57 : decode cX10_odd 57 = .ok (.iload_n 3, 1) := by decide +kernel
theorem dX10_odd_58 : decode cX10_odd 58 = .ok (.invokevirtual 230, 3) := by decide +kernel
theorem dX10_odd_61 : decode cX10_odd 61 = .ok (.iload 4, 2) := by decide +kernel
theorem dX10_odd_63 : decode cX10_odd 63 = .ok (.ifCond .ne 24, 3) := by decide +kernel
theorem dX10_odd_66 : decode cX10_odd 66 = .ok (.aload_n 0, 1) := by decide +kernel
theorem dX10_odd_67 : decode cX10_odd 67 = .ok (.iload_n 1, 1) := by decide +kernel
theorem dX10_odd_68 : decode cX10_odd 68 = .ok (.invokevirtual 251, 3) := by decide +kernel
theorem dX10_odd_71 : decode cX10_odd 71 = .ok (.bipush 36, 2) := by decide +kernel
theorem dX10_odd_73 : decode cX10_odd 73 = .ok (.iload_n 2, 1) := by decide +kernel
theorem dX10_odd_74 : decode cX10_odd 74 = .ok (.iload_n 3, 1) := by decide +kernel
theorem dX10_odd_75 : decode cX10_odd 75 = .ok (.isub, 1) := by decide +kernel
theorem dX10_odd_76 : decode cX10_odd 76 = .ok (.imul, 1) := by decide +kernel
theorem dX10_odd_77 : decode cX10_odd 77 = .ok (.if_icmp .le 10, 3) := by decide +kernel
theorem dX10_odd_80 : decode cX10_odd 80 = .ok (.bipush 100, 2) := by decide +kernel
theorem dX10_odd_82 : decode cX10_odd 82 = .ok (.iload_n 2, 1) := by decide +kernel
theorem dX10_odd_83 : decode cX10_odd 83 = .ok (.imul, 1) := by decide +kernel
theorem dX10_odd_84 : decode cX10_odd 84 = .ok (.iload_n 3, 1) := by decide +kernel
theorem dX10_odd_85 : decode cX10_odd 85 = .ok (.iadd, 1) := by decide +kernel
theorem dX10_odd_86 : decode cX10_odd 86 = .ok (.ireturn, 1) := by decide +kernel
theorem dX10_odd_87 : decode cX10_odd 87 = .ok (.iinc 3 1, 3) := by decide +kernel
theorem dX10_odd_90 : decode cX10_odd 90 = .ok (.goto (-68), 3) := by decide +kernel
theorem dX10_odd_93 : decode cX10_odd 93 = .ok (.iinc 2 (-1), 3) := by decide +kernel
theorem dX10_odd_96 : decode cX10_odd 96 = .ok (.goto (-81), 3) := by decide +kernel
theorem dX10_odd_99 : decode cX10_odd 99 = .ok (.iconst (-1), 1) := by decide +kernel
theorem dX10_odd_100 : decode cX10_odd 100 = .ok (.ireturn, 1) := by decide +kernel
theorem dX10_sheetOf_0 : decode cX10_sheetOf 0 = .ok (.aload_n 0, 1) := by decide +kernel
theorem dX10_sheetOf_1 : decode cX10_sheetOf 1 = .ok (.invokevirtual 218, 3) := by decide +kernel
theorem dX10_sheetOf_4 : decode cX10_sheetOf 4 = .ok (.iload_n 2, 1) := by decide +kernel
theorem dX10_sheetOf_5 : decode cX10_sheetOf 5 = .ok (.ifCond .le 8, 3) := by decide +kernel
theorem dX10_sheetOf_8 : decode cX10_sheetOf 8 = .ok (.aload_n 0, 1) := by decide +kernel
theorem dX10_sheetOf_9 : decode cX10_sheetOf 9 = .ok (.iload_n 2, 1) := by decide +kernel
theorem dX10_sheetOf_10 : decode cX10_sheetOf 10 = .ok (.invokevirtual 230, 3) := by decide +kernel
theorem dX10_sheetOf_13 : decode cX10_sheetOf 13 = .ok (.aload_n 0, 1) := by decide +kernel
theorem dX10_sheetOf_14 : decode cX10_sheetOf 14 = .ok (.iload_n 1, 1) := by decide +kernel
theorem dX10_sheetOf_15 : decode cX10_sheetOf 15 = .ok (.invokevirtual 251, 3) := by decide +kernel
theorem dX10_sheetOf_18 : decode cX10_sheetOf 18 = .ok (.ireturn, 1) := by decide +kernel
theorem dX10_sheet_0 : decode cX10_sheet 0 = .ok (.iload_n 1, 1) := by decide +kernel
theorem dX10_sheet_1 : decode cX10_sheet 1 = .ok (.invokestatic 262, 3) := by decide +kernel
theorem dX10_sheet_4 : decode cX10_sheet 4 = .ok (.ifCond .ne 6, 3) := by decide +kernel
theorem dX10_sheet_7 : decode cX10_sheet 7 = .ok (.bipush (-2), 2) := by decide +kernel
theorem dX10_sheet_9 : decode cX10_sheet 9 = .ok (.ireturn, 1) := by decide +kernel
theorem dX10_sheet_10 : decode cX10_sheet 10 = .ok (.iload_n 2, 1) := by decide +kernel
theorem dX10_sheet_11 : decode cX10_sheet 11 = .ok (.iconst 0, 1) := by decide +kernel
theorem dX10_sheet_12 : decode cX10_sheet 12 = .ok (.aload_n 0, 1) := by decide +kernel
theorem dX10_sheet_13 : decode cX10_sheet 13 = .ok (.getfield 7, 3) := by decide +kernel
theorem dX10_sheet_16 : decode cX10_sheet 16 = .ok (.invokestatic 72, 3) := by decide +kernel
theorem dX10_sheet_19 : decode cX10_sheet 19 = .ok (.ifCond .eq 12, 3) := by decide +kernel
theorem dX10_sheet_22 : decode cX10_sheet 22 = .ok (.aload_n 0, 1) := by decide +kernel
theorem dX10_sheet_23 : decode cX10_sheet 23 = .ok (.iload_n 1, 1) := by decide +kernel
theorem dX10_sheet_24 : decode cX10_sheet 24 = .ok (.iload_n 2, 1) := by decide +kernel
theorem dX10_sheet_25 : decode cX10_sheet 25 = .ok (.invokevirtual 269, 3) := by decide +kernel
theorem dX10_sheet_28 : decode cX10_sheet 28 = .ok (.goto 5, 3) := by decide +kernel
theorem dX10_sheet_31 : decode cX10_sheet 31 = .ok (.bipush (-3), 2) := by decide +kernel
theorem dX10_sheet_33 : decode cX10_sheet 33 = .ok (.ireturn, 1) := by decide +kernel
theorem dX10_clouded_0 : decode cX10_clouded 0 = .ok (.iload_n 1, 1) := by decide +kernel
theorem dX10_clouded_1 : decode cX10_clouded 1 = .ok (.invokestatic 262, 3) := by decide +kernel
theorem dX10_clouded_4 : decode cX10_clouded 4 = .ok (.ifCond .ne 6, 3) := by decide +kernel
theorem dX10_clouded_7 : decode cX10_clouded 7 = .ok (.bipush (-2), 2) := by decide +kernel
theorem dX10_clouded_9 : decode cX10_clouded 9 = .ok (.ireturn, 1) := by decide +kernel
theorem dX10_clouded_10 : decode cX10_clouded 10 = .ok (.aload_n 0, 1) := by decide +kernel
theorem dX10_clouded_11 : decode cX10_clouded 11 = .ok (.getfield 153, 3) := by decide +kernel
theorem dX10_clouded_14 : decode cX10_clouded 14 = .ok (.aload_n 0, 1) := by decide +kernel
theorem dX10_clouded_15 : decode cX10_clouded 15 = .ok (.getfield 7, 3) := by decide +kernel
theorem dX10_clouded_18 : decode cX10_clouded 18 = .ok (.if_icmp .ge 10, 3) := by decide +kernel
theorem dX10_clouded_21 : decode cX10_clouded 21 = .ok (.aload_n 0, 1) := by decide +kernel
theorem dX10_clouded_22 : decode cX10_clouded 22 = .ok (.getfield 153, 3) := by decide +kernel
theorem dX10_clouded_25 : decode cX10_clouded 25 = .ok (.goto 9, 3) := by decide +kernel
theorem dX10_clouded_28 : decode cX10_clouded 28 = .ok (.aload_n 0, 1) := by decide +kernel
theorem dX10_clouded_29 : decode cX10_clouded 29 = .ok (.getfield 7, 3) := by decide +kernel
theorem dX10_clouded_32 : decode cX10_clouded 32 = .ok (.iconst 1, 1) := by decide +kernel
theorem dX10_clouded_33 : decode cX10_clouded 33 = .ok (.isub, 1) := by decide +kernel
theorem dX10_clouded_34 : decode cX10_clouded 34 = .ok (.istore_n 2, 1) := by decide +kernel
theorem dX10_clouded_35 : decode cX10_clouded 35 = .ok (.aload_n 0, 1) := by decide +kernel
theorem dX10_clouded_36 : decode cX10_clouded 36 = .ok (.aload_n 0, 1) := by decide +kernel
theorem dX10_clouded_37 : decode cX10_clouded 37 = .ok (.getfield 7, 3) := by decide +kernel
theorem dX10_clouded_40 : decode cX10_clouded 40 = .ok (.iload_n 2, 1) := by decide +kernel
theorem dX10_clouded_41 : decode cX10_clouded 41 = .ok (.isub, 1) := by decide +kernel
theorem dX10_clouded_42 : decode cX10_clouded 42 = .ok (.aload_n 0, 1) := by decide +kernel
theorem dX10_clouded_43 : decode cX10_clouded 43 = .ok (.getfield 13, 3) := by decide +kernel
theorem dX10_clouded_46 : decode cX10_clouded 46 = .ok (.aload_n 0, 1) := by decide +kernel
theorem dX10_clouded_47 : decode cX10_clouded 47 = .ok (.iload_n 1, 1) := by decide +kernel
theorem dX10_clouded_48 : decode cX10_clouded 48 = .ok (.iload_n 2, 1) := by decide +kernel
theorem dX10_clouded_49 : decode cX10_clouded 49 = .ok (.invokevirtual 269, 3) := by decide +kernel
theorem dX10_clouded_52 : decode cX10_clouded 52 = .ok (.invokevirtual 179, 3) := by decide +kernel
theorem dX10_clouded_55 : decode cX10_clouded 55 = .ok (.iload_n 2, 1) := by decide +kernel
theorem dX10_clouded_56 : decode cX10_clouded 56 = .ok (.invokestatic 167, 3) := by decide +kernel
theorem dX10_clouded_59 : decode cX10_clouded 59 = .ok (.lmul, 1) := by decide +kernel
theorem dX10_clouded_60 : decode cX10_clouded 60 = .ok (.lstore_n 3, 1) := by decide +kernel
theorem dX10_clouded_61 : decode cX10_clouded 61 = .ok (.aload_n 0, 1) := by decide +kernel
theorem dX10_clouded_62 : decode cX10_clouded 62 = .ok (.aload_n 0, 1) := by decide +kernel
theorem dX10_clouded_63 : decode cX10_clouded 63 = .ok (.getfield 7, 3) := by decide +kernel
theorem dX10_clouded_66 : decode cX10_clouded 66 = .ok (.aload_n 0, 1) := by decide +kernel
theorem dX10_clouded_67 : decode cX10_clouded 67 = .ok (.getfield 13, 3) := by decide +kernel
theorem dX10_clouded_70 : decode cX10_clouded 70 = .ok (.aload_n 0, 1) := by decide +kernel
theorem dX10_clouded_71 : decode cX10_clouded 71 = .ok (.invokevirtual 214, 3) := by decide +kernel
theorem dX10_clouded_74 : decode cX10_clouded 74 = .ok (.iconst 1, 1) := by decide +kernel
theorem dX10_clouded_75 : decode cX10_clouded 75 = .ok (.iadd, 1) := by decide +kernel
theorem dX10_clouded_76 : decode cX10_clouded 76 = .ok (.invokevirtual 179, 3) := by decide +kernel
theorem dX10_clouded_79 : decode cX10_clouded 79 = .ok (.lstore 5, 2) := by decide +kernel
theorem dX10_clouded_81 : decode cX10_clouded 81 = .ok (.aload_n 0, 1) := by decide +kernel
theorem dX10_clouded_82 : decode cX10_clouded 82 = .ok (.getfield 150, 3) := by decide +kernel
theorem dX10_clouded_85 : decode cX10_clouded 85 = .ok (.i2l, 1) := by decide +kernel
theorem dX10_clouded_86 : decode cX10_clouded 86 = .ok (.lload_n 3, 1) := by decide +kernel
theorem dX10_clouded_87 : decode cX10_clouded 87 = .ok (.lmul, 1) := by decide +kernel
theorem dX10_clouded_88 : decode cX10_clouded 88 = .ok (.bipush 10, 2) := by decide +kernel
theorem dX10_clouded_90 : decode cX10_clouded 90 = .ok (.aload_n 0, 1) := by decide +kernel
theorem dX10_clouded_91 : decode cX10_clouded 91 = .ok (.getfield 150, 3) := by decide +kernel
theorem dX10_clouded_94 : decode cX10_clouded 94 = .ok (.isub, 1) := by decide +kernel
theorem dX10_clouded_95 : decode cX10_clouded 95 = .ok (.i2l, 1) := by decide +kernel
theorem dX10_clouded_96 : decode cX10_clouded 96 = .ok (.lload 5, 2) := by decide +kernel
theorem dX10_clouded_98 : decode cX10_clouded 98 = .ok (.lmul, 1) := by decide +kernel
theorem dX10_clouded_99 : decode cX10_clouded 99 = .ok (.ladd, 1) := by decide +kernel
theorem dX10_clouded_100 : decode cX10_clouded 100 = .ok (.aload_n 0, 1) := by decide +kernel
theorem dX10_clouded_101 : decode cX10_clouded 101 = .ok (.getfield 7, 3) := by decide +kernel
theorem dX10_clouded_104 : decode cX10_clouded 104 = .ok (.iconst 1, 1) := by decide +kernel
theorem dX10_clouded_105 : decode cX10_clouded 105 = .ok (.iadd, 1) := by decide +kernel
theorem dX10_clouded_106 : decode cX10_clouded 106 = .ok (.invokestatic 255, 3) := by decide +kernel
theorem dX10_clouded_109 : decode cX10_clouded 109 = .ok (.ireturn, 1) := by decide +kernel
theorem dX10_simple_0 : decode cX10_simple 0 = .ok (.iload_n 1, 1) := by decide +kernel
theorem dX10_simple_1 : decode cX10_simple 1 = .ok (.iconst 0, 1) := by decide +kernel
theorem dX10_simple_2 : decode cX10_simple 2 = .ok (.iconst 1, 1) := by decide +kernel
theorem dX10_simple_3 : decode cX10_simple 3 = .ok (.invokestatic 72, 3) := by decide +kernel
theorem dX10_simple_6 : decode cX10_simple 6 = .ok (.ifCond .ne 6, 3) := by decide +kernel
theorem dX10_simple_9 : decode cX10_simple 9 = .ok (.bipush (-3), 2) := by decide +kernel
theorem dX10_simple_11 : decode cX10_simple 11 = .ok (.ireturn, 1) := by decide +kernel
theorem dX10_simple_12 : decode cX10_simple 12 = .ok (.iconst 0, 1) := by decide +kernel
theorem dX10_simple_13 : decode cX10_simple 13 = .ok (.istore_n 2, 1) := by decide +kernel
theorem dX10_simple_14 : decode cX10_simple 14 = .ok (.iconst (-1), 1) := by decide +kernel
theorem dX10_simple_15 : decode cX10_simple 15 = .ok (.istore_n 3, 1) := by decide +kernel
theorem dX10_simple_16 : decode cX10_simple 16 = .ok (.aload_n 0, 1) := by decide +kernel
theorem dX10_simple_17 : decode cX10_simple 17 = .ok (.getfield 29, 3) := by decide +kernel
theorem dX10_simple_20 : decode cX10_simple 20 = .ok (.istore 4, 2) := by decide +kernel
theorem dX10_simple_22 : decode cX10_simple 22 = .ok (.iconst 0, 1) := by decide +kernel
theorem dX10_simple_23 : decode cX10_simple 23 = .ok (.istore 5, 2) := by decide +kernel
theorem dX10_simple_25 : decode cX10_simple 25 = .ok (.iload 5, 2) := by decide +kernel
theorem dX10_simple_27 : decode cX10_simple 27 = .ok (.bipush 100, 2) := by decide +kernel
theorem dX10_simple_29 : decode cX10_simple 29 = .ok (.if_icmp .ge 104, 3) := by decide +kernel
theorem dX10_simple_32 : decode cX10_simple 32 = .ok (.iconst 0, 1) := by decide +kernel
theorem dX10_simple_33 : decode cX10_simple 33 = .ok (.istore 6, 2) := by decide +kernel
theorem dX10_simple_35 : decode cX10_simple 35 = .ok (.aload_n 0, 1) := by decide +kernel
theorem dX10_simple_36 : decode cX10_simple 36 = .ok (.iload 5, 2) := by decide +kernel
theorem dX10_simple_38 : decode cX10_simple 38 = .ok (.putfield 29, 3) := by decide +kernel
theorem dX10_simple_41 : decode cX10_simple 41 = .ok (.iconst 1, 1) := by decide +kernel
theorem dX10_simple_42 : decode cX10_simple 42 = .ok (.istore 7, 2) := by decide +kernel
theorem dX10_simple_44 : decode cX10_simple 44 = .ok (.iload 7, 2) := by decide +kernel
theorem dX10_simple_46 : decode cX10_simple 46 = .ok (.aload_n 0, 1) := by decide +kernel
theorem dX10_simple_47 : decode cX10_simple 47 = .ok (.getfield 7, 3) := by decide +kernel
theorem dX10_simple_50 : decode cX10_simple 50 = .ok (.if_icmp .ge 41, 3) := by decide +kernel
theorem dX10_simple_53 : decode cX10_simple 53 = .ok (.aload_n 0, 1) := by decide +kernel
theorem dX10_simple_54 : decode cX10_simple 54 = .ok (.iconst 5, 1) := by decide +kernel
theorem dX10_simple_55 : decode cX10_simple 55 = .ok (.iload 7, 2) := by decide +kernel
theorem dX10_simple_57 : decode cX10_simple 57 = .ok (.invokevirtual 269, 3) := by decide +kernel
theorem dX10_simple_60 : decode cX10_simple 60 = .ok (.aload_n 0, 1) := by decide +kernel
theorem dX10_simple_61 : decode cX10_simple 61 = .ok (.getfield 242, 3) := by decide +kernel
theorem dX10_simple_64 : decode cX10_simple 64 = .ok (.isub, 1) := by decide +kernel
theorem dX10_simple_65 : decode cX10_simple 65 = .ok (.istore 8, 2) := by decide +kernel
theorem dX10_simple_67 : decode cX10_simple 67 = .ok (.iload 6, 2) := by decide +kernel
theorem dX10_simple_69 : decode cX10_simple 69 = .ok (.iload 8, 2) := by decide +kernel
theorem dX10_simple_71 : decode cX10_simple 71 = .ok (.ifCond .ge 9, 3) := by decide +kernel
theorem dX10_simple_74 : decode cX10_simple 74 = .ok (.iload 8, 2) := by decide +kernel
theorem dX10_simple_76 : decode cX10_simple 76 = .ok (.ineg, 1) := by decide +kernel
theorem dX10_simple_77 : decode cX10_simple 77 = .ok (.goto 5, 3) := by decide +kernel
theorem dX10_simple_80 : decode cX10_simple 80 = .ok (.iload 8, 2) := by decide +kernel
theorem dX10_simple_82 : decode cX10_simple 82 = .ok (.iadd, 1) := by decide +kernel
theorem dX10_simple_83 : decode cX10_simple 83 = .ok (.istore 6, 2) := by decide +kernel
theorem dX10_simple_85 : decode cX10_simple 85 = .ok (.iinc 7 1, 3) := by decide +kernel
theorem dX10_simple_88 : decode cX10_simple 88 = .ok (.goto (-44), 3) := by decide +kernel
theorem dX10_simple_91 : decode cX10_simple 91 = .ok (.iload_n 3, 1) := by decide +kernel
theorem dX10_simple_92 : decode cX10_simple 92 = .ok (.iconst (-1), 1) := by decide +kernel
theorem dX10_simple_93 : decode cX10_simple 93 = .ok (.if_icmp .eq 9, 3) := by decide +kernel
theorem dX10_simple_96 : decode cX10_simple 96 = .ok (.iload 6, 2) := by decide +kernel
theorem dX10_simple_98 : decode cX10_simple 98 = .ok (.iload_n 3, 1) := by decide +kernel
theorem dX10_simple_99 : decode cX10_simple 99 = .ok (.if_icmp .ge 8, 3) := by decide +kernel
theorem dX10_simple_102 : decode cX10_simple 102 = .ok (.iload 5, 2) := by decide +kernel
theorem dX10_simple_104 : decode cX10_simple 104 = .ok (.goto 4, 3) := by decide +kernel
theorem dX10_simple_107 : decode cX10_simple 107 = .ok (.iload_n 2, 1) := by decide +kernel
theorem dX10_simple_108 : decode cX10_simple 108 = .ok (.istore_n 2, 1) := by decide +kernel
theorem dX10_simple_109 : decode cX10_simple 109 = .ok (.iload_n 3, 1) := by decide +kernel
theorem dX10_simple_110 : decode cX10_simple 110 = .ok (.iconst (-1), 1) := by decide +kernel
theorem dX10_simple_111 : decode cX10_simple 111 = .ok (.if_icmp .eq 9, 3) := by decide +kernel
theorem dX10_simple_114 : decode cX10_simple 114 = .ok (.iload 6, 2) := by decide +kernel
theorem dX10_simple_116 : decode cX10_simple 116 = .ok (.iload_n 3, 1) := by decide +kernel
theorem dX10_simple_117 : decode cX10_simple 117 = .ok (.if_icmp .ge 8, 3) := by decide +kernel
theorem dX10_simple_120 : decode cX10_simple 120 = .ok (.iload 6, 2) := by decide +kernel
theorem dX10_simple_122 : decode cX10_simple 122 = .ok (.goto 4, 3) := by decide +kernel
theorem dX10_simple_125 : decode cX10_simple 125 = .ok (.iload_n 3, 1) := by decide +kernel
theorem dX10_simple_126 : decode cX10_simple 126 = .ok (.istore_n 3, 1) := by decide +kernel
theorem dX10_simple_127 : decode cX10_simple 127 = .ok (.iinc 5 1, 3) := by decide +kernel
theorem dX10_simple_130 : decode cX10_simple 130 = .ok (.goto (-105), 3) := by decide +kernel
theorem dX10_simple_133 : decode cX10_simple 133 = .ok (.aload_n 0, 1) := by decide +kernel
theorem dX10_simple_134 : decode cX10_simple 134 = .ok (.iload 4, 2) := by decide +kernel
theorem dX10_simple_136 : decode cX10_simple 136 = .ok (.putfield 29, 3) := by decide +kernel
theorem dX10_simple_139 : decode cX10_simple 139 = .ok (.iload_n 1, 1) := by decide +kernel
theorem dX10_simple_140 : decode cX10_simple 140 = .ok (.ifCond .ne 7, 3) := by decide +kernel
theorem dX10_simple_143 : decode cX10_simple 143 = .ok (.iload_n 2, 1) := by decide +kernel
theorem dX10_simple_144 : decode cX10_simple 144 = .ok (.goto 4, 3) := by decide +kernel
theorem dX10_simple_147 : decode cX10_simple 147 = .ok (.iload_n 3, 1) := by decide +kernel
theorem dX10_simple_148 : decode cX10_simple 148 = .ok (.ireturn, 1) := by decide +kernel
theorem dX10_match_0 : decode cX10_match 0 = .ok (.iload_n 1, 1) := by decide +kernel
theorem dX10_match_1 : decode cX10_match 1 = .ok (.iconst 0, 1) := by decide +kernel
theorem dX10_match_2 : decode cX10_match 2 = .ok (.bipush 12, 2) := by decide +kernel
theorem dX10_match_4 : decode cX10_match 4 = .ok (.invokestatic 72, 3) := by decide +kernel
theorem dX10_match_7 : decode cX10_match 7 = .ok (.ifCond .eq 24, 3) := by decide +kernel
theorem dX10_match_10 : decode cX10_match 10 = .ok (.iload_n 2, 1) := by decide +kernel
theorem dX10_match_11 : decode cX10_match 11 = .ok (.iconst 0, 1) := by decide +kernel
theorem dX10_match_12 : decode cX10_match 12 = .ok (.bipush 10, 2) := by decide +kernel
theorem dX10_match_14 : decode cX10_match 14 = .ok (.invokestatic 72, 3) := by decide +kernel
theorem dX10_match_17 : decode cX10_match 17 = .ok (.ifCond .eq 14, 3) := by decide +kernel
theorem dX10_match_20 : decode cX10_match 20 = .ok (.iload_n 3, 1) := by decide +kernel
theorem dX10_match_21 : decode cX10_match 21 = .ok (.iconst 0, 1) := by decide +kernel
theorem dX10_match_22 : decode cX10_match 22 = .ok (.sipush 999, 3) := by decide +kernel
theorem dX10_match_25 : decode cX10_match 25 = .ok (.invokestatic 72, 3) := by decide +kernel
theorem dX10_match_28 : decode cX10_match 28 = .ok (.ifCond .ne 6, 3) := by decide +kernel
theorem dX10_match_31 : decode cX10_match 31 = .ok (.bipush (-3), 2) := by decide +kernel
theorem dX10_match_33 : decode cX10_match 33 = .ok (.ireturn, 1) := by decide +kernel
theorem dX10_match_34 : decode cX10_match 34 = .ok (.aload_n 0, 1) := by decide +kernel
theorem dX10_match_35 : decode cX10_match 35 = .ok (.getfield 272, 3) := by decide +kernel
theorem dX10_match_38 : decode cX10_match 38 = .ok (.bipush 24, 2) := by decide +kernel
theorem dX10_match_40 : decode cX10_match 40 = .ok (.if_icmp .ne 6, 3) := by decide +kernel
theorem dX10_match_43 : decode cX10_match 43 = .ok (.bipush (-5), 2) := by decide +kernel
theorem dX10_match_45 : decode cX10_match 45 = .ok (.ireturn, 1) := by decide +kernel
theorem dX10_match_46 : decode cX10_match 46 = .ok (.aload_n 0, 1) := by decide +kernel
theorem dX10_match_47 : decode cX10_match 47 = .ok (.getfield 53, 3) := by decide +kernel
theorem dX10_match_50 : decode cX10_match 50 = .ok (.aload_n 0, 1) := by decide +kernel
theorem dX10_match_51 : decode cX10_match 51 = .ok (.getfield 272, 3) := by decide +kernel
theorem dX10_match_54 : decode cX10_match 54 = .ok (.iload_n 1, 1) := by decide +kernel
theorem dX10_match_55 : decode cX10_match 55 = .ok (.iastore, 1) := by decide +kernel
theorem dX10_match_56 : decode cX10_match 56 = .ok (.aload_n 0, 1) := by decide +kernel
theorem dX10_match_57 : decode cX10_match 57 = .ok (.getfield 56, 3) := by decide +kernel
theorem dX10_match_60 : decode cX10_match 60 = .ok (.aload_n 0, 1) := by decide +kernel
theorem dX10_match_61 : decode cX10_match 61 = .ok (.getfield 272, 3) := by decide +kernel
theorem dX10_match_64 : decode cX10_match 64 = .ok (.iload_n 2, 1) := by decide +kernel
theorem dX10_match_65 : decode cX10_match 65 = .ok (.iastore, 1) := by decide +kernel
theorem dX10_match_66 : decode cX10_match 66 = .ok (.aload_n 0, 1) := by decide +kernel
theorem dX10_match_67 : decode cX10_match 67 = .ok (.getfield 59, 3) := by decide +kernel
theorem dX10_match_70 : decode cX10_match 70 = .ok (.aload_n 0, 1) := by decide +kernel
theorem dX10_match_71 : decode cX10_match 71 = .ok (.getfield 272, 3) := by decide +kernel
theorem dX10_match_74 : decode cX10_match 74 = .ok (.iload_n 3, 1) := by decide +kernel
theorem dX10_match_75 : decode cX10_match 75 = .ok (.iastore, 1) := by decide +kernel
theorem dX10_match_76 : decode cX10_match 76 = .ok (.aload_n 0, 1) := by decide +kernel
theorem dX10_match_77 : decode cX10_match 77 = .ok (.dup, 1) := by decide +kernel
theorem dX10_match_78 : decode cX10_match 78 = .ok (.getfield 272, 3) := by decide +kernel
theorem dX10_match_81 : decode cX10_match 81 = .ok (.iconst 1, 1) := by decide +kernel
theorem dX10_match_82 : decode cX10_match 82 = .ok (.iadd, 1) := by decide +kernel
theorem dX10_match_83 : decode cX10_match 83 = .ok (.putfield 272, 3) := by decide +kernel
theorem dX10_match_86 : decode cX10_match 86 = .ok (.aload_n 0, 1) := by decide +kernel
theorem dX10_match_87 : decode cX10_match 87 = .ok (.getfield 272, 3) := by decide +kernel
theorem dX10_match_90 : decode cX10_match 90 = .ok (.ireturn, 1) := by decide +kernel
theorem dX10_tried_0 : decode cX10_tried 0 = .ok (.aload_n 0, 1) := by decide +kernel
theorem dX10_tried_1 : decode cX10_tried 1 = .ok (.invokevirtual 202, 3) := by decide +kernel
theorem dX10_tried_4 : decode cX10_tried 4 = .ok (.iconst 0, 1) := by decide +kernel
theorem dX10_tried_5 : decode cX10_tried 5 = .ok (.istore_n 1, 1) := by decide +kernel
theorem dX10_tried_6 : decode cX10_tried 6 = .ok (.iconst 0, 1) := by decide +kernel
theorem dX10_tried_7 : decode cX10_tried 7 = .ok (.istore_n 2, 1) := by decide +kernel
theorem dX10_tried_8 : decode cX10_tried 8 = .ok (.iload_n 2, 1) := by decide +kernel
theorem dX10_tried_9 : decode cX10_tried 9 = .ok (.aload_n 0, 1) := by decide +kernel
theorem dX10_tried_10 : decode cX10_tried 10 = .ok (.getfield 272, 3) := by decide +kernel
theorem dX10_tried_13 : decode cX10_tried 13 = .ok (.if_icmp .ge 76, 3) := by decide +kernel
theorem dX10_tried_16 : decode cX10_tried 16 = .ok (.aload_n 0, 1) := by decide +kernel
theorem dX10_tried_17 : decode cX10_tried 17 = .ok (.aload_n 0, 1) := by decide +kernel
theorem dX10_tried_18 : decode cX10_tried 18 = .ok (.getfield 53, 3) := by decide +kernel
theorem dX10_tried_21 : decode cX10_tried 21 = .ok (.iload_n 2, 1) := by decide +kernel
theorem dX10_tried_22 : decode cX10_tried 22 = .ok (.iaload, 1) := by decide +kernel
theorem dX10_tried_23 : decode cX10_tried 23 = .ok (.aload_n 0, 1) := by decide +kernel
theorem dX10_tried_24 : decode cX10_tried 24 = .ok (.getfield 56, 3) := by decide +kernel
theorem dX10_tried_27 : decode cX10_tried 27 = .ok (.iload_n 2, 1) := by decide +kernel
theorem dX10_tried_28 : decode cX10_tried 28 = .ok (.iaload, 1) := by decide +kernel
theorem dX10_tried_29 : decode cX10_tried 29 = .ok (.invokevirtual 198, 3) := by decide +kernel
theorem dX10_tried_32 : decode cX10_tried 32 = .ok (.ifCond .eq 51, 3) := by decide +kernel
theorem dX10_tried_35 : decode cX10_tried 35 = .ok (.aload_n 0, 1) := by decide +kernel
theorem dX10_tried_36 : decode cX10_tried 36 = .ok (.aload_n 0, 1) := by decide +kernel
theorem dX10_tried_37 : decode cX10_tried 37 = .ok (.getfield 53, 3) := by decide +kernel
theorem dX10_tried_40 : decode cX10_tried 40 = .ok (.iload_n 2, 1) := by decide +kernel
theorem dX10_tried_41 : decode cX10_tried 41 = .ok (.iaload, 1) := by decide +kernel
theorem dX10_tried_42 : decode cX10_tried 42 = .ok (.aload_n 0, 1) := by decide +kernel
theorem dX10_tried_43 : decode cX10_tried 43 = .ok (.getfield 56, 3) := by decide +kernel
theorem dX10_tried_46 : decode cX10_tried 46 = .ok (.iload_n 2, 1) := by decide +kernel
theorem dX10_tried_47 : decode cX10_tried 47 = .ok (.iaload, 1) := by decide +kernel
theorem dX10_tried_48 : decode cX10_tried 48 = .ok (.invokevirtual 175, 3) := by decide +kernel
theorem dX10_tried_51 : decode cX10_tried 51 = .ok (.aload_n 0, 1) := by decide +kernel
theorem dX10_tried_52 : decode cX10_tried 52 = .ok (.getfield 53, 3) := by decide +kernel
theorem dX10_tried_55 : decode cX10_tried 55 = .ok (.iload_n 2, 1) := by decide +kernel
theorem dX10_tried_56 : decode cX10_tried 56 = .ok (.iaload, 1) := by decide +kernel
theorem dX10_tried_57 : decode cX10_tried 57 = .ok (.invokestatic 167, 3) := by decide +kernel
theorem dX10_tried_60 : decode cX10_tried 60 = .ok (.ldiv, 1) := by decide +kernel
theorem dX10_tried_61 : decode cX10_tried 61 = .ok (.l2i, 1) := by decide +kernel
theorem dX10_tried_62 : decode cX10_tried 62 = .ok (.aload_n 0, 1) := by decide +kernel
theorem dX10_tried_63 : decode cX10_tried 63 = .ok (.getfield 59, 3) := by decide +kernel
theorem dX10_tried_66 : decode cX10_tried 66 = .ok (.iload_n 2, 1) := by decide +kernel
theorem dX10_tried_67 : decode cX10_tried 67 = .ok (.iaload, 1) := by decide +kernel
theorem dX10_tried_68 : decode cX10_tried 68 = .ok (.isub, 1) := by decide +kernel
theorem dX10_tried_69 : decode cX10_tried 69 = .ok (.istore_n 3, 1) := by decide +kernel
theorem dX10_tried_70 : decode cX10_tried 70 = .ok (.iload_n 1, 1) := by decide +kernel
theorem dX10_tried_71 : decode cX10_tried 71 = .ok (.iload_n 3, 1) := by decide +kernel
theorem dX10_tried_72 : decode cX10_tried 72 = .ok (.ifCond .ge 8, 3) := by decide +kernel
theorem dX10_tried_75 : decode cX10_tried 75 = .ok (.iload_n 3, 1) := by decide +kernel
theorem dX10_tried_76 : decode cX10_tried 76 = .ok (.ineg, 1) := by decide +kernel
theorem dX10_tried_77 : decode cX10_tried 77 = .ok (.goto 4, 3) := by decide +kernel
theorem dX10_tried_80 : decode cX10_tried 80 = .ok (.iload_n 3, 1) := by decide +kernel
theorem dX10_tried_81 : decode cX10_tried 81 = .ok (.iadd, 1) := by decide +kernel
theorem dX10_tried_82 : decode cX10_tried 82 = .ok (.istore_n 1, 1) := by decide +kernel
theorem dX10_tried_83 : decode cX10_tried 83 = .ok (.iinc 2 1, 3) := by decide +kernel
theorem dX10_tried_86 : decode cX10_tried 86 = .ok (.goto (-78), 3) := by decide +kernel
theorem dX10_tried_89 : decode cX10_tried 89 = .ok (.iload_n 1, 1) := by decide +kernel
theorem dX10_tried_90 : decode cX10_tried 90 = .ok (.ireturn, 1) := by decide +kernel
theorem dX10_count_0 : decode cX10_count 0 = .ok (.aload_n 0, 1) := by decide +kernel
theorem dX10_count_1 : decode cX10_count 1 = .ok (.aload_n 0, 1) := by decide +kernel
theorem dX10_count_2 : decode cX10_count 2 = .ok (.getfield 156, 3) := by decide +kernel
theorem dX10_count_5 : decode cX10_count 5 = .ok (.invokevirtual 259, 3) := by decide +kernel
theorem dX10_count_8 : decode cX10_count 8 = .ok (.iload_n 1, 1) := by decide +kernel
theorem dX10_count_9 : decode cX10_count 9 = .ok (.tableswitch 105 0 9 #[55, 60, 65, 70, 75, 80, 85, 90, 95, 100], 55) := by decide +kernel
theorem dX10_count_64 : decode cX10_count 64 = .ok (.aload_n 0, 1) := by decide +kernel
theorem dX10_count_65 : decode cX10_count 65 = .ok (.getfield 7, 3) := by decide +kernel
theorem dX10_count_68 : decode cX10_count 68 = .ok (.ireturn, 1) := by decide +kernel
theorem dX10_count_69 : decode cX10_count 69 = .ok (.aload_n 0, 1) := by decide +kernel
theorem dX10_count_70 : decode cX10_count 70 = .ok (.getfield 13, 3) := by decide +kernel
theorem dX10_count_73 : decode cX10_count 73 = .ok (.ireturn, 1) := by decide +kernel
theorem dX10_count_74 : decode cX10_count 74 = .ok (.aload_n 0, 1) := by decide +kernel
theorem dX10_count_75 : decode cX10_count 75 = .ok (.getfield 76, 3) := by decide +kernel
theorem dX10_count_78 : decode cX10_count 78 = .ok (.ireturn, 1) := by decide +kernel
theorem dX10_count_79 : decode cX10_count 79 = .ok (.aload_n 0, 1) := by decide +kernel
theorem dX10_count_80 : decode cX10_count 80 = .ok (.invokevirtual 214, 3) := by decide +kernel
theorem dX10_count_83 : decode cX10_count 83 = .ok (.ireturn, 1) := by decide +kernel
theorem dX10_count_84 : decode cX10_count 84 = .ok (.aload_n 0, 1) := by decide +kernel
theorem dX10_count_85 : decode cX10_count 85 = .ok (.getfield 156, 3) := by decide +kernel
theorem dX10_count_88 : decode cX10_count 88 = .ok (.ireturn, 1) := by decide +kernel
theorem dX10_count_89 : decode cX10_count 89 = .ok (.aload_n 0, 1) := by decide +kernel
theorem dX10_count_90 : decode cX10_count 90 = .ok (.getfield 221, 3) := by decide +kernel
theorem dX10_count_93 : decode cX10_count 93 = .ok (.ireturn, 1) := by decide +kernel
theorem dX10_count_94 : decode cX10_count 94 = .ok (.aload_n 0, 1) := by decide +kernel
theorem dX10_count_95 : decode cX10_count 95 = .ok (.getfield 224, 3) := by decide +kernel
theorem dX10_count_98 : decode cX10_count 98 = .ok (.ireturn, 1) := by decide +kernel
theorem dX10_count_99 : decode cX10_count 99 = .ok (.aload_n 0, 1) := by decide +kernel
theorem dX10_count_100 : decode cX10_count 100 = .ok (.getfield 227, 3) := by decide +kernel
theorem dX10_count_103 : decode cX10_count 103 = .ok (.ireturn, 1) := by decide +kernel
theorem dX10_count_104 : decode cX10_count 104 = .ok (.aload_n 0, 1) := by decide +kernel
theorem dX10_count_105 : decode cX10_count 105 = .ok (.getfield 272, 3) := by decide +kernel
theorem dX10_count_108 : decode cX10_count 108 = .ok (.ireturn, 1) := by decide +kernel
theorem dX10_count_109 : decode cX10_count 109 = .ok (.aload_n 0, 1) := by decide +kernel
theorem dX10_count_110 : decode cX10_count 110 = .ok (.getfield 29, 3) := by decide +kernel
theorem dX10_count_113 : decode cX10_count 113 = .ok (.ireturn, 1) := by decide +kernel
theorem dX10_count_114 : decode cX10_count 114 = .ok (.bipush (-3), 2) := by decide +kernel
theorem dX10_count_116 : decode cX10_count 116 = .ok (.ireturn, 1) := by decide +kernel
