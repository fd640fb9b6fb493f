theorem dX10_init_0 : decode cX10_init 0 = .ok (.aload_n 0, 1) := by decide +kernel
theorem dX10_init_1 : decode cX10_init 1 = .ok (.invokespecial 1, 3) := by decide +kernel
theorem dX10_init_4 : decode cX10_init 4 = .ok (.aload_n 0, 1) := by decide +kernel
theorem dX10_init_5 : decode cX10_init 5 = .ok (.sipush 360, 3) := by decide +kernel
theorem dX10_init_8 : decode cX10_init 8 = .ok (.newarray .int, 2) := by decide +kernel
theorem dX10_init_10 : decode cX10_init 10 = .ok (.putfield 7, 3) := by decide +kernel
theorem dX10_init_13 : decode cX10_init 13 = .ok (.aload_n 0, 1) := by decide +kernel
theorem dX10_init_14 : decode cX10_init 14 = .ok (.sipush 360, 3) := by decide +kernel
theorem dX10_init_17 : decode cX10_init 17 = .ok (.newarray .int, 2) := by decide +kernel
theorem dX10_init_19 : decode cX10_init 19 = .ok (.putfield 13, 3) := by decide +kernel
theorem dX10_init_22 : decode cX10_init 22 = .ok (.aload_n 0, 1) := by decide +kernel
theorem dX10_init_23 : decode cX10_init 23 = .ok (.sipush 360, 3) := by decide +kernel
theorem dX10_init_26 : decode cX10_init 26 = .ok (.newarray .int, 2) := by decide +kernel
theorem dX10_init_28 : decode cX10_init 28 = .ok (.putfield 16, 3) := by decide +kernel
theorem dX10_init_31 : decode cX10_init 31 = .ok (.aload_n 0, 1) := by decide +kernel
theorem dX10_init_32 : decode cX10_init 32 = .ok (.bipush 6, 2) := by decide +kernel
theorem dX10_init_34 : decode cX10_init 34 = .ok (.newarray .int, 2) := by decide +kernel
theorem dX10_init_36 : decode cX10_init 36 = .ok (.putfield 19, 3) := by decide +kernel
theorem dX10_init_39 : decode cX10_init 39 = .ok (.aload_n 0, 1) := by decide +kernel
theorem dX10_init_40 : decode cX10_init 40 = .ok (.iconst 5, 1) := by decide +kernel
theorem dX10_init_41 : decode cX10_init 41 = .ok (.newarray .int, 2) := by decide +kernel
theorem dX10_init_43 : decode cX10_init 43 = .ok (.putfield 22, 3) := by decide +kernel
theorem dX10_init_46 : decode cX10_init 46 = .ok (.aload_n 0, 1) := by decide +kernel
theorem dX10_init_47 : decode cX10_init 47 = .ok (.bipush 90, 2) := by decide +kernel
theorem dX10_init_49 : decode cX10_init 49 = .ok (.newarray .int, 2) := by decide +kernel
theorem dX10_init_51 : decode cX10_init 51 = .ok (.putfield 25, 3) := by decide +kernel
theorem dX10_init_54 : decode cX10_init 54 = .ok (.aload_n 0, 1) := by decide +kernel
theorem dX10_init_55 : decode cX10_init 55 = .ok (.bipush 90, 2) := by decide +kernel
theorem dX10_init_57 : decode cX10_init 57 = .ok (.newarray .boolean, 2) := by decide +kernel
theorem dX10_init_59 : decode cX10_init 59 = .ok (.putfield 28, 3) := by decide +kernel
theorem dX10_init_62 : decode cX10_init 62 = .ok (.aload_n 0, 1) := by decide +kernel
theorem dX10_init_63 : decode cX10_init 63 = .ok (.bipush 8, 2) := by decide +kernel
theorem dX10_init_65 : decode cX10_init 65 = .ok (.newarray .int, 2) := by decide +kernel
theorem dX10_init_67 : decode cX10_init 67 = .ok (.putfield 32, 3) := by decide +kernel
theorem dX10_init_70 : decode cX10_init 70 = .ok (.aload_n 0, 1) := by decide +kernel
theorem dX10_init_71 : decode cX10_init 71 = .ok (.bipush 64, 2) := by decide +kernel
theorem dX10_init_73 : decode cX10_init 73 = .ok (.newarray .int, 2) := by decide +kernel
theorem dX10_init_75 : decode cX10_init 75 = .ok (.putfield 35, 3) := by decide +kernel
theorem dX10_init_78 : decode cX10_init 78 = .ok (.aload_n 0, 1) := by decide +kernel
theorem dX10_init_79 : decode cX10_init 79 = .ok (.bipush 8, 2) := by decide +kernel
theorem dX10_init_81 : decode cX10_init 81 = .ok (.newarray .int, 2) := by decide +kernel
theorem dX10_init_83 : decode cX10_init 83 = .ok (.putfield 38, 3) := by decide +kernel
theorem dX10_init_86 : decode cX10_init 86 = .ok (.aload_n 0, 1) := by decide +kernel
theorem dX10_init_87 : decode cX10_init 87 = .ok (.bipush 8, 2) := by decide +kernel
theorem dX10_init_89 : decode cX10_init 89 = .ok (.newarray .int, 2) := by decide +kernel
theorem dX10_init_91 : decode cX10_init 91 = .ok (.putfield 41, 3) := by decide +kernel
theorem dX10_init_94 : decode cX10_init 94 = .ok (.aload_n 0, 1) := by decide +kernel
theorem dX10_init_95 : decode cX10_init 95 = .ok (.bipush 8, 2) := by decide +kernel
theorem dX10_init_97 : decode cX10_init 97 = .ok (.newarray .int, 2) := by decide +kernel
theorem dX10_init_99 : decode cX10_init 99 = .ok (.putfield 44, 3) := by decide +kernel
theorem dX10_init_102 : decode cX10_init 102 = .ok (.aload_n 0, 1) := by decide +kernel
theorem dX10_init_103 : decode cX10_init 103 = .ok (.sipush 601, 3) := by decide +kernel
theorem dX10_init_106 : decode cX10_init 106 = .ok (.newarray .int, 2) := by decide +kernel
theorem dX10_init_108 : decode cX10_init 108 = .ok (.putfield 47, 3) := by decide +kernel
theorem dX10_init_111 : decode cX10_init 111 = .ok (.aload_n 0, 1) := by decide +kernel
theorem dX10_init_112 : decode cX10_init 112 = .ok (.bipush 40, 2) := by decide +kernel
theorem dX10_init_114 : decode cX10_init 114 = .ok (.newarray .int, 2) := by decide +kernel
theorem dX10_init_116 : decode cX10_init 116 = .ok (.putfield 50, 3) := by decide +kernel
theorem dX10_init_119 : decode cX10_init 119 = .ok (.aload_n 0, 1) := by decide +kernel
theorem dX10_init_120 : decode cX10_init 120 = .ok (.iconst 4, 1) := by decide +kernel
theorem dX10_init_121 : decode cX10_init 121 = .ok (.newarray .int, 2) := by decide +kernel
theorem dX10_init_123 : decode cX10_init 123 = .ok (.putfield 53, 3) := by decide +kernel
theorem dX10_init_126 : decode cX10_init 126 = .ok (.aload_n 0, 1) := by decide +kernel
theorem dX10_init_127 : decode cX10_init 127 = .ok (.iconst 4, 1) := by decide +kernel
theorem dX10_init_128 : decode cX10_init 128 = .ok (.newarray .int, 2) := by decide +kernel
theorem dX10_init_130 : decode cX10_init 130 = .ok (.putfield 56, 3) := by decide +kernel
theorem dX10_init_133 : decode cX10_init 133 = .ok (.aload_n 0, 1) := by decide +kernel
theorem dX10_init_134 : decode cX10_init 134 = .ok (.sipush 160, 3) := by decide +kernel
theorem dX10_init_137 : decode cX10_init 137 = .ok (.newarray .int, 2) := by decide +kernel
theorem dX10_init_139 : decode cX10_init 139 = .ok (.putfield 59, 3) := by decide +kernel
theorem dX10_init_142 : decode cX10_init 142 = .ok (.aload_n 0, 1) := by decide +kernel
theorem dX10_init_143 : decode cX10_init 143 = .ok (.bipush 40, 2) := by decide +kernel
theorem dX10_init_145 : decode cX10_init 145 = .ok (.newarray .int, 2) := by decide +kernel
theorem dX10_init_147 : decode cX10_init 147 = .ok (.putfield 62, 3) := by decide +kernel
theorem dX10_init_150 : decode cX10_init 150 = .ok (.aload_n 0, 1) := by decide +kernel
theorem dX10_init_151 : decode cX10_init 151 = .ok (.getfield 7, 3) := by decide +kernel
theorem dX10_init_154 : decode cX10_init 154 = .ok (.bipush 101, 2) := by decide +kernel
theorem dX10_init_156 : decode cX10_init 156 = .ok (.iconst 3, 1) := by decide +kernel
theorem dX10_init_157 : decode cX10_init 157 = .ok (.iastore, 1) := by decide +kernel
theorem dX10_init_158 : decode cX10_init 158 = .ok (.aload_n 0, 1) := by decide +kernel
theorem dX10_init_159 : decode cX10_init 159 = .ok (.getfield 7, 3) := by decide +kernel
theorem dX10_init_162 : decode cX10_init 162 = .ok (.bipush 102, 2) := by decide +kernel
theorem dX10_init_164 : decode cX10_init 164 = .ok (.bipush 60, 2) := by decide +kernel
theorem dX10_init_166 : decode cX10_init 166 = .ok (.iastore, 1) := by decide +kernel
theorem dX10_init_167 : decode cX10_init 167 = .ok (.aload_n 0, 1) := by decide +kernel
theorem dX10_init_168 : decode cX10_init 168 = .ok (.getfield 7, 3) := by decide +kernel
theorem dX10_init_171 : decode cX10_init 171 = .ok (.bipush 105, 2) := by decide +kernel
theorem dX10_init_173 : decode cX10_init 173 = .ok (.iconst 1, 1) := by decide +kernel
theorem dX10_init_174 : decode cX10_init 174 = .ok (.iastore, 1) := by decide +kernel
theorem dX10_init_175 : decode cX10_init 175 = .ok (.return_, 1) := by decide +kernel
theorem dX10_finds_0 : decode cX10_finds 0 = .ok (.aload_n 0, 1) := by decide +kernel
theorem dX10_finds_1 : decode cX10_finds 1 = .ok (.getfield 19, 3) := by decide +kernel
theorem dX10_finds_4 : decode cX10_finds 4 = .ok (.iload_n 1, 1) := by decide +kernel
theorem dX10_finds_5 : decode cX10_finds 5 = .ok (.dup2, 1) := by decide +kernel
theorem dX10_finds_6 : decode cX10_finds 6 = .ok (.iaload, 1) := by decide +kernel
theorem dX10_finds_7 : decode cX10_finds 7 = .ok (.iconst 1, 1) := by decide +kernel
theorem dX10_finds_8 : decode cX10_finds 8 = .ok (.iadd, 1) := by decide +kernel
theorem dX10_finds_9 : decode cX10_finds 9 = .ok (.iastore, 1) := by decide +kernel
theorem dX10_finds_10 : decode cX10_finds 10 = .ok (.ldc 65, 2) := by decide +kernel
theorem dX10_finds_12 : decode cX10_finds 12 = .ok (.iload_n 1, 1) := by decide +kernel
theorem dX10_finds_13 : decode cX10_finds 13 = .ok (.isub, 1) := by decide +kernel
theorem dX10_finds_14 : decode cX10_finds 14 = .ok (.ireturn, 1) := by decide +kernel
theorem dX10_in_0 : decode cX10_in 0 = .ok (.lload_n 0, 1) := by decide +kernel
theorem dX10_in_1 : decode cX10_in 1 = .ok (.lload_n 2, 1) := by decide +kernel
theorem dX10_in_2 : decode cX10_in 2 = .ok (.lcmp, 1) := by decide +kernel
theorem dX10_in_3 : decode cX10_in 3 = .ok (.ifCond .lt 14, 3) := by decide +kernel
theorem dX10_in_6 : decode cX10_in 6 = .ok (.lload_n 0, 1) := by decide +kernel
theorem dX10_in_7 : decode cX10_in 7 = .ok (.lload 4, 2) := by decide +kernel
theorem dX10_in_9 : decode cX10_in 9 = .ok (.lcmp, 1) := by decide +kernel
theorem dX10_in_10 : decode cX10_in 10 = .ok (.ifCond .gt 7, 3) := by decide +kernel
theorem dX10_in_13 : decode cX10_in 13 = .ok (.iconst 1, 1) := by decide +kernel
theorem dX10_in_14 : decode cX10_in 14 = .ok (.goto 4, 3) := by decide +kernel
theorem dX10_in_17 : decode cX10_in 17 = .ok (.iconst 0, 1) := by decide +kernel
theorem dX10_in_18 : decode cX10_in 18 = .ok (.ireturn, 1) := by decide +kernel
theorem dX10_held_0 : decode cX10_held 0 = .ok (.iload_n 0, 1) := by decide +kernel
theorem dX10_held_1 : decode cX10_held 1 = .ok (.iload_n 1, 1) := by decide +kernel
theorem dX10_held_2 : decode cX10_held 2 = .ok (.if_icmp .ge 7, 3) := by decide +kernel
theorem dX10_held_5 : decode cX10_held 5 = .ok (.iload_n 1, 1) := by decide +kernel
theorem dX10_held_6 : decode cX10_held 6 = .ok (.goto 13, 3) := by decide +kernel
theorem dX10_held_9 : decode cX10_held 9 = .ok (.iload_n 0, 1) := by decide +kernel
theorem dX10_held_10 : decode cX10_held 10 = .ok (.iload_n 2, 1) := by decide +kernel
theorem dX10_held_11 : decode cX10_held 11 = .ok (.if_icmp .le 7, 3) := by decide +kernel
theorem dX10_held_14 : decode cX10_held 14 = .ok (.iload_n 2, 1) := by decide +kernel
theorem dX10_held_15 : decode cX10_held 15 = .ok (.goto 4, 3) := by decide +kernel
theorem dX10_held_18 : decode cX10_held 18 = .ok (.iload_n 0, 1) := by decide +kernel
theorem dX10_held_19 : decode cX10_held 19 = .ok (.ireturn, 1) := by decide +kernel
theorem dX10_size_0 : decode cX10_size 0 = .ok (.iload_n 0, 1) := by decide +kernel
theorem dX10_size_1 : decode cX10_size 1 = .ok (.ifCond .ge 8, 3) := by decide +kernel
theorem dX10_size_4 : decode cX10_size 4 = .ok (.iload_n 0, 1) := by decide +kernel
theorem dX10_size_5 : decode cX10_size 5 = .ok (.ineg, 1) := by decide +kernel
theorem dX10_size_6 : decode cX10_size 6 = .ok (.goto 4, 3) := by decide +kernel
theorem dX10_size_9 : decode cX10_size 9 = .ok (.iload_n 0, 1) := by decide +kernel
theorem dX10_size_10 : decode cX10_size 10 = .ok (.ireturn, 1) := by decide +kernel
theorem dX10_copies_0 : decode cX10_copies 0 = .ok (.iconst 0, 1) := by decide +kernel
theorem dX10_copies_1 : decode cX10_copies 1 = .ok (.istore_n 2, 1) := by decide +kernel
theorem dX10_copies_2 : decode cX10_copies 2 = .ok (.iload_n 2, 1) := by decide +kernel
theorem dX10_copies_3 : decode cX10_copies 3 = .ok (.sipush 360, 3) := by decide +kernel
theorem dX10_copies_6 : decode cX10_copies 6 = .ok (.if_icmp .ge 15, 3) := by decide +kernel
theorem dX10_copies_9 : decode cX10_copies 9 = .ok (.aload_n 1, 1) := by decide +kernel
theorem dX10_copies_10 : decode cX10_copies 10 = .ok (.iload_n 2, 1) := by decide +kernel
theorem dX10_copies_11 : decode cX10_copies 11 = .ok (.aload_n 0, 1) := by decide +kernel
theorem dX10_copies_12 : decode cX10_copies 12 = .ok (.iload_n 2, 1) := by decide +kernel
theorem dX10_copies_13 : decode cX10_copies 13 = .ok (.iaload, 1) := by decide +kernel
theorem dX10_copies_14 : decode cX10_copies 14 = .ok (.iastore, 1) := by decide +kernel
theorem dX10_copies_15 : decode cX10_copies 15 = .ok (.iinc 2 1, 3) := by decide +kernel
theorem dX10_copies_18 : decode cX10_copies 18 = .ok (.goto (-16), 3) := by decide +kernel
theorem dX10_copies_21 : decode cX10_copies 21 = .ok (.return_, 1) := by decide +kernel
theorem dX10_isBell_0 : decode cX10_isBell 0 = .ok (.iload_n 1, 1) := by decide +kernel
theorem dX10_isBell_1 : decode cX10_isBell 1 = .ok (.i2l, 1) := by decide +kernel
theorem dX10_isBell_2 : decode cX10_isBell 2 = .ok (.lconst 0, 1) := by decide +kernel
theorem dX10_isBell_3 : decode cX10_isBell 3 = .ok (.aload_n 0, 1) := by decide +kernel
theorem dX10_isBell_4 : decode cX10_isBell 4 = .ok (.getfield 7, 3) := by decide +kernel
theorem dX10_isBell_7 : decode cX10_isBell 7 = .ok (.bipush 103, 2) := by decide +kernel
theorem dX10_isBell_9 : decode cX10_isBell 9 = .ok (.iaload, 1) := by decide +kernel
theorem dX10_isBell_10 : decode cX10_isBell 10 = .ok (.iconst 1, 1) := by decide +kernel
theorem dX10_isBell_11 : decode cX10_isBell 11 = .ok (.isub, 1) := by decide +kernel
theorem dX10_isBell_12 : decode cX10_isBell 12 = .ok (.i2l, 1) := by decide +kernel
theorem dX10_isBell_13 : decode cX10_isBell 13 = .ok (.invokestatic 66, 3) := by decide +kernel
theorem dX10_isBell_16 : decode cX10_isBell 16 = .ok (.ireturn, 1) := by decide +kernel
theorem dX10_isEar_0 : decode cX10_isEar 0 = .ok (.iload_n 1, 1) := by decide +kernel
theorem dX10_isEar_1 : decode cX10_isEar 1 = .ok (.i2l, 1) := by decide +kernel
theorem dX10_isEar_2 : decode cX10_isEar 2 = .ok (.lconst 0, 1) := by decide +kernel
theorem dX10_isEar_3 : decode cX10_isEar 3 = .ok (.aload_n 0, 1) := by decide +kernel
theorem dX10_isEar_4 : decode cX10_isEar 4 = .ok (.getfield 7, 3) := by decide +kernel
theorem dX10_isEar_7 : decode cX10_isEar 7 = .ok (.bipush 104, 2) := by decide +kernel
theorem dX10_isEar_9 : decode cX10_isEar 9 = .ok (.iaload, 1) := by decide +kernel
theorem dX10_isEar_10 : decode cX10_isEar 10 = .ok (.iconst 1, 1) := by decide +kernel
theorem dX10_isEar_11 : decode cX10_isEar 11 = .ok (.isub, 1) := by decide +kernel
theorem dX10_isEar_12 : decode cX10_isEar 12 = .ok (.i2l, 1) := by decide +kernel
theorem dX10_isEar_13 : decode cX10_isEar 13 = .ok (.invokestatic 66, 3) := by decide +kernel
theorem dX10_isEar_16 : decode cX10_isEar 16 = .ok (.ireturn, 1) := by decide +kernel
theorem dX10_isHour_0 : decode cX10_isHour 0 = .ok (.iload_n 0, 1) := by decide +kernel
theorem dX10_isHour_1 : decode cX10_isHour 1 = .ok (.i2l, 1) := by decide +kernel
theorem dX10_isHour_2 : decode cX10_isHour 2 = .ok (.lconst 0, 1) := by decide +kernel
theorem dX10_isHour_3 : decode cX10_isHour 3 = .ok (.ldc2_w 70, 3) := by decide +kernel
theorem dX10_isHour_6 : decode cX10_isHour 6 = .ok (.invokestatic 66, 3) := by decide +kernel
theorem dX10_isHour_9 : decode cX10_isHour 9 = .ok (.ireturn, 1) := by decide +kernel
theorem dX10_of_0 : decode cX10_of 0 = .ok (.aload_n 0, 1) := by decide +kernel
theorem dX10_of_1 : decode cX10_of 1 = .ok (.getfield 7, 3) := by decide +kernel
theorem dX10_of_4 : decode cX10_of 4 = .ok (.bipush 108, 2) := by decide +kernel
theorem dX10_of_6 : decode cX10_of 6 = .ok (.bipush 7, 2) := by decide +kernel
theorem dX10_of_8 : decode cX10_of 8 = .ok (.iload_n 1, 1) := by decide +kernel
theorem dX10_of_9 : decode cX10_of 9 = .ok (.imul, 1) := by decide +kernel
theorem dX10_of_10 : decode cX10_of 10 = .ok (.iadd, 1) := by decide +kernel
theorem dX10_of_11 : decode cX10_of 11 = .ok (.iload_n 2, 1) := by decide +kernel
theorem dX10_of_12 : decode cX10_of 12 = .ok (.iadd, 1) := by decide +kernel
theorem dX10_of_13 : decode cX10_of 13 = .ok (.iaload, 1) := by decide +kernel
theorem dX10_of_14 : decode cX10_of 14 = .ok (.ireturn, 1) := by decide +kernel
theorem dX10_becomes_0 : decode cX10_becomes 0 = .ok (.aload_n 0, 1) := by decide +kernel
theorem dX10_becomes_1 : decode cX10_becomes 1 = .ok (.getfield 7, 3) := by decide +kernel
theorem dX10_becomes_4 : decode cX10_becomes 4 = .ok (.bipush 108, 2) := by decide +kernel
theorem dX10_becomes_6 : decode cX10_becomes 6 = .ok (.bipush 7, 2) := by decide +kernel
theorem dX10_becomes_8 : decode cX10_becomes 8 = .ok (.iload_n 1, 1) := by decide +kernel
theorem dX10_becomes_9 : decode cX10_becomes 9 = .ok (.imul, 1) := by decide +kernel
theorem dX10_becomes_10 : decode cX10_becomes 10 = .ok (.iadd, 1) := by decide +kernel
theorem dX10_becomes_11 : decode cX10_becomes 11 = .ok (.iload_n 2, 1) := by decide +kernel
theorem dX10_becomes_12 : decode cX10_becomes 12 = .ok (.iadd, 1) := by decide +kernel
theorem dX10_becomes_13 : decode cX10_becomes 13 = .ok (.iload_n 3, 1) := by decide +kernel
theorem dX10_becomes_14 : decode cX10_becomes 14 = .ok (.iastore, 1) := by decide +kernel
theorem dX10_becomes_15 : decode cX10_becomes 15 = .ok (.return_, 1) := by decide +kernel
theorem dX10_here_0 : decode cX10_here 0 = .ok (.aload_n 0, 1) := by decide +kernel
theorem dX10_here_1 : decode cX10_here 1 = .ok (.getfield 72, 3) := by decide +kernel
theorem dX10_here_4 : decode cX10_here 4 = .ok (.aload_n 0, 1) := by decide +kernel
theorem dX10_here_5 : decode cX10_here 5 = .ok (.getfield 76, 3) := by decide +kernel
theorem dX10_here_8 : decode cX10_here 8 = .ok (.if_icmp .ge 27, 3) := by decide +kernel
theorem dX10_here_11 : decode cX10_here 11 = .ok (.aload_n 0, 1) := by decide +kernel
theorem dX10_here_12 : decode cX10_here 12 = .ok (.getfield 79, 3) := by decide +kernel
theorem dX10_here_15 : decode cX10_here 15 = .ok (.ifCond .ge 20, 3) := by decide +kernel
theorem dX10_here_18 : decode cX10_here 18 = .ok (.aload_n 0, 1) := by decide +kernel
theorem dX10_here_19 : decode cX10_here 19 = .ok (.getfield 7, 3) := by decide +kernel
theorem dX10_here_22 : decode cX10_here 22 = .ok (.aload_n 0, 1) := by decide +kernel
theorem dX10_here_23 : decode cX10_here 23 = .ok (.getfield 82, 3) := by decide +kernel
theorem dX10_here_26 : decode cX10_here 26 = .ok (.aload_n 0, 1) := by decide +kernel
theorem dX10_here_27 : decode cX10_here 27 = .ok (.getfield 72, 3) := by decide +kernel
theorem dX10_here_30 : decode cX10_here 30 = .ok (.iadd, 1) := by decide +kernel
theorem dX10_here_31 : decode cX10_here 31 = .ok (.iaload, 1) := by decide +kernel
theorem dX10_here_32 : decode cX10_here 32 = .ok (.goto 4, 3) := by decide +kernel
theorem dX10_here_35 : decode cX10_here 35 = .ok (.iconst (-1), 1) := by decide +kernel
theorem dX10_here_36 : decode cX10_here 36 = .ok (.ireturn, 1) := by decide +kernel
theorem dX10_wrong_0 : decode cX10_wrong 0 = .ok (.aload_n 0, 1) := by decide +kernel
theorem dX10_wrong_1 : decode cX10_wrong 1 = .ok (.aload_n 0, 1) := by decide +kernel
theorem dX10_wrong_2 : decode cX10_wrong 2 = .ok (.getfield 79, 3) := by decide +kernel
theorem dX10_wrong_5 : decode cX10_wrong 5 = .ok (.ifCond .ge 10, 3) := by decide +kernel
theorem dX10_wrong_8 : decode cX10_wrong 8 = .ok (.aload_n 0, 1) := by decide +kernel
theorem dX10_wrong_9 : decode cX10_wrong 9 = .ok (.getfield 72, 3) := by decide +kernel
theorem dX10_wrong_12 : decode cX10_wrong 12 = .ok (.goto 7, 3) := by decide +kernel
theorem dX10_wrong_15 : decode cX10_wrong 15 = .ok (.aload_n 0, 1) := by decide +kernel
theorem dX10_wrong_16 : decode cX10_wrong 16 = .ok (.getfield 79, 3) := by decide +kernel
theorem dX10_wrong_19 : decode cX10_wrong 19 = .ok (.putfield 79, 3) := by decide +kernel
theorem dX10_wrong_22 : decode cX10_wrong 22 = .ok (.iconst 0, 1) := by decide +kernel
theorem dX10_wrong_23 : decode cX10_wrong 23 = .ok (.ireturn, 1) := by decide +kernel
theorem dX10_takes_0 : decode cX10_takes 0 = .ok (.aload_n 0, 1) := by decide +kernel
theorem dX10_takes_1 : decode cX10_takes 1 = .ok (.invokevirtual 85, 3) := by decide +kernel
theorem dX10_takes_4 : decode cX10_takes 4 = .ok (.iload_n 1, 1) := by decide +kernel
theorem dX10_takes_5 : decode cX10_takes 5 = .ok (.if_icmp .eq 5, 3) := by decide +kernel
theorem dX10_takes_8 : decode cX10_takes 8 = .ok (.iconst 0, 1) := by decide +kernel
theorem dX10_takes_9 : decode cX10_takes 9 = .ok (.ireturn, 1) := by decide +kernel
theorem dX10_takes_10 : decode cX10_takes 10 = .ok (.aload_n 0, 1) := by decide +kernel
theorem dX10_takes_11 : decode cX10_takes 11 = .ok (.dup, 1) := by decide +kernel
theorem dX10_takes_12 : decode cX10_takes 12 = .ok (.getfield 72, 3) := by decide +kernel
theorem dX10_takes_15 : decode cX10_takes 15 = .ok (.iconst 1, 1) := by decide +kernel
theorem dX10_takes_16 : decode cX10_takes 16 = .ok (.iadd, 1) := by decide +kernel
theorem dX10_takes_17 : decode cX10_takes 17 = .ok (.putfield 72, 3) := by decide +kernel
theorem dX10_takes_20 : decode cX10_takes 20 = .ok (.iconst 1, 1) := by decide +kernel
theorem dX10_takes_21 : decode cX10_takes 21 = .ok (.ireturn, 1) := by decide +kernel
theorem dX10_nameOf_0 : decode cX10_nameOf 0 = .ok (.aload_n 0, 1) := by decide +kernel
theorem dX10_nameOf_1 : decode cX10_nameOf 1 = .ok (.getfield 89, 3) := by decide +kernel
theorem dX10_nameOf_4 : decode cX10_nameOf 4 = .ok (.ifCond .eq 35, 3) := by decide +kernel
theorem dX10_nameOf_7 : decode cX10_nameOf 7 = .ok (.iload_n 1, 1) := by decide +kernel
theorem dX10_nameOf_8 : decode cX10_nameOf 8 = .ok (.bipush 115, 2) := by decide +kernel
theorem dX10_nameOf_10 : decode cX10_nameOf 10 = .ok (.if_icmp .ne 7, 3) := by decide +kernel
theorem dX10_nameOf_13 : decode cX10_nameOf 13 = .ok (.iconst 0, 1) := by decide +kernel
theorem dX10_nameOf_14 : decode cX10_nameOf 14 = .ok (.goto 24, 3) := by decide +kernel
theorem dX10_nameOf_17 : decode cX10_nameOf 17 = .ok (.iload_n 1, 1) := by decide +kernel
theorem dX10_nameOf_18 : decode cX10_nameOf 18 = .ok (.bipush 114, 2) := by decide +kernel
theorem dX10_nameOf_20 : decode cX10_nameOf 20 = .ok (.if_icmp .ne 7, 3) := by decide +kernel
theorem dX10_nameOf_23 : decode cX10_nameOf 23 = .ok (.iconst 1, 1) := by decide +kernel
theorem dX10_nameOf_24 : decode cX10_nameOf 24 = .ok (.goto 14, 3) := by decide +kernel
theorem dX10_nameOf_27 : decode cX10_nameOf 27 = .ok (.iload_n 1, 1) := by decide +kernel
theorem dX10_nameOf_28 : decode cX10_nameOf 28 = .ok (.bipush 109, 2) := by decide +kernel
theorem dX10_nameOf_30 : decode cX10_nameOf 30 = .ok (.if_icmp .ne 7, 3) := by decide +kernel
theorem dX10_nameOf_33 : decode cX10_nameOf 33 = .ok (.iconst 2, 1) := by decide +kernel
theorem dX10_nameOf_34 : decode cX10_nameOf 34 = .ok (.goto 4, 3) := by decide +kernel
theorem dX10_nameOf_37 : decode cX10_nameOf 37 = .ok (.iconst (-1), 1) := by decide +kernel
theorem dX10_nameOf_38 : decode cX10_nameOf 38 = .ok (.ireturn, 1) := by decide +kernel
theorem dX10_nameOf_39 : decode cX10_nameOf 39 = .ok (.iload_n 1, 1) := by decide +kernel
theorem dX10_nameOf_40 : decode cX10_nameOf 40 = .ok (.bipush 108, 2) := by decide +kernel
theorem dX10_nameOf_42 : decode cX10_nameOf 42 = .ok (.if_icmp .ne 7, 3) := by decide +kernel
theorem dX10_nameOf_45 : decode cX10_nameOf 45 = .ok (.iconst 0, 1) := by decide +kernel
theorem dX10_nameOf_46 : decode cX10_nameOf 46 = .ok (.goto 44, 3) := by decide +kernel
theorem dX10_nameOf_49 : decode cX10_nameOf 49 = .ok (.iload_n 1, 1) := by decide +kernel
theorem dX10_nameOf_50 : decode cX10_nameOf 50 = .ok (.bipush 100, 2) := by decide +kernel
theorem dX10_nameOf_52 : decode cX10_nameOf 52 = .ok (.if_icmp .ne 7, 3) := by decide +kernel
theorem dX10_nameOf_55 : decode cX10_nameOf 55 = .ok (.iconst 1, 1) := by decide +kernel
theorem dX10_nameOf_56 : decode cX10_nameOf 56 = .ok (.goto 34, 3) := by decide +kernel
theorem dX10_nameOf_59 : decode cX10_nameOf 59 = .ok (.iload_n 1, 1) := by decide +kernel
theorem dX10_nameOf_60 : decode cX10_nameOf 60 = .ok (.bipush 104, 2) := by decide +kernel
theorem dX10_nameOf_62 : decode cX10_nameOf 62 = .ok (.if_icmp .ne 7, 3) := by decide +kernel
theorem dX10_nameOf_65 : decode cX10_nameOf 65 = .ok (.iconst 2, 1) := by decide +kernel
theorem dX10_nameOf_66 : decode cX10_nameOf 66 = .ok (.goto 24, 3) := by decide +kernel
theorem dX10_nameOf_69 : decode cX10_nameOf 69 = .ok (.iload_n 1, 1) := by decide +kernel
theorem dX10_nameOf_70 : decode cX10_nameOf 70 = .ok (.bipush 119, 2) := by decide +kernel
theorem dX10_nameOf_72 : decode cX10_nameOf 72 = .ok (.if_icmp .ne 7, 3) := by decide +kernel
theorem dX10_nameOf_75 : decode cX10_nameOf 75 = .ok (.iconst 3, 1) := by decide +kernel
theorem dX10_nameOf_76 : decode cX10_nameOf 76 = .ok (.goto 14, 3) := by decide +kernel
theorem dX10_nameOf_79 : decode cX10_nameOf 79 = .ok (.iload_n 1, 1) := by decide +kernel
theorem dX10_nameOf_80 : decode cX10_nameOf 80 = .ok (.bipush 107, 2) := by decide +kernel
theorem dX10_nameOf_82 : decode cX10_nameOf 82 = .ok (.if_icmp .ne 7, 3) := by decide +kernel
theorem dX10_nameOf_85 : decode cX10_nameOf 85 = .ok (.iconst 4, 1) := by decide +kernel
theorem dX10_nameOf_86 : decode cX10_nameOf 86 = .ok (.goto 4, 3) := by decide +kernel
theorem dX10_nameOf_89 : decode cX10_nameOf 89 = .ok (.iconst (-1), 1) := by decide +kernel
theorem dX10_nameOf_90 : decode cX10_nameOf 90 = .ok (.ireturn, 1) := by decide +kernel
theorem dX10_either_0 : decode cX10_either 0 = .ok (.aload_n 0, 1) := by decide +kernel
theorem dX10_either_1 : decode cX10_either 1 = .ok (.invokevirtual 93, 3) := by decide +kernel
theorem dX10_either_4 : decode cX10_either 4 = .ok (.istore_n 1, 1) := by decide +kernel
theorem dX10_either_5 : decode cX10_either 5 = .ok (.aload_n 0, 1) := by decide +kernel
theorem dX10_either_6 : decode cX10_either 6 = .ok (.bipush 124, 2) := by decide +kernel
theorem dX10_either_8 : decode cX10_either 8 = .ok (.invokevirtual 96, 3) := by decide +kernel
theorem dX10_either_11 : decode cX10_either 11 = .ok (.ifCond .eq 25, 3) := by decide +kernel
theorem dX10_either_14 : decode cX10_either 14 = .ok (.aload_n 0, 1) := by decide +kernel
theorem dX10_either_15 : decode cX10_either 15 = .ok (.invokevirtual 93, 3) := by decide +kernel
theorem dX10_either_18 : decode cX10_either 18 = .ok (.istore_n 2, 1) := by decide +kernel
theorem dX10_either_19 : decode cX10_either 19 = .ok (.iload_n 1, 1) := by decide +kernel
theorem dX10_either_20 : decode cX10_either 20 = .ok (.ifCond .ne 7, 3) := by decide +kernel
theorem dX10_either_23 : decode cX10_either 23 = .ok (.iload_n 2, 1) := by decide +kernel
theorem dX10_either_24 : decode cX10_either 24 = .ok (.ifCond .eq 7, 3) := by decide +kernel
theorem dX10_either_27 : decode cX10_either 27 = .ok (.iconst 1, 1) := by decide +kernel
theorem dX10_either_28 : decode cX10_either 28 = .ok (.goto 4, 3) := by decide +kernel
theorem dX10_either_31 : decode cX10_either 31 = .ok (.iconst 0, 1) := by decide +kernel
theorem dX10_either_32 : decode cX10_either 32 = .ok (.istore_n 1, 1) := by decide +kernel
theorem dX10_either_33 : decode cX10_either 33 = .ok (.goto (-28), 3) := by decide +kernel
theorem dX10_either_36 : decode cX10_either 36 = .ok (.iload_n 1, 1) := by decide +kernel
theorem dX10_either_37 : decode cX10_either 37 = .ok (.ireturn, 1) := by decide +kernel
theorem dX10_both_0 : decode cX10_both 0 = .ok (.aload_n 0, 1) := by decide +kernel
theorem dX10_both_1 : decode cX10_both 1 = .ok (.invokevirtual 100, 3) := by decide +kernel
theorem dX10_both_4 : decode cX10_both 4 = .ok (.istore_n 1, 1) := by decide +kernel
theorem dX10_both_5 : decode cX10_both 5 = .ok (.aload_n 0, 1) := by decide +kernel
theorem dX10_both_6 : decode cX10_both 6 = .ok (.bipush 38, 2) := by decide +kernel
theorem dX10_both_8 : decode cX10_both 8 = .ok (.invokevirtual 96, 3) := by decide +kernel
theorem dX10_both_11 : decode cX10_both 11 = .ok (.ifCond .eq 25, 3) := by decide +kernel
theorem dX10_both_14 : decode cX10_both 14 = .ok (.aload_n 0, 1) := by decide +kernel
theorem dX10_both_15 : decode cX10_both 15 = .ok (.invokevirtual 100, 3) := by decide +kernel
theorem dX10_both_18 : decode cX10_both 18 = .ok (.istore_n 2, 1) := by decide +kernel
theorem dX10_both_19 : decode cX10_both 19 = .ok (.iload_n 1, 1) := by decide +kernel
theorem dX10_both_20 : decode cX10_both 20 = .ok (.ifCond .eq 11, 3) := by decide +kernel
theorem dX10_both_23 : decode cX10_both 23 = .ok (.iload_n 2, 1) := by decide +kernel
theorem dX10_both_24 : decode cX10_both 24 = .ok (.ifCond .eq 7, 3) := by decide +kernel
theorem dX10_both_27 : decode cX10_both 27 = .ok (.iconst 1, 1) := by decide +kernel
theorem dX10_both_28 : decode cX10_both 28 = .ok (.goto 4, 3) := by decide +kernel
theorem dX10_both_31 : decode cX10_both 31 = .ok (.iconst 0, 1) := by decide +kernel
theorem dX10_both_32 : decode cX10_both 32 = .ok (.istore_n 1, 1) := by decide +kernel
theorem dX10_both_33 : decode cX10_both 33 = .ok (.goto (-28), 3) := by decide +kernel
theorem dX10_both_36 : decode cX10_both 36 = .ok (.iload_n 1, 1) := by decide +kernel
theorem dX10_both_37 : decode cX10_both 37 = .ok (.ireturn, 1) := by decide +kernel
theorem dX10_compared_0 : decode cX10_compared 0 = .ok (.aload_n 0, 1) := by decide +kernel
theorem dX10_compared_1 : decode cX10_compared 1 = .ok (.invokevirtual 103, 3) := by decide +kernel
theorem dX10_compared_4 : decode cX10_compared 4 = .ok (.istore_n 1, 1) := by decide +kernel
theorem dX10_compared_5 : decode cX10_compared 5 = .ok (.aload_n 0, 1) := by decide +kernel
theorem dX10_compared_6 : decode cX10_compared 6 = .ok (.invokevirtual 85, 3) := by decide +kernel
theorem dX10_compared_9 : decode cX10_compared 9 = .ok (.istore_n 2, 1) := by decide +kernel
theorem dX10_compared_10 : decode cX10_compared 10 = .ok (.iload_n 2, 1) := by decide +kernel
theorem dX10_compared_11 : decode cX10_compared 11 = .ok (.bipush 60, 2) := by decide +kernel
theorem dX10_compared_13 : decode cX10_compared 13 = .ok (.if_icmp .eq 17, 3) := by decide +kernel
theorem dX10_compared_16 : decode cX10_compared 16 = .ok (.iload_n 2, 1) := by decide +kernel
theorem dX10_compared_17 : decode cX10_compared 17 = .ok (.bipush 61, 2) := by decide +kernel
theorem dX10_compared_19 : decode cX10_compared 19 = .ok (.if_icmp .eq 11, 3) := by decide +kernel
theorem dX10_compared_22 : decode cX10_compared 22 = .ok (.iload_n 2, 1) := by decide +kernel
theorem dX10_compared_23 : decode cX10_compared 23 = .ok (.bipush 62, 2) := by decide +kernel
theorem dX10_compared_25 : decode cX10_compared 25 = .ok (.if_icmp .eq 5, 3) := by decide +kernel
theorem dX10_compared_28 : decode cX10_compared 28 = .ok (.iload_n 1, 1) := by decide +kernel
theorem dX10_compared_29 : decode cX10_compared 29 = .ok (.ireturn, 1) := by decide +kernel
theorem dX10_compared_30 : decode cX10_compared 30 = .ok (.aload_n 0, 1) := by decide +kernel
theorem dX10_compared_31 : decode cX10_compared 31 = .ok (.dup, 1) := by decide +kernel
theorem dX10_compared_32 : decode cX10_compared 32 = .ok (.getfield 72, 3) := by decide +kernel
theorem dX10_compared_35 : decode cX10_compared 35 = .ok (.iconst 1, 1) := by decide +kernel
theorem dX10_compared_36 : decode cX10_compared 36 = .ok (.iadd, 1) := by decide +kernel
theorem dX10_compared_37 : decode cX10_compared 37 = .ok (.putfield 72, 3) := by decide +kernel
theorem dX10_compared_40 : decode cX10_compared 40 = .ok (.aload_n 0, 1) := by decide +kernel
theorem dX10_compared_41 : decode cX10_compared 41 = .ok (.invokevirtual 103, 3) := by decide +kernel
theorem dX10_compared_44 : decode cX10_compared 44 = .ok (.istore_n 3, 1) := by decide +kernel
theorem dX10_compared_45 : decode cX10_compared 45 = .ok (.iload_n 2, 1) := by decide +kernel
theorem dX10_compared_46 : decode cX10_compared 46 = .ok (.bipush 60, 2) := by decide +kernel
theorem dX10_compared_48 : decode cX10_compared 48 = .ok (.if_icmp .ne 11, 3) := by decide +kernel
theorem dX10_compared_51 : decode cX10_compared 51 = .ok (.iload_n 1, 1) := by decide +kernel
theorem dX10_compared_52 : decode cX10_compared 52 = .ok (.iload_n 3, 1) := by decide +kernel
theorem dX10_compared_53 : decode cX10_compared 53 = .ok (.if_icmp .ge 29, 3) := by decide +kernel
theorem dX10_compared_56 : decode cX10_compared 56 = .ok (.goto 22, 3) := by decide +kernel
theorem dX10_compared_59 : decode cX10_compared 59 = .ok (.iload_n 2, 1) := by decide +kernel
theorem dX10_compared_60 : decode cX10_compared 60 = .ok (.bipush 61, 2) := by decide +kernel
theorem dX10_compared_62 : decode cX10_compared 62 = .ok (.if_icmp .ne 11, 3) := by decide +kernel
theorem dX10_compared_65 : decode cX10_compared 65 = .ok (.iload_n 1, 1) := by decide +kernel
theorem dX10_compared_66 : decode cX10_compared 66 = .ok (.iload_n 3, 1) := by decide +kernel
theorem dX10_compared_67 : decode cX10_compared 67 = .ok (.if_icmp .ne 15, 3) := by decide +kernel
theorem dX10_compared_70 : decode cX10_compared 70 = .ok (.goto 8, 3) := by decide +kernel
theorem dX10_compared_73 : decode cX10_compared 73 = .ok (.iload_n 1, 1) := by decide +kernel
theorem dX10_compared_74 : decode cX10_compared 74 = .ok (.iload_n 3, 1) := by decide +kernel
theorem dX10_compared_75 : decode cX10_compared 75 = .ok (.if_icmp .le 7, 3) := by decide +kernel
theorem dX10_compared_78 : decode cX10_compared 78 = .ok (.iconst 1, 1) := by decide +kernel
theorem dX10_compared_79 : decode cX10_compared 79 = .ok (.goto 4, 3) := by decide +kernel
theorem dX10_compared_82 : decode cX10_compared 82 = .ok (.iconst 0, 1) := by decide +kernel
theorem dX10_compared_83 : decode cX10_compared 83 = .ok (.ireturn, 1) := by decide +kernel
theorem dX10_sum_0 : decode cX10_sum 0 = .ok (.aload_n 0, 1) := by decide +kernel
theorem dX10_sum_1 : decode cX10_sum 1 = .ok (.invokevirtual 106, 3) := by decide +kernel
theorem dX10_sum_4 : decode cX10_sum 4 = .ok (.istore_n 1, 1) := by decide +kernel
theorem dX10_sum_5 : decode cX10_sum 5 = .ok (.aload_n 0, 1) := by decide +kernel
theorem dX10_sum_6 : decode cX10_sum 6 = .ok (.invokevirtual 85, 3) := by decide +kernel
theorem dX10_sum_9 : decode cX10_sum 9 = .ok (.bipush 43, 2) := by decide +kernel
theorem dX10_sum_11 : decode cX10_sum 11 = .ok (.if_icmp .eq 12, 3) := by decide +kernel
theorem dX10_sum_14 : decode cX10_sum 14 = .ok (.aload_n 0, 1) := by decide +kernel
theorem dX10_sum_15 : decode cX10_sum 15 = .ok (.invokevirtual 85, 3) := by decide +kernel
theorem dX10_sum_18 : decode cX10_sum 18 = .ok (.bipush 45, 2) := by decide +kernel
theorem dX10_sum_20 : decode cX10_sum 20 = .ok (.if_icmp .ne 42, 3) := by decide +kernel
theorem dX10_sum_23 : decode cX10_sum 23 = .ok (.aload_n 0, 1) := by decide +kernel
theorem dX10_sum_24 : decode cX10_sum 24 = .ok (.invokevirtual 85, 3) := by decide +kernel
theorem dX10_sum_27 : decode cX10_sum 27 = .ok (.istore_n 2, 1) := by decide +kernel
theorem dX10_sum_28 : decode cX10_sum 28 = .ok (.aload_n 0, 1) := by decide +kernel
theorem dX10_sum_29 : decode cX10_sum 29 = .ok (.dup, 1) := by decide +kernel
theorem dX10_sum_30 : decode cX10_sum 30 = .ok (.getfield 72, 3) := by decide +kernel
theorem dX10_sum_33 : decode cX10_sum 33 = .ok (.iconst 1, 1) := by decide +kernel
theorem dX10_sum_34 : decode cX10_sum 34 = .ok (.iadd, 1) := by decide +kernel
theorem dX10_sum_35 : decode cX10_sum 35 = .ok (.putfield 72, 3) := by decide +kernel
theorem dX10_sum_38 : decode cX10_sum 38 = .ok (.aload_n 0, 1) := by decide +kernel
theorem dX10_sum_39 : decode cX10_sum 39 = .ok (.invokevirtual 106, 3) := by decide +kernel
theorem dX10_sum_42 : decode cX10_sum 42 = .ok (.istore_n 3, 1) := by decide +kernel
theorem dX10_sum_43 : decode cX10_sum 43 = .ok (.iload_n 2, 1) := by decide +kernel
theorem dX10_sum_44 : decode cX10_sum 44 = .ok (.bipush 43, 2) := by decide +kernel
theorem dX10_sum_46 : decode cX10_sum 46 = .ok (.if_icmp .ne 9, 3) := by decide +kernel
theorem dX10_sum_49 : decode cX10_sum 49 = .ok (.iload_n 1, 1) := by decide +kernel
theorem dX10_sum_50 : decode cX10_sum 50 = .ok (.iload_n 3, 1) := by decide +kernel
theorem dX10_sum_51 : decode cX10_sum 51 = .ok (.iadd, 1) := by decide +kernel
theorem dX10_sum_52 : decode cX10_sum 52 = .ok (.goto 6, 3) := by decide +kernel
theorem dX10_sum_55 : decode cX10_sum 55 = .ok (.iload_n 1, 1) := by decide +kernel
theorem dX10_sum_56 : decode cX10_sum 56 = .ok (.iload_n 3, 1) := by decide +kernel
theorem dX10_sum_57 : decode cX10_sum 57 = .ok (.isub, 1) := by decide +kernel
theorem dX10_sum_58 : decode cX10_sum 58 = .ok (.istore_n 1, 1) := by decide +kernel
theorem dX10_sum_59 : decode cX10_sum 59 = .ok (.goto (-54), 3) := by decide +kernel
theorem dX10_sum_62 : decode cX10_sum 62 = .ok (.iload_n 1, 1) := by decide +kernel
theorem dX10_sum_63 : decode cX10_sum 63 = .ok (.ireturn, 1) := by decide +kernel
theorem dX10_product_0 : decode cX10_product 0 = .ok (.aload_n 0, 1) := by decide +kernel
theorem dX10_product_1 : decode cX10_product 1 = .ok (.invokevirtual 109, 3) := by decide +kernel
theorem dX10_product_4 : decode cX10_product 4 = .ok (.istore_n 1, 1) := by decide +kernel
theorem dX10_product_5 : decode cX10_product 5 = .ok (.aload_n 0, 1) := by decide +kernel
theorem dX10_product_6 : decode cX10_product 6 = .ok (.invokevirtual 85, 3) := by decide +kernel
theorem dX10_product_9 : decode cX10_product 9 = .ok (.bipush 42, 2) := by decide +kernel
theorem dX10_product_11 : decode cX10_product 11 = .ok (.if_icmp .eq 21, 3) := by decide +kernel
theorem dX10_product_14 : decode cX10_product 14 = .ok (.aload_n 0, 1) := by decide +kernel
theorem dX10_product_15 : decode cX10_product 15 = .ok (.invokevirtual 85, 3) := by decide +kernel
theorem dX10_product_18 : decode cX10_product 18 = .ok (.bipush 47, 2) := by decide +kernel
theorem dX10_product_20 : decode cX10_product 20 = .ok (.if_icmp .eq 12, 3) := by decide +kernel
theorem dX10_product_23 : decode cX10_product 23 = .ok (.aload_n 0, 1) := by decide +kernel
theorem dX10_product_24 : decode cX10_product 24 = .ok (.invokevirtual 85, 3) := by decide +kernel
theorem dX10_product_27 : decode cX10_product 27 = .ok (.bipush 37, 2) := by decide +kernel
theorem dX10_product_29 : decode cX10_product 29 = .ok (.if_icmp .ne 62, 3) := by decide +kernel
theorem dX10_product_32 : decode cX10_product 32 = .ok (.aload_n 0, 1) := by decide +kernel
theorem dX10_product_33 : decode cX10_product 33 = .ok (.invokevirtual 85, 3) := by decide +kernel
theorem dX10_product_36 : decode cX10_product 36 = .ok (.istore_n 2, 1) := by decide +kernel
theorem dX10_product_37 : decode cX10_product 37 = .ok (.aload_n 0, 1) := by decide +kernel
theorem dX10_product_38 : decode cX10_product 38 = .ok (.dup, 1) := by decide +kernel
theorem dX10_product_39 : decode cX10_product 39 = .ok (.getfield 72, 3) := by decide +kernel
theorem dX10_product_42 : decode cX10_product 42 = .ok (.iconst 1, 1) := by decide +kernel
theorem dX10_product_43 : decode cX10_product 43 = .ok (.iadd, 1) := by decide +kernel
theorem dX10_product_44 : decode cX10_product 44 = .ok (.putfield 72, 3) := by decide +kernel
theorem dX10_product_47 : decode cX10_product 47 = .ok (.aload_n 0, 1) := by decide +kernel
theorem dX10_product_48 : decode cX10_product 48 = .ok (.invokevirtual 109, 3) := by decide +kernel
theorem dX10_product_51 : decode cX10_product 51 = .ok (.istore_n 3, 1) := by decide +kernel
theorem dX10_product_52 : decode cX10_product 52 = .ok (.iload_n 2, 1) := by decide +kernel
theorem dX10_product_53 : decode cX10_product 53 = .ok (.bipush 42, 2) := by decide +kernel
theorem dX10_product_55 : decode cX10_product 55 = .ok (.if_icmp .ne 9, 3) := by decide +kernel
theorem dX10_product_58 : decode cX10_product 58 = .ok (.iload_n 1, 1) := by decide +kernel
theorem dX10_product_59 : decode cX10_product 59 = .ok (.iload_n 3, 1) := by decide +kernel
theorem dX10_product_60 : decode cX10_product 60 = .ok (.imul, 1) := by decide +kernel
theorem dX10_product_61 : decode cX10_product 61 = .ok (.goto 26, 3) := by decide +kernel
theorem dX10_product_64 : decode cX10_product 64 = .ok (.iload_n 3, 1) := by decide +kernel
theorem dX10_product_65 : decode cX10_product 65 = .ok (.ifCond .ne 7, 3) := by decide +kernel
theorem dX10_product_68 : decode cX10_product 68 = .ok (.iconst 0, 1) := by decide +kernel
theorem dX10_product_69 : decode cX10_product 69 = .ok (.goto 18, 3) := by decide +kernel
theorem dX10_product_72 : decode cX10_product 72 = .ok (.iload_n 2, 1) := by decide +kernel
theorem dX10_product_73 : decode cX10_product 73 = .ok (.bipush 47, 2) := by decide +kernel
theorem dX10_product_75 : decode cX10_product 75 = .ok (.if_icmp .ne 9, 3) := by decide +kernel
theorem dX10_product_78 : decode cX10_product 78 = .ok (.iload_n 1, 1) := by decide +kernel
theorem dX10_product_79 : decode cX10_product 79 = .ok (.iload_n 3, 1) := by decide +kernel
theorem dX10_product_80 : decode cX10_product 80 = .ok (.idiv, 1) := by decide +kernel
theorem dX10_product_81 : decode cX10_product 81 = .ok (.goto 6, 3) := by decide +kernel
theorem dX10_product_84 : decode cX10_product 84 = .ok (.iload_n 1, 1) := by decide +kernel
theorem dX10_product_85 : decode cX10_product 85 = .ok (.iload_n 3, 1) := by decide +kernel
theorem dX10_product_86 : decode cX10_product 86 = .ok (.irem, 1) := by decide +kernel
theorem dX10_product_87 : decode cX10_product 87 = .ok (.istore_n 1, 1) := by decide +kernel
theorem dX10_product_88 : decode cX10_product 88 = .ok (.goto (-83), 3) := by decide +kernel
theorem dX10_product_91 : decode cX10_product 91 = .ok (.iload_n 1, 1) := by decide +kernel
theorem dX10_product_92 : decode cX10_product 92 = .ok (.ireturn, 1) := by decide +kernel
theorem dX10_unit_0 : decode cX10_unit 0 = .ok (.aload_n 0, 1) := by decide +kernel
theorem dX10_unit_1 : decode cX10_unit 1 = .ok (.invokevirtual 85, 3) := by decide +kernel
theorem dX10_unit_4 : decode cX10_unit 4 = .ok (.istore_n 1, 1) := by decide +kernel
theorem dX10_unit_5 : decode cX10_unit 5 = .ok (.iload_n 1, 1) := by decide +kernel
theorem dX10_unit_6 : decode cX10_unit 6 = .ok (.bipush 33, 2) := by decide +kernel
theorem dX10_unit_8 : decode cX10_unit 8 = .ok (.if_icmp .eq 9, 3) := by decide +kernel
theorem dX10_unit_11 : decode cX10_unit 11 = .ok (.iload_n 1, 1) := by decide +kernel
theorem dX10_unit_12 : decode cX10_unit 12 = .ok (.bipush 40, 2) := by decide +kernel
theorem dX10_unit_14 : decode cX10_unit 14 = .ok (.if_icmp .ne 104, 3) := by decide +kernel
theorem dX10_unit_17 : decode cX10_unit 17 = .ok (.aload_n 0, 1) := by decide +kernel
theorem dX10_unit_18 : decode cX10_unit 18 = .ok (.getfield 112, 3) := by decide +kernel
theorem dX10_unit_21 : decode cX10_unit 21 = .ok (.iconst 5, 1) := by decide +kernel
theorem dX10_unit_22 : decode cX10_unit 22 = .ok (.if_icmp .ne 8, 3) := by decide +kernel
theorem dX10_unit_25 : decode cX10_unit 25 = .ok (.aload_n 0, 1) := by decide +kernel
theorem dX10_unit_26 : decode cX10_unit 26 = .ok (.invokevirtual 115, 3) := by decide +kernel
theorem dX10_unit_29 : decode cX10_unit 29 = .ok (.ireturn, 1) := by decide +kernel
theorem dX10_unit_30 : decode cX10_unit 30 = .ok (.aload_n 0, 1) := by decide +kernel
theorem dX10_unit_31 : decode cX10_unit 31 = .ok (.dup, 1) := by decide +kernel
theorem dX10_unit_32 : decode cX10_unit 32 = .ok (.getfield 112, 3) := by decide +kernel
theorem dX10_unit_35 : decode cX10_unit 35 = .ok (.iconst 1, 1) := by decide +kernel
theorem dX10_unit_36 : decode cX10_unit 36 = .ok (.iadd, 1) := by decide +kernel
theorem dX10_unit_37 : decode cX10_unit 37 = .ok (.putfield 112, 3) := by decide +kernel
theorem dX10_unit_40 : decode cX10_unit 40 = .ok (.aload_n 0, 1) := by decide +kernel
theorem dX10_unit_41 : decode cX10_unit 41 = .ok (.dup, 1) := by decide +kernel
theorem dX10_unit_42 : decode cX10_unit 42 = .ok (.getfield 72, 3) := by decide +kernel
theorem dX10_unit_45 : decode cX10_unit 45 = .ok (.iconst 1, 1) := by decide +kernel
theorem dX10_unit_46 : decode cX10_unit 46 = .ok (.iadd, 1) := by decide +kernel
theorem dX10_unit_47 : decode cX10_unit 47 = .ok (.putfield 72, 3) := by decide +kernel
theorem dX10_unit_50 : decode cX10_unit 50 = .ok (.iload_n 1, 1) := by decide +kernel
theorem dX10_unit_51 : decode cX10_unit 51 = .ok (.bipush 40, 2) := by decide +kernel
theorem dX10_unit_53 : decode cX10_unit 53 = .ok (.if_icmp .ne 10, 3) := by decide +kernel
theorem dX10_unit_56 : decode cX10_unit 56 = .ok (.aload_n 0, 1) := by decide +kernel
theorem dX10_unit_57 : decode cX10_unit 57 = .ok (.invokevirtual 118, 3) := by decide +kernel
theorem dX10_unit_60 : decode cX10_unit 60 = .ok (.goto 7, 3) := by decide +kernel
theorem dX10_unit_63 : decode cX10_unit 63 = .ok (.aload_n 0, 1) := by decide +kernel
theorem dX10_unit_64 : decode cX10_unit 64 = .ok (.invokevirtual 109, 3) := by decide +kernel
theorem dX10_unit_67 : decode cX10_unit 67 = .ok (.istore_n 2, 1) := by decide +kernel
theorem dX10_unit_68 : decode cX10_unit 68 = .ok (.iload_n 1, 1) := by decide +kernel
theorem dX10_unit_69 : decode cX10_unit 69 = .ok (.bipush 40, 2) := by decide +kernel
theorem dX10_unit_71 : decode cX10_unit 71 = .ok (.if_icmp .ne 17, 3) := by decide +kernel
theorem dX10_unit_74 : decode cX10_unit 74 = .ok (.aload_n 0, 1) := by decide +kernel
theorem dX10_unit_75 : decode cX10_unit 75 = .ok (.bipush 41, 2) := by decide +kernel
theorem dX10_unit_77 : decode cX10_unit 77 = .ok (.invokevirtual 96, 3) := by decide +kernel
theorem dX10_unit_80 : decode cX10_unit 80 = .ok (.ifCond .ne 8, 3) := by decide +kernel
theorem dX10_unit_83 : decode cX10_unit 83 = .ok (.aload_n 0, 1) := by decide +kernel
theorem dX10_unit_84 : decode cX10_unit 84 = .ok (.invokevirtual 115, 3) := by decide +kernel
theorem dX10_unit_87 : decode cX10_unit 87 = .ok (.ireturn, 1) := by decide +kernel
theorem dX10_unit_88 : decode cX10_unit 88 = .ok (.aload_n 0, 1) := by decide +kernel
theorem dX10_unit_89 : decode cX10_unit 89 = .ok (.dup, 1) := by decide +kernel
theorem dX10_unit_90 : decode cX10_unit 90 = .ok (.getfield 112, 3) := by decide +kernel
theorem dX10_unit_93 : decode cX10_unit 93 = .ok (.iconst 1, 1) := by decide +kernel
theorem dX10_unit_94 : decode cX10_unit 94 = .ok (.isub, 1) := by decide +kernel
theorem dX10_unit_95 : decode cX10_unit 95 = .ok (.putfield 112, 3) := by decide +kernel
theorem dX10_unit_98 : decode cX10_unit 98 = .ok (.iload_n 1, 1) := by decide +kernel
theorem dX10_unit_99 : decode cX10_unit 99 = .ok (.bipush 40, 2) := by decide +kernel
theorem dX10_unit_101 : decode cX10_unit 101 = .ok (.if_icmp .ne 7, 3) := by decide +kernel
theorem dX10_unit_104 : decode cX10_unit 104 = .ok (.iload_n 2, 1) := by decide +kernel
theorem dX10_unit_105 : decode cX10_unit 105 = .ok (.goto 12, 3) := by decide +kernel
theorem dX10_unit_108 : decode cX10_unit 108 = .ok (.iload_n 2, 1) := by decide +kernel
theorem dX10_unit_109 : decode cX10_unit 109 = .ok (.ifCond .ne 7, 3) := by decide +kernel
theorem dX10_unit_112 : decode cX10_unit 112 = .ok (.iconst 1, 1) := by decide +kernel
theorem dX10_unit_113 : decode cX10_unit 113 = .ok (.goto 4, 3) := by decide +kernel
theorem dX10_unit_116 : decode cX10_unit 116 = .ok (.iconst 0, 1) := by decide +kernel
theorem dX10_unit_117 : decode cX10_unit 117 = .ok (.ireturn, 1) := by decide +kernel
theorem dX10_unit_118 : decode cX10_unit 118 = .ok (.aload_n 0, 1) := by decide +kernel
theorem dX10_unit_119 : decode cX10_unit 119 = .ok (.iload_n 1, 1) := by decide +kernel
theorem dX10_unit_120 : decode cX10_unit 120 = .ok (.invokevirtual 121, 3) := by decide +kernel
theorem dX10_unit_123 : decode cX10_unit 123 = .ok (.istore_n 2, 1) := by decide +kernel
theorem dX10_unit_124 : decode cX10_unit 124 = .ok (.iload_n 2, 1) := by decide +kernel
theorem dX10_unit_125 : decode cX10_unit 125 = .ok (.ifCond .lt 20, 3) := by decide +kernel
theorem dX10_unit_128 : decode cX10_unit 128 = .ok (.aload_n 0, 1) := by decide +kernel
theorem dX10_unit_129 : decode cX10_unit 129 = .ok (.dup, 1) := by decide +kernel
theorem dX10_unit_130 : decode cX10_unit 130 = .ok (.getfield 72, 3) := by decide +kernel
theorem dX10_unit_133 : decode cX10_unit 133 = .ok (.iconst 1, 1) := by decide +kernel
theorem dX10_unit_134 : decode cX10_unit 134 = .ok (.iadd, 1) := by decide +kernel
theorem dX10_unit_135 : decode cX10_unit 135 = .ok (.putfield 72, 3) := by decide +kernel
theorem dX10_unit_138 : decode cX10_unit 138 = .ok (.aload_n 0, 1) := by decide +kernel
theorem dX10_unit_139 : decode cX10_unit 139 = .ok (.getfield 22, 3) := by decide +kernel
theorem dX10_unit_142 : decode cX10_unit 142 = .ok (.iload_n 2, 1) := by decide +kernel
theorem dX10_unit_143 : decode cX10_unit 143 = .ok (.iaload, 1) := by decide +kernel
theorem dX10_unit_144 : decode cX10_unit 144 = .ok (.ireturn, 1) := by decide +kernel
theorem dX10_unit_145 : decode cX10_unit 145 = .ok (.iconst 0, 1) := by decide +kernel
theorem dX10_unit_146 : decode cX10_unit 146 = .ok (.istore_n 3, 1) := by decide +kernel
theorem dX10_unit_147 : decode cX10_unit 147 = .ok (.iconst 0, 1) := by decide +kernel
theorem dX10_unit_148 : decode cX10_unit 148 = .ok (.istore 4, 2) := by decide +kernel
theorem dX10_unit_150 : decode cX10_unit 150 = .ok (.iload 4, 2) := by decide +kernel
theorem dX10_unit_152 : decode cX10_unit 152 = .ok (.iconst 4, 1) := by decide +kernel
theorem dX10_unit_153 : decode cX10_unit 153 = .ok (.if_icmp .ge 49, 3) := by decide +kernel
theorem dX10_unit_156 : decode cX10_unit 156 = .ok (.aload_n 0, 1) := by decide +kernel
theorem dX10_unit_157 : decode cX10_unit 157 = .ok (.invokevirtual 85, 3) := by decide +kernel
theorem dX10_unit_160 : decode cX10_unit 160 = .ok (.i2l, 1) := by decide +kernel
theorem dX10_unit_161 : decode cX10_unit 161 = .ok (.ldc2_w 125, 3) := by decide +kernel
theorem dX10_unit_164 : decode cX10_unit 164 = .ok (.ldc2_w 127, 3) := by decide +kernel
theorem dX10_unit_167 : decode cX10_unit 167 = .ok (.invokestatic 66, 3) := by decide +kernel
theorem dX10_unit_170 : decode cX10_unit 170 = .ok (.ifCond .eq 32, 3) := by decide +kernel
theorem dX10_unit_173 : decode cX10_unit 173 = .ok (.bipush 10, 2) := by decide +kernel
theorem dX10_unit_175 : decode cX10_unit 175 = .ok (.iload_n 3, 1) := by decide +kernel
theorem dX10_unit_176 : decode cX10_unit 176 = .ok (.imul, 1) := by decide +kernel
theorem dX10_unit_177 : decode cX10_unit 177 = .ok (.aload_n 0, 1) := by decide +kernel
theorem dX10_unit_178 : decode cX10_unit 178 = .ok (.invokevirtual 85, 3) := by decide +kernel
theorem dX10_unit_181 : decode cX10_unit 181 = .ok (.iadd, 1) := by decide +kernel
theorem dX10_unit_182 : decode cX10_unit 182 = .ok (.bipush 48, 2) := by decide +kernel
theorem dX10_unit_184 : decode cX10_unit 184 = .ok (.isub, 1) := by decide +kernel
theorem dX10_unit_185 : decode cX10_unit 185 = .ok (.istore_n 3, 1) := by decide +kernel
theorem dX10_unit_186 : decode cX10_unit 186 = .ok (.aload_n 0, 1) := by decide +kernel
theorem dX10_unit_187 : decode cX10_unit 187 = .ok (.dup, 1) := by decide +kernel
theorem dX10_unit_188 : decode cX10_unit 188 = .ok (.getfield 72, 3) := by decide +kernel
theorem dX10_unit_191 : decode cX10_unit 191 = .ok (.iconst 1, 1) := by decide +kernel
theorem dX10_unit_192 : decode cX10_unit 192 = .ok (.iadd, 1) := by decide +kernel
theorem dX10_unit_193 : decode cX10_unit 193 = .ok (.putfield 72, 3) := by decide +kernel
theorem dX10_unit_196 : decode cX10_unit 196 = .ok (.iinc 4 1, 3) := by decide +kernel
theorem dX10_unit_199 : decode cX10_unit 199 = .ok (.goto (-49), 3) := by decide +kernel
theorem dX10_unit_202 : decode cX10_unit 202 = .ok (.iload 4, 2) := by decide +kernel
theorem dX10_unit_204 : decode cX10_unit 204 = .ok (.ifCond .ne 10, 3) := by decide +kernel
theorem dX10_unit_207 : decode cX10_unit 207 = .ok (.aload_n 0, 1) := by decide +kernel
theorem dX10_unit_208 : decode cX10_unit 208 = .ok (.invokevirtual 115, 3) := by decide +kernel
theorem dX10_unit_211 : decode cX10_unit 211 = .ok (.goto 4, 3) := by decide +kernel
theorem dX10_unit_214 : decode cX10_unit 214 = .ok (.iload_n 3, 1) := by decide +kernel
theorem dX10_unit_215 : decode cX10_unit 215 = .ok (.ireturn, 1) := by decide +kernel
theorem dX10_worked_0 : decode cX10_worked 0 = .ok (.aload_n 0, 1) := by decide +kernel
theorem dX10_worked_1 : decode cX10_worked 1 = .ok (.iload_n 1, 1) := by decide +kernel
theorem dX10_worked_2 : decode cX10_worked 2 = .ok (.putfield 82, 3) := by decide +kernel
theorem dX10_worked_5 : decode cX10_worked 5 = .ok (.aload_n 0, 1) := by decide +kernel
theorem dX10_worked_6 : decode cX10_worked 6 = .ok (.iconst 0, 1) := by decide +kernel
theorem dX10_worked_7 : decode cX10_worked 7 = .ok (.putfield 72, 3) := by decide +kernel
theorem dX10_worked_10 : decode cX10_worked 10 = .ok (.aload_n 0, 1) := by decide +kernel
theorem dX10_worked_11 : decode cX10_worked 11 = .ok (.iload_n 2, 1) := by decide +kernel
theorem dX10_worked_12 : decode cX10_worked 12 = .ok (.putfield 76, 3) := by decide +kernel
theorem dX10_worked_15 : decode cX10_worked 15 = .ok (.aload_n 0, 1) := by decide +kernel
theorem dX10_worked_16 : decode cX10_worked 16 = .ok (.iconst (-1), 1) := by decide +kernel
theorem dX10_worked_17 : decode cX10_worked 17 = .ok (.putfield 79, 3) := by decide +kernel
theorem dX10_worked_20 : decode cX10_worked 20 = .ok (.aload_n 0, 1) := by decide +kernel
theorem dX10_worked_21 : decode cX10_worked 21 = .ok (.iconst 0, 1) := by decide +kernel
theorem dX10_worked_22 : decode cX10_worked 22 = .ok (.putfield 112, 3) := by decide +kernel
theorem dX10_worked_25 : decode cX10_worked 25 = .ok (.aload_n 0, 1) := by decide +kernel
theorem dX10_worked_26 : decode cX10_worked 26 = .ok (.iload_n 3, 1) := by decide +kernel
theorem dX10_worked_27 : decode cX10_worked 27 = .ok (.iconst 1, 1) := by decide +kernel
theorem dX10_worked_28 : decode cX10_worked 28 = .ok (.if_icmp .ne 7, 3) := by decide +kernel
theorem dX10_worked_31 : decode cX10_worked 31 = .ok (.iconst 1, 1) := by decide +kernel
theorem dX10_worked_32 : decode cX10_worked 32 = .ok (.goto 4, 3) := by decide +kernel
theorem dX10_worked_35 : decode cX10_worked 35 = .ok (.iconst 0, 1) := by decide +kernel
theorem dX10_worked_36 : decode cX10_worked 36 = .ok (.putfield 89, 3) := by decide +kernel
theorem dX10_worked_39 : decode cX10_worked 39 = .ok (.aload_n 0, 1) := by decide +kernel
theorem dX10_worked_40 : decode cX10_worked 40 = .ok (.invokevirtual 118, 3) := by decide +kernel
theorem dX10_worked_43 : decode cX10_worked 43 = .ok (.istore 4, 2) := by decide +kernel
theorem dX10_worked_45 : decode cX10_worked 45 = .ok (.aload_n 0, 1) := by decide +kernel
theorem dX10_worked_46 : decode cX10_worked 46 = .ok (.getfield 79, 3) := by decide +kernel
theorem dX10_worked_49 : decode cX10_worked 49 = .ok (.ifCond .ge 19, 3) := by decide +kernel
theorem dX10_worked_52 : decode cX10_worked 52 = .ok (.aload_n 0, 1) := by decide +kernel
theorem dX10_worked_53 : decode cX10_worked 53 = .ok (.getfield 72, 3) := by decide +kernel
theorem dX10_worked_56 : decode cX10_worked 56 = .ok (.aload_n 0, 1) := by decide +kernel
theorem dX10_worked_57 : decode cX10_worked 57 = .ok (.getfield 76, 3) := by decide +kernel
theorem dX10_worked_60 : decode cX10_worked 60 = .ok (.if_icmp .ge 8, 3) := by decide +kernel
theorem dX10_worked_63 : decode cX10_worked 63 = .ok (.aload_n 0, 1) := by decide +kernel
theorem dX10_worked_64 : decode cX10_worked 64 = .ok (.invokevirtual 115, 3) := by decide +kernel
theorem dX10_worked_67 : decode cX10_worked 67 = .ok (.ireturn, 1) := by decide +kernel
theorem dX10_worked_68 : decode cX10_worked 68 = .ok (.iload 4, 2) := by decide +kernel
theorem dX10_worked_70 : decode cX10_worked 70 = .ok (.ireturn, 1) := by decide +kernel
theorem dX10_feed_0 : decode cX10_feed 0 = .ok (.iload_n 3, 1) := by decide +kernel
theorem dX10_feed_1 : decode cX10_feed 1 = .ok (.i2l, 1) := by decide +kernel
theorem dX10_feed_2 : decode cX10_feed 2 = .ok (.lconst 1, 1) := by decide +kernel
theorem dX10_feed_3 : decode cX10_feed 3 = .ok (.ldc2_w 129, 3) := by decide +kernel
theorem dX10_feed_6 : decode cX10_feed 6 = .ok (.invokestatic 66, 3) := by decide +kernel
theorem dX10_feed_9 : decode cX10_feed 9 = .ok (.ifCond .ne 9, 3) := by decide +kernel
theorem dX10_feed_12 : decode cX10_feed 12 = .ok (.aload_n 0, 1) := by decide +kernel
theorem dX10_feed_13 : decode cX10_feed 13 = .ok (.iconst 1, 1) := by decide +kernel
theorem dX10_feed_14 : decode cX10_feed 14 = .ok (.invokevirtual 131, 3) := by decide +kernel
theorem dX10_feed_17 : decode cX10_feed 17 = .ok (.ireturn, 1) := by decide +kernel
theorem dX10_feed_18 : decode cX10_feed 18 = .ok (.aload_n 0, 1) := by decide +kernel
theorem dX10_feed_19 : decode cX10_feed 19 = .ok (.getfield 7, 3) := by decide +kernel
theorem dX10_feed_22 : decode cX10_feed 22 = .ok (.bipush 106, 2) := by decide +kernel
theorem dX10_feed_24 : decode cX10_feed 24 = .ok (.iaload, 1) := by decide +kernel
theorem dX10_feed_25 : decode cX10_feed 25 = .ok (.iload_n 3, 1) := by decide +kernel
theorem dX10_feed_26 : decode cX10_feed 26 = .ok (.iadd, 1) := by decide +kernel
theorem dX10_feed_27 : decode cX10_feed 27 = .ok (.bipush 50, 2) := by decide +kernel
theorem dX10_feed_29 : decode cX10_feed 29 = .ok (.if_icmp .le 9, 3) := by decide +kernel
theorem dX10_feed_32 : decode cX10_feed 32 = .ok (.aload_n 0, 1) := by decide +kernel
theorem dX10_feed_33 : decode cX10_feed 33 = .ok (.iconst 4, 1) := by decide +kernel
theorem dX10_feed_34 : decode cX10_feed 34 = .ok (.invokevirtual 131, 3) := by decide +kernel
theorem dX10_feed_37 : decode cX10_feed 37 = .ok (.ireturn, 1) := by decide +kernel
theorem dX10_feed_38 : decode cX10_feed 38 = .ok (.iconst 0, 1) := by decide +kernel
theorem dX10_feed_39 : decode cX10_feed 39 = .ok (.istore 4, 2) := by decide +kernel
theorem dX10_feed_41 : decode cX10_feed 41 = .ok (.iload 4, 2) := by decide +kernel
theorem dX10_feed_43 : decode cX10_feed 43 = .ok (.iload_n 3, 1) := by decide +kernel
theorem dX10_feed_44 : decode cX10_feed 44 = .ok (.if_icmp .ge 48, 3) := by decide +kernel
theorem dX10_feed_47 : decode cX10_feed 47 = .ok (.aload_n 0, 1) := by decide +kernel
theorem dX10_feed_48 : decode cX10_feed 48 = .ok (.getfield 7, 3) := by decide +kernel
theorem dX10_feed_51 : decode cX10_feed 51 = .ok (.sipush 303, 3) := by decide +kernel
theorem dX10_feed_54 : decode cX10_feed 54 = .ok (.aload_n 0, 1) := by decide +kernel
theorem dX10_feed_55 : decode cX10_feed 55 = .ok (.getfield 7, 3) := by decide +kernel
theorem dX10_feed_58 : decode cX10_feed 58 = .ok (.bipush 106, 2) := by decide +kernel
theorem dX10_feed_60 : decode cX10_feed 60 = .ok (.iaload, 1) := by decide +kernel
theorem dX10_feed_61 : decode cX10_feed 61 = .ok (.iadd, 1) := by decide +kernel
theorem dX10_feed_62 : decode cX10_feed 62 = .ok (.lload_n 1, 1) := by decide +kernel
theorem dX10_feed_63 : decode cX10_feed 63 = .ok (.bipush 8, 2) := by decide +kernel
theorem dX10_feed_65 : decode cX10_feed 65 = .ok (.iload 4, 2) := by decide +kernel
theorem dX10_feed_67 : decode cX10_feed 67 = .ok (.imul, 1) := by decide +kernel
theorem dX10_feed_68 : decode cX10_feed 68 = .ok (.lshr, 1) := by decide +kernel
theorem dX10_feed_69 : decode cX10_feed 69 = .ok (.ldc2_w 134, 3) := by decide +kernel
theorem dX10_feed_72 : decode cX10_feed 72 = .ok (.land, 1) := by decide +kernel
theorem dX10_feed_73 : decode cX10_feed 73 = .ok (.l2i, 1) := by decide +kernel
theorem dX10_feed_74 : decode cX10_feed 74 = .ok (.iastore, 1) := by decide +kernel
theorem dX10_feed_75 : decode cX10_feed 75 = .ok (.aload_n 0, 1) := by decide +kernel
theorem dX10_feed_76 : decode cX10_feed 76 = .ok (.getfield 7, 3) := by decide +kernel
theorem dX10_feed_79 : decode cX10_feed 79 = .ok (.bipush 106, 2) := by decide +kernel
theorem dX10_feed_81 : decode cX10_feed 81 = .ok (.dup2, 1) := by decide +kernel
theorem dX10_feed_82 : decode cX10_feed 82 = .ok (.iaload, 1) := by decide +kernel
theorem dX10_feed_83 : decode cX10_feed 83 = .ok (.iconst 1, 1) := by decide +kernel
theorem dX10_feed_84 : decode cX10_feed 84 = .ok (.iadd, 1) := by decide +kernel
theorem dX10_feed_85 : decode cX10_feed 85 = .ok (.iastore, 1) := by decide +kernel
theorem dX10_feed_86 : decode cX10_feed 86 = .ok (.iinc 4 1, 3) := by decide +kernel
theorem dX10_feed_89 : decode cX10_feed 89 = .ok (.goto (-48), 3) := by decide +kernel
theorem dX10_feed_92 : decode cX10_feed 92 = .ok (.aload_n 0, 1) := by decide +kernel
theorem dX10_feed_93 : decode cX10_feed 93 = .ok (.getfield 7, 3) := by decide +kernel
theorem dX10_feed_96 : decode cX10_feed 96 = .ok (.bipush 106, 2) := by decide +kernel
theorem dX10_feed_98 : decode cX10_feed 98 = .ok (.iaload, 1) := by decide +kernel
theorem dX10_feed_99 : decode cX10_feed 99 = .ok (.ireturn, 1) := by decide +kernel
theorem dX10_text_0 : decode cX10_text 0 = .ok (.iload_n 1, 1) := by decide +kernel
theorem dX10_text_1 : decode cX10_text 1 = .ok (.i2l, 1) := by decide +kernel
theorem dX10_text_2 : decode cX10_text 2 = .ok (.lconst 0, 1) := by decide +kernel
theorem dX10_text_3 : decode cX10_text 3 = .ok (.lconst 1, 1) := by decide +kernel
theorem dX10_text_4 : decode cX10_text 4 = .ok (.invokestatic 66, 3) := by decide +kernel
theorem dX10_text_7 : decode cX10_text 7 = .ok (.ifCond .ne 9, 3) := by decide +kernel
theorem dX10_text_10 : decode cX10_text 10 = .ok (.aload_n 0, 1) := by decide +kernel
theorem dX10_text_11 : decode cX10_text 11 = .ok (.iconst 1, 1) := by decide +kernel
theorem dX10_text_12 : decode cX10_text 12 = .ok (.invokevirtual 131, 3) := by decide +kernel
theorem dX10_text_15 : decode cX10_text 15 = .ok (.ireturn, 1) := by decide +kernel
theorem dX10_text_16 : decode cX10_text 16 = .ok (.aload_n 0, 1) := by decide +kernel
theorem dX10_text_17 : decode cX10_text 17 = .ok (.getfield 7, 3) := by decide +kernel
theorem dX10_text_20 : decode cX10_text 20 = .ok (.bipush 106, 2) := by decide +kernel
theorem dX10_text_22 : decode cX10_text 22 = .ok (.iaload, 1) := by decide +kernel
theorem dX10_text_23 : decode cX10_text 23 = .ok (.istore_n 2, 1) := by decide +kernel
theorem dX10_text_24 : decode cX10_text 24 = .ok (.aload_n 0, 1) := by decide +kernel
theorem dX10_text_25 : decode cX10_text 25 = .ok (.getfield 7, 3) := by decide +kernel
theorem dX10_text_28 : decode cX10_text 28 = .ok (.bipush 106, 2) := by decide +kernel
theorem dX10_text_30 : decode cX10_text 30 = .ok (.iconst 0, 1) := by decide +kernel
theorem dX10_text_31 : decode cX10_text 31 = .ok (.iastore, 1) := by decide +kernel
theorem dX10_text_32 : decode cX10_text 32 = .ok (.aload_n 0, 1) := by decide +kernel
theorem dX10_text_33 : decode cX10_text 33 = .ok (.sipush 303, 3) := by decide +kernel
theorem dX10_text_36 : decode cX10_text 36 = .ok (.iload_n 2, 1) := by decide +kernel
theorem dX10_text_37 : decode cX10_text 37 = .ok (.iload_n 1, 1) := by decide +kernel
theorem dX10_text_38 : decode cX10_text 38 = .ok (.invokevirtual 136, 3) := by decide +kernel
theorem dX10_text_41 : decode cX10_text 41 = .ok (.istore_n 3, 1) := by decide +kernel
theorem dX10_text_42 : decode cX10_text 42 = .ok (.aload_n 0, 1) := by decide +kernel
theorem dX10_text_43 : decode cX10_text 43 = .ok (.getfield 79, 3) := by decide +kernel
theorem dX10_text_46 : decode cX10_text 46 = .ok (.ifCond .lt 11, 3) := by decide +kernel
theorem dX10_text_49 : decode cX10_text 49 = .ok (.bipush (-10), 2) := by decide +kernel
theorem dX10_text_51 : decode cX10_text 51 = .ok (.aload_n 0, 1) := by decide +kernel
theorem dX10_text_52 : decode cX10_text 52 = .ok (.getfield 79, 3) := by decide +kernel
theorem dX10_text_55 : decode cX10_text 55 = .ok (.isub, 1) := by decide +kernel
theorem dX10_text_56 : decode cX10_text 56 = .ok (.ireturn, 1) := by decide +kernel
theorem dX10_text_57 : decode cX10_text 57 = .ok (.aload_n 0, 1) := by decide +kernel
theorem dX10_text_58 : decode cX10_text 58 = .ok (.getfield 7, 3) := by decide +kernel
theorem dX10_text_61 : decode cX10_text 61 = .ok (.sipush 181, 3) := by decide +kernel
theorem dX10_text_64 : decode cX10_text 64 = .ok (.iload_n 1, 1) := by decide +kernel
theorem dX10_text_65 : decode cX10_text 65 = .ok (.iadd, 1) := by decide +kernel
theorem dX10_text_66 : decode cX10_text 66 = .ok (.iload_n 2, 1) := by decide +kernel
theorem dX10_text_67 : decode cX10_text 67 = .ok (.iastore, 1) := by decide +kernel
theorem dX10_text_68 : decode cX10_text 68 = .ok (.iconst 0, 1) := by decide +kernel
theorem dX10_text_69 : decode cX10_text 69 = .ok (.istore 4, 2) := by decide +kernel
theorem dX10_text_71 : decode cX10_text 71 = .ok (.iload 4, 2) := by decide +kernel
theorem dX10_text_73 : decode cX10_text 73 = .ok (.iload_n 2, 1) := by decide +kernel
theorem dX10_text_74 : decode cX10_text 74 = .ok (.if_icmp .ge 36, 3) := by decide +kernel
theorem dX10_text_77 : decode cX10_text 77 = .ok (.aload_n 0, 1) := by decide +kernel
theorem dX10_text_78 : decode cX10_text 78 = .ok (.getfield 7, 3) := by decide +kernel
theorem dX10_text_81 : decode cX10_text 81 = .ok (.sipush 203, 3) := by decide +kernel
theorem dX10_text_84 : decode cX10_text 84 = .ok (.bipush 50, 2) := by decide +kernel
theorem dX10_text_86 : decode cX10_text 86 = .ok (.iload_n 1, 1) := by decide +kernel
theorem dX10_text_87 : decode cX10_text 87 = .ok (.imul, 1) := by decide +kernel
theorem dX10_text_88 : decode cX10_text 88 = .ok (.iadd, 1) := by decide +kernel
theorem dX10_text_89 : decode cX10_text 89 = .ok (.iload 4, 2) := by decide +kernel
theorem dX10_text_91 : decode cX10_text 91 = .ok (.iadd, 1) := by decide +kernel
theorem dX10_text_92 : decode cX10_text 92 = .ok (.aload_n 0, 1) := by decide +kernel
theorem dX10_text_93 : decode cX10_text 93 = .ok (.getfield 7, 3) := by decide +kernel
theorem dX10_text_96 : decode cX10_text 96 = .ok (.sipush 303, 3) := by decide +kernel
theorem dX10_text_99 : decode cX10_text 99 = .ok (.iload 4, 2) := by decide +kernel
theorem dX10_text_101 : decode cX10_text 101 = .ok (.iadd, 1) := by decide +kernel
theorem dX10_text_102 : decode cX10_text 102 = .ok (.iaload, 1) := by decide +kernel
theorem dX10_text_103 : decode cX10_text 103 = .ok (.iastore, 1) := by decide +kernel
theorem dX10_text_104 : decode cX10_text 104 = .ok (.iinc 4 1, 3) := by decide +kernel
theorem dX10_text_107 : decode cX10_text 107 = .ok (.goto (-36), 3) := by decide +kernel
theorem dX10_text_110 : decode cX10_text 110 = .ok (.iconst 1, 1) := by decide +kernel
theorem dX10_text_111 : decode cX10_text 111 = .ok (.ireturn, 1) := by decide +kernel
theorem dX10_carries_0 : decode cX10_carries 0 = .ok (.aload_n 0, 1) := by decide +kernel
theorem dX10_carries_1 : decode cX10_carries 1 = .ok (.getfield 7, 3) := by decide +kernel
theorem dX10_carries_4 : decode cX10_carries 4 = .ok (.sipush 181, 3) := by decide +kernel
theorem dX10_carries_7 : decode cX10_carries 7 = .ok (.iaload, 1) := by decide +kernel
theorem dX10_carries_8 : decode cX10_carries 8 = .ok (.ifCond .ne 14, 3) := by decide +kernel
theorem dX10_carries_11 : decode cX10_carries 11 = .ok (.iload_n 1, 1) := by decide +kernel
theorem dX10_carries_12 : decode cX10_carries 12 = .ok (.iload_n 2, 1) := by decide +kernel
theorem dX10_carries_13 : decode cX10_carries 13 = .ok (.isub, 1) := by decide +kernel
theorem dX10_carries_14 : decode cX10_carries 14 = .ok (.iconst 5, 1) := by decide +kernel
theorem dX10_carries_15 : decode cX10_carries 15 = .ok (.iload_n 3, 1) := by decide +kernel
theorem dX10_carries_16 : decode cX10_carries 16 = .ok (.imul, 1) := by decide +kernel
theorem dX10_carries_17 : decode cX10_carries 17 = .ok (.isub, 1) := by decide +kernel
theorem dX10_carries_18 : decode cX10_carries 18 = .ok (.iload 4, 2) := by decide +kernel
theorem dX10_carries_20 : decode cX10_carries 20 = .ok (.iadd, 1) := by decide +kernel
theorem dX10_carries_21 : decode cX10_carries 21 = .ok (.ireturn, 1) := by decide +kernel
theorem dX10_carries_22 : decode cX10_carries 22 = .ok (.aload_n 0, 1) := by decide +kernel
theorem dX10_carries_23 : decode cX10_carries 23 = .ok (.getfield 22, 3) := by decide +kernel
theorem dX10_carries_26 : decode cX10_carries 26 = .ok (.iconst 0, 1) := by decide +kernel
theorem dX10_carries_27 : decode cX10_carries 27 = .ok (.iload_n 1, 1) := by decide +kernel
theorem dX10_carries_28 : decode cX10_carries 28 = .ok (.iastore, 1) := by decide +kernel
theorem dX10_carries_29 : decode cX10_carries 29 = .ok (.aload_n 0, 1) := by decide +kernel
theorem dX10_carries_30 : decode cX10_carries 30 = .ok (.getfield 22, 3) := by decide +kernel
theorem dX10_carries_33 : decode cX10_carries 33 = .ok (.iconst 1, 1) := by decide +kernel
theorem dX10_carries_34 : decode cX10_carries 34 = .ok (.iload_n 2, 1) := by decide +kernel
theorem dX10_carries_35 : decode cX10_carries 35 = .ok (.iastore, 1) := by decide +kernel
theorem dX10_carries_36 : decode cX10_carries 36 = .ok (.aload_n 0, 1) := by decide +kernel
theorem dX10_carries_37 : decode cX10_carries 37 = .ok (.getfield 22, 3) := by decide +kernel
theorem dX10_carries_40 : decode cX10_carries 40 = .ok (.iconst 2, 1) := by decide +kernel
theorem dX10_carries_41 : decode cX10_carries 41 = .ok (.iload_n 3, 1) := by decide +kernel
theorem dX10_carries_42 : decode cX10_carries 42 = .ok (.iastore, 1) := by decide +kernel
theorem dX10_carries_43 : decode cX10_carries 43 = .ok (.aload_n 0, 1) := by decide +kernel
theorem dX10_carries_44 : decode cX10_carries 44 = .ok (.getfield 22, 3) := by decide +kernel
theorem dX10_carries_47 : decode cX10_carries 47 = .ok (.iconst 3, 1) := by decide +kernel
theorem dX10_carries_48 : decode cX10_carries 48 = .ok (.iload 4, 2) := by decide +kernel
theorem dX10_carries_50 : decode cX10_carries 50 = .ok (.iastore, 1) := by decide +kernel
theorem dX10_carries_51 : decode cX10_carries 51 = .ok (.aload_n 0, 1) := by decide +kernel
theorem dX10_carries_52 : decode cX10_carries 52 = .ok (.getfield 22, 3) := by decide +kernel
theorem dX10_carries_55 : decode cX10_carries 55 = .ok (.iconst 4, 1) := by decide +kernel
theorem dX10_carries_56 : decode cX10_carries 56 = .ok (.iload 5, 2) := by decide +kernel
theorem dX10_carries_58 : decode cX10_carries 58 = .ok (.iastore, 1) := by decide +kernel
theorem dX10_carries_59 : decode cX10_carries 59 = .ok (.aload_n 0, 1) := by decide +kernel
theorem dX10_carries_60 : decode cX10_carries 60 = .ok (.sipush 203, 3) := by decide +kernel
theorem dX10_carries_63 : decode cX10_carries 63 = .ok (.aload_n 0, 1) := by decide +kernel
theorem dX10_carries_64 : decode cX10_carries 64 = .ok (.getfield 7, 3) := by decide +kernel
theorem dX10_carries_67 : decode cX10_carries 67 = .ok (.sipush 181, 3) := by decide +kernel
theorem dX10_carries_70 : decode cX10_carries 70 = .ok (.iaload, 1) := by decide +kernel
theorem dX10_carries_71 : decode cX10_carries 71 = .ok (.iconst 0, 1) := by decide +kernel
theorem dX10_carries_72 : decode cX10_carries 72 = .ok (.invokevirtual 136, 3) := by decide +kernel
theorem dX10_carries_75 : decode cX10_carries 75 = .ok (.ireturn, 1) := by decide +kernel
theorem dX10_grazes_0 : decode cX10_grazes 0 = .ok (.iload_n 1, 1) := by decide +kernel
theorem dX10_grazes_1 : decode cX10_grazes 1 = .ok (.iload_n 2, 1) := by decide +kernel
theorem dX10_grazes_2 : decode cX10_grazes 2 = .ok (.iadd, 1) := by decide +kernel
theorem dX10_grazes_3 : decode cX10_grazes 3 = .ok (.iconst 3, 1) := by decide +kernel
theorem dX10_grazes_4 : decode cX10_grazes 4 = .ok (.isub, 1) := by decide +kernel
theorem dX10_grazes_5 : decode cX10_grazes 5 = .ok (.istore 4, 2) := by decide +kernel
theorem dX10_grazes_7 : decode cX10_grazes 7 = .ok (.aload_n 0, 1) := by decide +kernel
theorem dX10_grazes_8 : decode cX10_grazes 8 = .ok (.getfield 7, 3) := by decide +kernel
theorem dX10_grazes_11 : decode cX10_grazes 11 = .ok (.sipush 182, 3) := by decide +kernel
theorem dX10_grazes_14 : decode cX10_grazes 14 = .ok (.iaload, 1) := by decide +kernel
theorem dX10_grazes_15 : decode cX10_grazes 15 = .ok (.ifCond .le 42, 3) := by decide +kernel
theorem dX10_grazes_18 : decode cX10_grazes 18 = .ok (.aload_n 0, 1) := by decide +kernel
theorem dX10_grazes_19 : decode cX10_grazes 19 = .ok (.getfield 22, 3) := by decide +kernel
theorem dX10_grazes_22 : decode cX10_grazes 22 = .ok (.iconst 0, 1) := by decide +kernel
theorem dX10_grazes_23 : decode cX10_grazes 23 = .ok (.iload_n 1, 1) := by decide +kernel
theorem dX10_grazes_24 : decode cX10_grazes 24 = .ok (.iastore, 1) := by decide +kernel
theorem dX10_grazes_25 : decode cX10_grazes 25 = .ok (.aload_n 0, 1) := by decide +kernel
theorem dX10_grazes_26 : decode cX10_grazes 26 = .ok (.getfield 22, 3) := by decide +kernel
theorem dX10_grazes_29 : decode cX10_grazes 29 = .ok (.iconst 1, 1) := by decide +kernel
theorem dX10_grazes_30 : decode cX10_grazes 30 = .ok (.iload_n 2, 1) := by decide +kernel
theorem dX10_grazes_31 : decode cX10_grazes 31 = .ok (.iastore, 1) := by decide +kernel
theorem dX10_grazes_32 : decode cX10_grazes 32 = .ok (.aload_n 0, 1) := by decide +kernel
theorem dX10_grazes_33 : decode cX10_grazes 33 = .ok (.getfield 22, 3) := by decide +kernel
theorem dX10_grazes_36 : decode cX10_grazes 36 = .ok (.iconst 2, 1) := by decide +kernel
theorem dX10_grazes_37 : decode cX10_grazes 37 = .ok (.iload_n 3, 1) := by decide +kernel
theorem dX10_grazes_38 : decode cX10_grazes 38 = .ok (.iastore, 1) := by decide +kernel
theorem dX10_grazes_39 : decode cX10_grazes 39 = .ok (.aload_n 0, 1) := by decide +kernel
theorem dX10_grazes_40 : decode cX10_grazes 40 = .ok (.sipush 253, 3) := by decide +kernel
theorem dX10_grazes_43 : decode cX10_grazes 43 = .ok (.aload_n 0, 1) := by decide +kernel
theorem dX10_grazes_44 : decode cX10_grazes 44 = .ok (.getfield 7, 3) := by decide +kernel
theorem dX10_grazes_47 : decode cX10_grazes 47 = .ok (.sipush 182, 3) := by decide +kernel
theorem dX10_grazes_50 : decode cX10_grazes 50 = .ok (.iaload, 1) := by decide +kernel
theorem dX10_grazes_51 : decode cX10_grazes 51 = .ok (.iconst 1, 1) := by decide +kernel
theorem dX10_grazes_52 : decode cX10_grazes 52 = .ok (.invokevirtual 136, 3) := by decide +kernel
theorem dX10_grazes_55 : decode cX10_grazes 55 = .ok (.istore 4, 2) := by decide +kernel
theorem dX10_grazes_57 : decode cX10_grazes 57 = .ok (.iload 4, 2) := by decide +kernel
theorem dX10_grazes_59 : decode cX10_grazes 59 = .ok (.iconst 0, 1) := by decide +kernel
theorem dX10_grazes_60 : decode cX10_grazes 60 = .ok (.bipush 99, 2) := by decide +kernel
theorem dX10_grazes_62 : decode cX10_grazes 62 = .ok (.invokestatic 140, 3) := by decide +kernel
theorem dX10_grazes_65 : decode cX10_grazes 65 = .ok (.ireturn, 1) := by decide +kernel
theorem dX10_law_0 : decode cX10_law 0 = .ok (.iload_n 1, 1) := by decide +kernel
theorem dX10_law_1 : decode cX10_law 1 = .ok (.ifCond .ne 17, 3) := by decide +kernel
theorem dX10_law_4 : decode cX10_law 4 = .ok (.aload_n 0, 1) := by decide +kernel
theorem dX10_law_5 : decode cX10_law 5 = .ok (.iload_n 2, 1) := by decide +kernel
theorem dX10_law_6 : decode cX10_law 6 = .ok (.iload_n 3, 1) := by decide +kernel
theorem dX10_law_7 : decode cX10_law 7 = .ok (.iload 4, 2) := by decide +kernel
theorem dX10_law_9 : decode cX10_law 9 = .ok (.iload 5, 2) := by decide +kernel
theorem dX10_law_11 : decode cX10_law 11 = .ok (.iconst 0, 1) := by decide +kernel
theorem dX10_law_12 : decode cX10_law 12 = .ok (.invokevirtual 143, 3) := by decide +kernel
theorem dX10_law_15 : decode cX10_law 15 = .ok (.goto 24, 3) := by decide +kernel
theorem dX10_law_18 : decode cX10_law 18 = .ok (.iload_n 1, 1) := by decide +kernel
theorem dX10_law_19 : decode cX10_law 19 = .ok (.iconst 1, 1) := by decide +kernel
theorem dX10_law_20 : decode cX10_law 20 = .ok (.if_icmp .ne 14, 3) := by decide +kernel
theorem dX10_law_23 : decode cX10_law 23 = .ok (.aload_n 0, 1) := by decide +kernel
theorem dX10_law_24 : decode cX10_law 24 = .ok (.iload_n 2, 1) := by decide +kernel
theorem dX10_law_25 : decode cX10_law 25 = .ok (.iload_n 3, 1) := by decide +kernel
theorem dX10_law_26 : decode cX10_law 26 = .ok (.iload 4, 2) := by decide +kernel
theorem dX10_law_28 : decode cX10_law 28 = .ok (.invokevirtual 147, 3) := by decide +kernel
theorem dX10_law_31 : decode cX10_law 31 = .ok (.goto 8, 3) := by decide +kernel
theorem dX10_law_34 : decode cX10_law 34 = .ok (.aload_n 0, 1) := by decide +kernel
theorem dX10_law_35 : decode cX10_law 35 = .ok (.iconst 1, 1) := by decide +kernel
theorem dX10_law_36 : decode cX10_law 36 = .ok (.invokevirtual 131, 3) := by decide +kernel
theorem dX10_law_39 : decode cX10_law 39 = .ok (.ireturn, 1) := by decide +kernel
theorem dX10_hill_0 : decode cX10_hill 0 = .ok (.iload_n 1, 1) := by decide +kernel
theorem dX10_hill_1 : decode cX10_hill 1 = .ok (.i2l, 1) := by decide +kernel
theorem dX10_hill_2 : decode cX10_hill 2 = .ok (.lconst 0, 1) := by decide +kernel
theorem dX10_hill_3 : decode cX10_hill 3 = .ok (.ldc2_w 150, 3) := by decide +kernel
theorem dX10_hill_6 : decode cX10_hill 6 = .ok (.invokestatic 66, 3) := by decide +kernel
theorem dX10_hill_9 : decode cX10_hill 9 = .ok (.ifCond .eq 15, 3) := by decide +kernel
theorem dX10_hill_12 : decode cX10_hill 12 = .ok (.iload_n 2, 1) := by decide +kernel
theorem dX10_hill_13 : decode cX10_hill 13 = .ok (.i2l, 1) := by decide +kernel
theorem dX10_hill_14 : decode cX10_hill 14 = .ok (.lconst 0, 1) := by decide +kernel
theorem dX10_hill_15 : decode cX10_hill 15 = .ok (.ldc2_w 152, 3) := by decide +kernel
theorem dX10_hill_18 : decode cX10_hill 18 = .ok (.invokestatic 66, 3) := by decide +kernel
theorem dX10_hill_21 : decode cX10_hill 21 = .ok (.ifCond .ne 9, 3) := by decide +kernel
theorem dX10_hill_24 : decode cX10_hill 24 = .ok (.aload_n 0, 1) := by decide +kernel
theorem dX10_hill_25 : decode cX10_hill 25 = .ok (.iconst 1, 1) := by decide +kernel
theorem dX10_hill_26 : decode cX10_hill 26 = .ok (.invokevirtual 131, 3) := by decide +kernel
theorem dX10_hill_29 : decode cX10_hill 29 = .ok (.ireturn, 1) := by decide +kernel
theorem dX10_hill_30 : decode cX10_hill 30 = .ok (.aload_n 0, 1) := by decide +kernel
theorem dX10_hill_31 : decode cX10_hill 31 = .ok (.getfield 7, 3) := by decide +kernel
theorem dX10_hill_34 : decode cX10_hill 34 = .ok (.iconst 0, 1) := by decide +kernel
theorem dX10_hill_35 : decode cX10_hill 35 = .ok (.iload_n 1, 1) := by decide +kernel
theorem dX10_hill_36 : decode cX10_hill 36 = .ok (.iadd, 1) := by decide +kernel
theorem dX10_hill_37 : decode cX10_hill 37 = .ok (.iaload, 1) := by decide +kernel
theorem dX10_hill_38 : decode cX10_hill 38 = .ok (.istore_n 3, 1) := by decide +kernel
theorem dX10_hill_39 : decode cX10_hill 39 = .ok (.aload_n 0, 1) := by decide +kernel
theorem dX10_hill_40 : decode cX10_hill 40 = .ok (.getfield 7, 3) := by decide +kernel
theorem dX10_hill_43 : decode cX10_hill 43 = .ok (.iconst 0, 1) := by decide +kernel
theorem dX10_hill_44 : decode cX10_hill 44 = .ok (.iload_n 1, 1) := by decide +kernel
theorem dX10_hill_45 : decode cX10_hill 45 = .ok (.iadd, 1) := by decide +kernel
theorem dX10_hill_46 : decode cX10_hill 46 = .ok (.iload_n 2, 1) := by decide +kernel
theorem dX10_hill_47 : decode cX10_hill 47 = .ok (.iastore, 1) := by decide +kernel
theorem dX10_hill_48 : decode cX10_hill 48 = .ok (.iload_n 3, 1) := by decide +kernel
theorem dX10_hill_49 : decode cX10_hill 49 = .ok (.ireturn, 1) := by decide +kernel
theorem dX10_set_0 : decode cX10_set 0 = .ok (.iload_n 1, 1) := by decide +kernel
theorem dX10_set_1 : decode cX10_set 1 = .ok (.ifCond .ne 17, 3) := by decide +kernel
theorem dX10_set_4 : decode cX10_set 4 = .ok (.iload_n 2, 1) := by decide +kernel
theorem dX10_set_5 : decode cX10_set 5 = .ok (.i2l, 1) := by decide +kernel
theorem dX10_set_6 : decode cX10_set 6 = .ok (.ldc2_w 154, 3) := by decide +kernel
theorem dX10_set_9 : decode cX10_set 9 = .ok (.ldc2_w 156, 3) := by decide +kernel
theorem dX10_set_12 : decode cX10_set 12 = .ok (.invokestatic 66, 3) := by decide +kernel
theorem dX10_set_15 : decode cX10_set 15 = .ok (.goto 42, 3) := by decide +kernel
theorem dX10_set_18 : decode cX10_set 18 = .ok (.iload_n 1, 1) := by decide +kernel
theorem dX10_set_19 : decode cX10_set 19 = .ok (.iconst 1, 1) := by decide +kernel
theorem dX10_set_20 : decode cX10_set 20 = .ok (.if_icmp .ne 15, 3) := by decide +kernel
theorem dX10_set_23 : decode cX10_set 23 = .ok (.iload_n 2, 1) := by decide +kernel
theorem dX10_set_24 : decode cX10_set 24 = .ok (.i2l, 1) := by decide +kernel
theorem dX10_set_25 : decode cX10_set 25 = .ok (.lconst 0, 1) := by decide +kernel
theorem dX10_set_26 : decode cX10_set 26 = .ok (.ldc2_w 158, 3) := by decide +kernel
theorem dX10_set_29 : decode cX10_set 29 = .ok (.invokestatic 66, 3) := by decide +kernel
theorem dX10_set_32 : decode cX10_set 32 = .ok (.goto 25, 3) := by decide +kernel
theorem dX10_set_35 : decode cX10_set 35 = .ok (.iload_n 1, 1) := by decide +kernel
theorem dX10_set_36 : decode cX10_set 36 = .ok (.iconst 2, 1) := by decide +kernel
theorem dX10_set_37 : decode cX10_set 37 = .ok (.if_icmp .ne 19, 3) := by decide +kernel
theorem dX10_set_40 : decode cX10_set 40 = .ok (.iload_n 2, 1) := by decide +kernel
theorem dX10_set_41 : decode cX10_set 41 = .ok (.i2l, 1) := by decide +kernel
theorem dX10_set_42 : decode cX10_set 42 = .ok (.lconst 0, 1) := by decide +kernel
theorem dX10_set_43 : decode cX10_set 43 = .ok (.ldc2_w 160, 3) := by decide +kernel
theorem dX10_set_46 : decode cX10_set 46 = .ok (.invokestatic 66, 3) := by decide +kernel
theorem dX10_set_49 : decode cX10_set 49 = .ok (.ifCond .eq 7, 3) := by decide +kernel
theorem dX10_set_52 : decode cX10_set 52 = .ok (.iconst 1, 1) := by decide +kernel
theorem dX10_set_53 : decode cX10_set 53 = .ok (.goto 4, 3) := by decide +kernel
theorem dX10_set_56 : decode cX10_set 56 = .ok (.iconst 0, 1) := by decide +kernel
theorem dX10_set_57 : decode cX10_set 57 = .ok (.istore_n 3, 1) := by decide +kernel
theorem dX10_set_58 : decode cX10_set 58 = .ok (.iload_n 3, 1) := by decide +kernel
theorem dX10_set_59 : decode cX10_set 59 = .ok (.ifCond .ne 9, 3) := by decide +kernel
theorem dX10_set_62 : decode cX10_set 62 = .ok (.aload_n 0, 1) := by decide +kernel
theorem dX10_set_63 : decode cX10_set 63 = .ok (.iconst 1, 1) := by decide +kernel
theorem dX10_set_64 : decode cX10_set 64 = .ok (.invokevirtual 131, 3) := by decide +kernel
theorem dX10_set_67 : decode cX10_set 67 = .ok (.ireturn, 1) := by decide +kernel
theorem dX10_set_68 : decode cX10_set 68 = .ok (.aload_n 0, 1) := by decide +kernel
theorem dX10_set_69 : decode cX10_set 69 = .ok (.getfield 7, 3) := by decide +kernel
theorem dX10_set_72 : decode cX10_set 72 = .ok (.bipush 100, 2) := by decide +kernel
theorem dX10_set_74 : decode cX10_set 74 = .ok (.iload_n 1, 1) := by decide +kernel
theorem dX10_set_75 : decode cX10_set 75 = .ok (.iadd, 1) := by decide +kernel
theorem dX10_set_76 : decode cX10_set 76 = .ok (.iaload, 1) := by decide +kernel
theorem dX10_set_77 : decode cX10_set 77 = .ok (.istore 4, 2) := by decide +kernel
theorem dX10_set_79 : decode cX10_set 79 = .ok (.aload_n 0, 1) := by decide +kernel
theorem dX10_set_80 : decode cX10_set 80 = .ok (.getfield 7, 3) := by decide +kernel
theorem dX10_set_83 : decode cX10_set 83 = .ok (.bipush 100, 2) := by decide +kernel
theorem dX10_set_85 : decode cX10_set 85 = .ok (.iload_n 1, 1) := by decide +kernel
theorem dX10_set_86 : decode cX10_set 86 = .ok (.iadd, 1) := by decide +kernel
theorem dX10_set_87 : decode cX10_set 87 = .ok (.iload_n 2, 1) := by decide +kernel
theorem dX10_set_88 : decode cX10_set 88 = .ok (.iastore, 1) := by decide +kernel
theorem dX10_set_89 : decode cX10_set 89 = .ok (.iload 4, 2) := by decide +kernel
theorem dX10_set_91 : decode cX10_set 91 = .ok (.ireturn, 1) := by decide +kernel
theorem dX10_lays_0 : decode cX10_lays 0 = .ok (.aload_n 0, 1) := by decide +kernel
theorem dX10_lays_1 : decode cX10_lays 1 = .ok (.iload_n 1, 1) := by decide +kernel
theorem dX10_lays_2 : decode cX10_lays 2 = .ok (.iconst 0, 1) := by decide +kernel
theorem dX10_lays_3 : decode cX10_lays 3 = .ok (.iload_n 2, 1) := by decide +kernel
theorem dX10_lays_4 : decode cX10_lays 4 = .ok (.invokevirtual 162, 3) := by decide +kernel
theorem dX10_lays_7 : decode cX10_lays 7 = .ok (.aload_n 0, 1) := by decide +kernel
theorem dX10_lays_8 : decode cX10_lays 8 = .ok (.iload_n 1, 1) := by decide +kernel
theorem dX10_lays_9 : decode cX10_lays 9 = .ok (.iconst 1, 1) := by decide +kernel
theorem dX10_lays_10 : decode cX10_lays 10 = .ok (.iload_n 3, 1) := by decide +kernel
theorem dX10_lays_11 : decode cX10_lays 11 = .ok (.invokevirtual 162, 3) := by decide +kernel
theorem dX10_lays_14 : decode cX10_lays 14 = .ok (.aload_n 0, 1) := by decide +kernel
theorem dX10_lays_15 : decode cX10_lays 15 = .ok (.iload_n 1, 1) := by decide +kernel
theorem dX10_lays_16 : decode cX10_lays 16 = .ok (.iconst 2, 1) := by decide +kernel
theorem dX10_lays_17 : decode cX10_lays 17 = .ok (.iload 4, 2) := by decide +kernel
theorem dX10_lays_19 : decode cX10_lays 19 = .ok (.invokevirtual 162, 3) := by decide +kernel
theorem dX10_lays_22 : decode cX10_lays 22 = .ok (.aload_n 0, 1) := by decide +kernel
theorem dX10_lays_23 : decode cX10_lays 23 = .ok (.iload_n 1, 1) := by decide +kernel
theorem dX10_lays_24 : decode cX10_lays 24 = .ok (.iconst 3, 1) := by decide +kernel
theorem dX10_lays_25 : decode cX10_lays 25 = .ok (.iload 5, 2) := by decide +kernel
theorem dX10_lays_27 : decode cX10_lays 27 = .ok (.invokevirtual 162, 3) := by decide +kernel
theorem dX10_lays_30 : decode cX10_lays 30 = .ok (.aload_n 0, 1) := by decide +kernel
theorem dX10_lays_31 : decode cX10_lays 31 = .ok (.iload_n 1, 1) := by decide +kernel
theorem dX10_lays_32 : decode cX10_lays 32 = .ok (.iconst 4, 1) := by decide +kernel
theorem dX10_lays_33 : decode cX10_lays 33 = .ok (.iconst 0, 1) := by decide +kernel
theorem dX10_lays_34 : decode cX10_lays 34 = .ok (.invokevirtual 162, 3) := by decide +kernel
theorem dX10_lays_37 : decode cX10_lays 37 = .ok (.aload_n 0, 1) := by decide +kernel
theorem dX10_lays_38 : decode cX10_lays 38 = .ok (.iload_n 1, 1) := by decide +kernel
theorem dX10_lays_39 : decode cX10_lays 39 = .ok (.iconst 5, 1) := by decide +kernel
theorem dX10_lays_40 : decode cX10_lays 40 = .ok (.iconst 1, 1) := by decide +kernel
theorem dX10_lays_41 : decode cX10_lays 41 = .ok (.invokevirtual 162, 3) := by decide +kernel
theorem dX10_lays_44 : decode cX10_lays 44 = .ok (.aload_n 0, 1) := by decide +kernel
theorem dX10_lays_45 : decode cX10_lays 45 = .ok (.iload_n 1, 1) := by decide +kernel
theorem dX10_lays_46 : decode cX10_lays 46 = .ok (.bipush 6, 2) := by decide +kernel
theorem dX10_lays_48 : decode cX10_lays 48 = .ok (.iconst 0, 1) := by decide +kernel
theorem dX10_lays_49 : decode cX10_lays 49 = .ok (.invokevirtual 162, 3) := by decide +kernel
theorem dX10_lays_52 : decode cX10_lays 52 = .ok (.return_, 1) := by decide +kernel
theorem dX10_bell_0 : decode cX10_bell 0 = .ok (.iload_n 1, 1) := by decide +kernel
theorem dX10_bell_1 : decode cX10_bell 1 = .ok (.ifCond .lt 45, 3) := by decide +kernel
theorem dX10_bell_4 : decode cX10_bell 4 = .ok (.iload_n 1, 1) := by decide +kernel
theorem dX10_bell_5 : decode cX10_bell 5 = .ok (.bipush 100, 2) := by decide +kernel
theorem dX10_bell_7 : decode cX10_bell 7 = .ok (.idiv, 1) := by decide +kernel
theorem dX10_bell_8 : decode cX10_bell 8 = .ok (.bipush 6, 2) := by decide +kernel
theorem dX10_bell_10 : decode cX10_bell 10 = .ok (.if_icmp .gt 36, 3) := by decide +kernel
theorem dX10_bell_13 : decode cX10_bell 13 = .ok (.iload_n 1, 1) := by decide +kernel
theorem dX10_bell_14 : decode cX10_bell 14 = .ok (.bipush 100, 2) := by decide +kernel
theorem dX10_bell_16 : decode cX10_bell 16 = .ok (.irem, 1) := by decide +kernel
theorem dX10_bell_17 : decode cX10_bell 17 = .ok (.bipush 23, 2) := by decide +kernel
theorem dX10_bell_19 : decode cX10_bell 19 = .ok (.if_icmp .gt 27, 3) := by decide +kernel
theorem dX10_bell_22 : decode cX10_bell 22 = .ok (.iload_n 2, 1) := by decide +kernel
theorem dX10_bell_23 : decode cX10_bell 23 = .ok (.i2l, 1) := by decide +kernel
theorem dX10_bell_24 : decode cX10_bell 24 = .ok (.lconst 0, 1) := by decide +kernel
theorem dX10_bell_25 : decode cX10_bell 25 = .ok (.ldc2_w 150, 3) := by decide +kernel
theorem dX10_bell_28 : decode cX10_bell 28 = .ok (.invokestatic 66, 3) := by decide +kernel
theorem dX10_bell_31 : decode cX10_bell 31 = .ok (.ifCond .eq 15, 3) := by decide +kernel
theorem dX10_bell_34 : decode cX10_bell 34 = .ok (.iload_n 3, 1) := by decide +kernel
theorem dX10_bell_35 : decode cX10_bell 35 = .ok (.i2l, 1) := by decide +kernel
theorem dX10_bell_36 : decode cX10_bell 36 = .ok (.lconst 0, 1) := by decide +kernel
theorem dX10_bell_37 : decode cX10_bell 37 = .ok (.ldc2_w 150, 3) := by decide +kernel
theorem dX10_bell_40 : decode cX10_bell 40 = .ok (.invokestatic 66, 3) := by decide +kernel
theorem dX10_bell_43 : decode cX10_bell 43 = .ok (.ifCond .ne 9, 3) := by decide +kernel
theorem dX10_bell_46 : decode cX10_bell 46 = .ok (.aload_n 0, 1) := by decide +kernel
theorem dX10_bell_47 : decode cX10_bell 47 = .ok (.iconst 1, 1) := by decide +kernel
theorem dX10_bell_48 : decode cX10_bell 48 = .ok (.invokevirtual 131, 3) := by decide +kernel
theorem dX10_bell_51 : decode cX10_bell 51 = .ok (.ireturn, 1) := by decide +kernel
theorem dX10_bell_52 : decode cX10_bell 52 = .ok (.aload_n 0, 1) := by decide +kernel
theorem dX10_bell_53 : decode cX10_bell 53 = .ok (.getfield 7, 3) := by decide +kernel
theorem dX10_bell_56 : decode cX10_bell 56 = .ok (.bipush 103, 2) := by decide +kernel
theorem dX10_bell_58 : decode cX10_bell 58 = .ok (.iaload, 1) := by decide +kernel
theorem dX10_bell_59 : decode cX10_bell 59 = .ok (.bipush 8, 2) := by decide +kernel
theorem dX10_bell_61 : decode cX10_bell 61 = .ok (.if_icmp .ne 9, 3) := by decide +kernel
theorem dX10_bell_64 : decode cX10_bell 64 = .ok (.aload_n 0, 1) := by decide +kernel
theorem dX10_bell_65 : decode cX10_bell 65 = .ok (.iconst 4, 1) := by decide +kernel
theorem dX10_bell_66 : decode cX10_bell 66 = .ok (.invokevirtual 131, 3) := by decide +kernel
theorem dX10_bell_69 : decode cX10_bell 69 = .ok (.ireturn, 1) := by decide +kernel
theorem dX10_bell_70 : decode cX10_bell 70 = .ok (.aload_n 0, 1) := by decide +kernel
theorem dX10_bell_71 : decode cX10_bell 71 = .ok (.aload_n 0, 1) := by decide +kernel
theorem dX10_bell_72 : decode cX10_bell 72 = .ok (.getfield 7, 3) := by decide +kernel
theorem dX10_bell_75 : decode cX10_bell 75 = .ok (.bipush 103, 2) := by decide +kernel
theorem dX10_bell_77 : decode cX10_bell 77 = .ok (.iaload, 1) := by decide +kernel
theorem dX10_bell_78 : decode cX10_bell 78 = .ok (.iload_n 1, 1) := by decide +kernel
theorem dX10_bell_79 : decode cX10_bell 79 = .ok (.bipush 100, 2) := by decide +kernel
theorem dX10_bell_81 : decode cX10_bell 81 = .ok (.idiv, 1) := by decide +kernel
theorem dX10_bell_82 : decode cX10_bell 82 = .ok (.iload_n 1, 1) := by decide +kernel
theorem dX10_bell_83 : decode cX10_bell 83 = .ok (.bipush 100, 2) := by decide +kernel
theorem dX10_bell_85 : decode cX10_bell 85 = .ok (.irem, 1) := by decide +kernel
theorem dX10_bell_86 : decode cX10_bell 86 = .ok (.iload_n 2, 1) := by decide +kernel
theorem dX10_bell_87 : decode cX10_bell 87 = .ok (.iload_n 3, 1) := by decide +kernel
theorem dX10_bell_88 : decode cX10_bell 88 = .ok (.invokevirtual 166, 3) := by decide +kernel
theorem dX10_bell_91 : decode cX10_bell 91 = .ok (.aload_n 0, 1) := by decide +kernel
theorem dX10_bell_92 : decode cX10_bell 92 = .ok (.getfield 7, 3) := by decide +kernel
theorem dX10_bell_95 : decode cX10_bell 95 = .ok (.bipush 103, 2) := by decide +kernel
theorem dX10_bell_97 : decode cX10_bell 97 = .ok (.dup2, 1) := by decide +kernel
theorem dX10_bell_98 : decode cX10_bell 98 = .ok (.iaload, 1) := by decide +kernel
theorem dX10_bell_99 : decode cX10_bell 99 = .ok (.iconst 1, 1) := by decide +kernel
theorem dX10_bell_100 : decode cX10_bell 100 = .ok (.iadd, 1) := by decide +kernel
theorem dX10_bell_101 : decode cX10_bell 101 = .ok (.iastore, 1) := by decide +kernel
theorem dX10_bell_102 : decode cX10_bell 102 = .ok (.aload_n 0, 1) := by decide +kernel
theorem dX10_bell_103 : decode cX10_bell 103 = .ok (.getfield 7, 3) := by decide +kernel
theorem dX10_bell_106 : decode cX10_bell 106 = .ok (.bipush 103, 2) := by decide +kernel
theorem dX10_bell_108 : decode cX10_bell 108 = .ok (.iaload, 1) := by decide +kernel
theorem dX10_bell_109 : decode cX10_bell 109 = .ok (.iconst 1, 1) := by decide +kernel
theorem dX10_bell_110 : decode cX10_bell 110 = .ok (.isub, 1) := by decide +kernel
theorem dX10_bell_111 : decode cX10_bell 111 = .ok (.ireturn, 1) := by decide +kernel
theorem dX10_ofBell_0 : decode cX10_ofBell 0 = .ok (.aload_n 0, 1) := by decide +kernel
theorem dX10_ofBell_1 : decode cX10_ofBell 1 = .ok (.iload_n 1, 1) := by decide +kernel
theorem dX10_ofBell_2 : decode cX10_ofBell 2 = .ok (.invokevirtual 170, 3) := by decide +kernel
theorem dX10_ofBell_5 : decode cX10_ofBell 5 = .ok (.ifCond .eq 24, 3) := by decide +kernel
theorem dX10_ofBell_8 : decode cX10_ofBell 8 = .ok (.iload_n 2, 1) := by decide +kernel
theorem dX10_ofBell_9 : decode cX10_ofBell 9 = .ok (.i2l, 1) := by decide +kernel
theorem dX10_ofBell_10 : decode cX10_ofBell 10 = .ok (.lconst 0, 1) := by decide +kernel
theorem dX10_ofBell_11 : decode cX10_ofBell 11 = .ok (.ldc2_w 173, 3) := by decide +kernel
theorem dX10_ofBell_14 : decode cX10_ofBell 14 = .ok (.invokestatic 66, 3) := by decide +kernel
theorem dX10_ofBell_17 : decode cX10_ofBell 17 = .ok (.ifCond .eq 12, 3) := by decide +kernel
theorem dX10_ofBell_20 : decode cX10_ofBell 20 = .ok (.aload_n 0, 1) := by decide +kernel
theorem dX10_ofBell_21 : decode cX10_ofBell 21 = .ok (.iload_n 1, 1) := by decide +kernel
theorem dX10_ofBell_22 : decode cX10_ofBell 22 = .ok (.iload_n 2, 1) := by decide +kernel
theorem dX10_ofBell_23 : decode cX10_ofBell 23 = .ok (.invokevirtual 175, 3) := by decide +kernel
theorem dX10_ofBell_26 : decode cX10_ofBell 26 = .ok (.goto 8, 3) := by decide +kernel
theorem dX10_ofBell_29 : decode cX10_ofBell 29 = .ok (.aload_n 0, 1) := by decide +kernel
theorem dX10_ofBell_30 : decode cX10_ofBell 30 = .ok (.iconst 1, 1) := by decide +kernel
theorem dX10_ofBell_31 : decode cX10_ofBell 31 = .ok (.invokevirtual 131, 3) := by decide +kernel
theorem dX10_ofBell_34 : decode cX10_ofBell 34 = .ok (.ireturn, 1) := by decide +kernel
theorem dX10_change_0 : decode cX10_change 0 = .ok (.iload_n 2, 1) := by decide +kernel
theorem dX10_change_1 : decode cX10_change 1 = .ok (.iconst 4, 1) := by decide +kernel
theorem dX10_change_2 : decode cX10_change 2 = .ok (.if_icmp .ne 17, 3) := by decide +kernel
theorem dX10_change_5 : decode cX10_change 5 = .ok (.iload_n 3, 1) := by decide +kernel
theorem dX10_change_6 : decode cX10_change 6 = .ok (.i2l, 1) := by decide +kernel
theorem dX10_change_7 : decode cX10_change 7 = .ok (.ldc2_w 179, 3) := by decide +kernel
theorem dX10_change_10 : decode cX10_change 10 = .ok (.ldc2_w 181, 3) := by decide +kernel
theorem dX10_change_13 : decode cX10_change 13 = .ok (.invokestatic 66, 3) := by decide +kernel
theorem dX10_change_16 : decode cX10_change 16 = .ok (.goto 50, 3) := by decide +kernel
theorem dX10_change_19 : decode cX10_change 19 = .ok (.iload_n 2, 1) := by decide +kernel
theorem dX10_change_20 : decode cX10_change 20 = .ok (.bipush 6, 2) := by decide +kernel
theorem dX10_change_22 : decode cX10_change 22 = .ok (.if_icmp .ne 13, 3) := by decide +kernel
theorem dX10_change_25 : decode cX10_change 25 = .ok (.iload_n 3, 1) := by decide +kernel
theorem dX10_change_26 : decode cX10_change 26 = .ok (.i2l, 1) := by decide +kernel
theorem dX10_change_27 : decode cX10_change 27 = .ok (.lconst 0, 1) := by decide +kernel
theorem dX10_change_28 : decode cX10_change 28 = .ok (.lconst 1, 1) := by decide +kernel
theorem dX10_change_29 : decode cX10_change 29 = .ok (.invokestatic 66, 3) := by decide +kernel
theorem dX10_change_32 : decode cX10_change 32 = .ok (.goto 34, 3) := by decide +kernel
theorem dX10_change_35 : decode cX10_change 35 = .ok (.iload_n 2, 1) := by decide +kernel
theorem dX10_change_36 : decode cX10_change 36 = .ok (.i2l, 1) := by decide +kernel
theorem dX10_change_37 : decode cX10_change 37 = .ok (.ldc2_w 183, 3) := by decide +kernel
theorem dX10_change_40 : decode cX10_change 40 = .ok (.ldc2_w 156, 3) := by decide +kernel
theorem dX10_change_43 : decode cX10_change 43 = .ok (.invokestatic 66, 3) := by decide +kernel
theorem dX10_change_46 : decode cX10_change 46 = .ok (.ifCond .eq 19, 3) := by decide +kernel
theorem dX10_change_49 : decode cX10_change 49 = .ok (.iload_n 3, 1) := by decide +kernel
theorem dX10_change_50 : decode cX10_change 50 = .ok (.i2l, 1) := by decide +kernel
theorem dX10_change_51 : decode cX10_change 51 = .ok (.lconst 0, 1) := by decide +kernel
theorem dX10_change_52 : decode cX10_change 52 = .ok (.ldc2_w 150, 3) := by decide +kernel
theorem dX10_change_55 : decode cX10_change 55 = .ok (.invokestatic 66, 3) := by decide +kernel
theorem dX10_change_58 : decode cX10_change 58 = .ok (.ifCond .eq 7, 3) := by decide +kernel
theorem dX10_change_61 : decode cX10_change 61 = .ok (.iconst 1, 1) := by decide +kernel
theorem dX10_change_62 : decode cX10_change 62 = .ok (.goto 4, 3) := by decide +kernel
theorem dX10_change_65 : decode cX10_change 65 = .ok (.iconst 0, 1) := by decide +kernel
theorem dX10_change_66 : decode cX10_change 66 = .ok (.istore 4, 2) := by decide +kernel
theorem dX10_change_68 : decode cX10_change 68 = .ok (.aload_n 0, 1) := by decide +kernel
theorem dX10_change_69 : decode cX10_change 69 = .ok (.iload_n 1, 1) := by decide +kernel
theorem dX10_change_70 : decode cX10_change 70 = .ok (.invokevirtual 170, 3) := by decide +kernel
theorem dX10_change_73 : decode cX10_change 73 = .ok (.ifCond .eq 8, 3) := by decide +kernel
theorem dX10_change_76 : decode cX10_change 76 = .ok (.iload 4, 2) := by decide +kernel
theorem dX10_change_78 : decode cX10_change 78 = .ok (.ifCond .ne 9, 3) := by decide +kernel
theorem dX10_change_81 : decode cX10_change 81 = .ok (.aload_n 0, 1) := by decide +kernel
theorem dX10_change_82 : decode cX10_change 82 = .ok (.iconst 1, 1) := by decide +kernel
theorem dX10_change_83 : decode cX10_change 83 = .ok (.invokevirtual 131, 3) := by decide +kernel
theorem dX10_change_86 : decode cX10_change 86 = .ok (.ireturn, 1) := by decide +kernel
theorem dX10_change_87 : decode cX10_change 87 = .ok (.aload_n 0, 1) := by decide +kernel
theorem dX10_change_88 : decode cX10_change 88 = .ok (.iload_n 1, 1) := by decide +kernel
theorem dX10_change_89 : decode cX10_change 89 = .ok (.iload_n 2, 1) := by decide +kernel
theorem dX10_change_90 : decode cX10_change 90 = .ok (.invokevirtual 175, 3) := by decide +kernel
theorem dX10_change_93 : decode cX10_change 93 = .ok (.istore 5, 2) := by decide +kernel
theorem dX10_change_95 : decode cX10_change 95 = .ok (.aload_n 0, 1) := by decide +kernel
theorem dX10_change_96 : decode cX10_change 96 = .ok (.iload_n 1, 1) := by decide +kernel
theorem dX10_change_97 : decode cX10_change 97 = .ok (.iload_n 2, 1) := by decide +kernel
theorem dX10_change_98 : decode cX10_change 98 = .ok (.iload_n 3, 1) := by decide +kernel
theorem dX10_change_99 : decode cX10_change 99 = .ok (.invokevirtual 162, 3) := by decide +kernel
theorem dX10_change_102 : decode cX10_change 102 = .ok (.iload 5, 2) := by decide +kernel
theorem dX10_change_104 : decode cX10_change 104 = .ok (.ireturn, 1) := by decide +kernel
theorem dX10_isOf_0 : decode cX10_isOf 0 = .ok (.iload_n 1, 1) := by decide +kernel
theorem dX10_isOf_1 : decode cX10_isOf 1 = .ok (.ifCond .eq 34, 3) := by decide +kernel
theorem dX10_isOf_4 : decode cX10_isOf 4 = .ok (.iload_n 1, 1) := by decide +kernel
theorem dX10_isOf_5 : decode cX10_isOf 5 = .ok (.iload_n 0, 1) := by decide +kernel
theorem dX10_isOf_6 : decode cX10_isOf 6 = .ok (.if_icmp .eq 29, 3) := by decide +kernel
theorem dX10_isOf_9 : decode cX10_isOf 9 = .ok (.iload_n 1, 1) := by decide +kernel
theorem dX10_isOf_10 : decode cX10_isOf 10 = .ok (.iconst 1, 1) := by decide +kernel
theorem dX10_isOf_11 : decode cX10_isOf 11 = .ok (.if_icmp .ne 13, 3) := by decide +kernel
theorem dX10_isOf_14 : decode cX10_isOf 14 = .ok (.iload_n 0, 1) := by decide +kernel
theorem dX10_isOf_15 : decode cX10_isOf 15 = .ok (.iconst 4, 1) := by decide +kernel
theorem dX10_isOf_16 : decode cX10_isOf 16 = .ok (.if_icmp .eq 19, 3) := by decide +kernel
theorem dX10_isOf_19 : decode cX10_isOf 19 = .ok (.iload_n 0, 1) := by decide +kernel
theorem dX10_isOf_20 : decode cX10_isOf 20 = .ok (.iconst 5, 1) := by decide +kernel
theorem dX10_isOf_21 : decode cX10_isOf 21 = .ok (.if_icmp .eq 14, 3) := by decide +kernel
theorem dX10_isOf_24 : decode cX10_isOf 24 = .ok (.iload_n 1, 1) := by decide +kernel
theorem dX10_isOf_25 : decode cX10_isOf 25 = .ok (.iconst 3, 1) := by decide +kernel
theorem dX10_isOf_26 : decode cX10_isOf 26 = .ok (.if_icmp .ne 13, 3) := by decide +kernel
theorem dX10_isOf_29 : decode cX10_isOf 29 = .ok (.iload_n 0, 1) := by decide +kernel
theorem dX10_isOf_30 : decode cX10_isOf 30 = .ok (.bipush 6, 2) := by decide +kernel
theorem dX10_isOf_32 : decode cX10_isOf 32 = .ok (.if_icmp .ne 7, 3) := by decide +kernel
theorem dX10_isOf_35 : decode cX10_isOf 35 = .ok (.iconst 1, 1) := by decide +kernel
theorem dX10_isOf_36 : decode cX10_isOf 36 = .ok (.goto 4, 3) := by decide +kernel
theorem dX10_isOf_39 : decode cX10_isOf 39 = .ok (.iconst 0, 1) := by decide +kernel
theorem dX10_isOf_40 : decode cX10_isOf 40 = .ok (.ireturn, 1) := by decide +kernel
theorem dX10_as_0 : decode cX10_as 0 = .ok (.aload_n 0, 1) := by decide +kernel
theorem dX10_as_1 : decode cX10_as 1 = .ok (.iload_n 1, 1) := by decide +kernel
theorem dX10_as_2 : decode cX10_as 2 = .ok (.invokevirtual 170, 3) := by decide +kernel
theorem dX10_as_5 : decode cX10_as 5 = .ok (.ifCond .eq 15, 3) := by decide +kernel
theorem dX10_as_8 : decode cX10_as 8 = .ok (.iload_n 2, 1) := by decide +kernel
theorem dX10_as_9 : decode cX10_as 9 = .ok (.i2l, 1) := by decide +kernel
theorem dX10_as_10 : decode cX10_as 10 = .ok (.lconst 0, 1) := by decide +kernel
theorem dX10_as_11 : decode cX10_as 11 = .ok (.ldc2_w 173, 3) := by decide +kernel
theorem dX10_as_14 : decode cX10_as 14 = .ok (.invokestatic 66, 3) := by decide +kernel
theorem dX10_as_17 : decode cX10_as 17 = .ok (.ifCond .ne 9, 3) := by decide +kernel
theorem dX10_as_20 : decode cX10_as 20 = .ok (.aload_n 0, 1) := by decide +kernel
theorem dX10_as_21 : decode cX10_as 21 = .ok (.iconst 1, 1) := by decide +kernel
theorem dX10_as_22 : decode cX10_as 22 = .ok (.invokevirtual 131, 3) := by decide +kernel
theorem dX10_as_25 : decode cX10_as 25 = .ok (.ireturn, 1) := by decide +kernel
theorem dX10_as_26 : decode cX10_as 26 = .ok (.aload_n 0, 1) := by decide +kernel
theorem dX10_as_27 : decode cX10_as 27 = .ok (.iload_n 1, 1) := by decide +kernel
theorem dX10_as_28 : decode cX10_as 28 = .ok (.iconst 0, 1) := by decide +kernel
theorem dX10_as_29 : decode cX10_as 29 = .ok (.invokevirtual 175, 3) := by decide +kernel
theorem dX10_as_32 : decode cX10_as 32 = .ok (.iload_n 2, 1) := by decide +kernel
theorem dX10_as_33 : decode cX10_as 33 = .ok (.invokestatic 185, 3) := by decide +kernel
theorem dX10_as_36 : decode cX10_as 36 = .ok (.ifCond .eq 12, 3) := by decide +kernel
theorem dX10_as_39 : decode cX10_as 39 = .ok (.aload_n 0, 1) := by decide +kernel
theorem dX10_as_40 : decode cX10_as 40 = .ok (.iload_n 1, 1) := by decide +kernel
theorem dX10_as_41 : decode cX10_as 41 = .ok (.iconst 3, 1) := by decide +kernel
theorem dX10_as_42 : decode cX10_as 42 = .ok (.invokevirtual 175, 3) := by decide +kernel
theorem dX10_as_45 : decode cX10_as 45 = .ok (.goto 8, 3) := by decide +kernel
theorem dX10_as_48 : decode cX10_as 48 = .ok (.aload_n 0, 1) := by decide +kernel
theorem dX10_as_49 : decode cX10_as 49 = .ok (.iconst 5, 1) := by decide +kernel
theorem dX10_as_50 : decode cX10_as 50 = .ok (.invokevirtual 131, 3) := by decide +kernel
theorem dX10_as_53 : decode cX10_as 53 = .ok (.ireturn, 1) := by decide +kernel
theorem dX10_isStruck_0 : decode cX10_isStruck 0 = .ok (.iload_n 2, 1) := by decide +kernel
theorem dX10_isStruck_1 : decode cX10_isStruck 1 = .ok (.i2l, 1) := by decide +kernel
theorem dX10_isStruck_2 : decode cX10_isStruck 2 = .ok (.ldc2_w 173, 3) := by decide +kernel
theorem dX10_isStruck_5 : decode cX10_isStruck 5 = .ok (.ldc2_w 189, 3) := by decide +kernel
theorem dX10_isStruck_8 : decode cX10_isStruck 8 = .ok (.invokestatic 66, 3) := by decide +kernel
theorem dX10_isStruck_11 : decode cX10_isStruck 11 = .ok (.istore_n 3, 1) := by decide +kernel
theorem dX10_isStruck_12 : decode cX10_isStruck 12 = .ok (.aload_n 0, 1) := by decide +kernel
theorem dX10_isStruck_13 : decode cX10_isStruck 13 = .ok (.iload_n 1, 1) := by decide +kernel
theorem dX10_isStruck_14 : decode cX10_isStruck 14 = .ok (.bipush 6, 2) := by decide +kernel
theorem dX10_isStruck_16 : decode cX10_isStruck 16 = .ok (.invokevirtual 175, 3) := by decide +kernel
theorem dX10_isStruck_19 : decode cX10_isStruck 19 = .ok (.iconst 1, 1) := by decide +kernel
theorem dX10_isStruck_20 : decode cX10_isStruck 20 = .ok (.if_icmp .ne 5, 3) := by decide +kernel
theorem dX10_isStruck_23 : decode cX10_isStruck 23 = .ok (.iconst 0, 1) := by decide +kernel
theorem dX10_isStruck_24 : decode cX10_isStruck 24 = .ok (.ireturn, 1) := by decide +kernel
theorem dX10_isStruck_25 : decode cX10_isStruck 25 = .ok (.aload_n 0, 1) := by decide +kernel
theorem dX10_isStruck_26 : decode cX10_isStruck 26 = .ok (.iload_n 1, 1) := by decide +kernel
theorem dX10_isStruck_27 : decode cX10_isStruck 27 = .ok (.iconst 0, 1) := by decide +kernel
theorem dX10_isStruck_28 : decode cX10_isStruck 28 = .ok (.invokevirtual 175, 3) := by decide +kernel
theorem dX10_isStruck_31 : decode cX10_isStruck 31 = .ok (.tableswitch 113 1 6 #[37, 39, 113, 63, 77, 97], 37) := by decide +kernel
theorem dX10_isStruck_68 : decode cX10_isStruck 68 = .ok (.iload_n 3, 1) := by decide +kernel
theorem dX10_isStruck_69 : decode cX10_isStruck 69 = .ok (.ireturn, 1) := by decide +kernel
theorem dX10_isStruck_70 : decode cX10_isStruck 70 = .ok (.iload_n 2, 1) := by decide +kernel
theorem dX10_isStruck_71 : decode cX10_isStruck 71 = .ok (.bipush 8, 2) := by decide +kernel
theorem dX10_isStruck_73 : decode cX10_isStruck 73 = .ok (.if_icmp .eq 15, 3) := by decide +kernel
theorem dX10_isStruck_76 : decode cX10_isStruck 76 = .ok (.iload_n 2, 1) := by decide +kernel
theorem dX10_isStruck_77 : decode cX10_isStruck 77 = .ok (.bipush 12, 2) := by decide +kernel
theorem dX10_isStruck_79 : decode cX10_isStruck 79 = .ok (.if_icmp .eq 9, 3) := by decide +kernel
theorem dX10_isStruck_82 : decode cX10_isStruck 82 = .ok (.iload_n 2, 1) := by decide +kernel
theorem dX10_isStruck_83 : decode cX10_isStruck 83 = .ok (.bipush 16, 2) := by decide +kernel
theorem dX10_isStruck_85 : decode cX10_isStruck 85 = .ok (.if_icmp .ne 7, 3) := by decide +kernel
theorem dX10_isStruck_88 : decode cX10_isStruck 88 = .ok (.iconst 1, 1) := by decide +kernel
theorem dX10_isStruck_89 : decode cX10_isStruck 89 = .ok (.goto 4, 3) := by decide +kernel
theorem dX10_isStruck_92 : decode cX10_isStruck 92 = .ok (.iconst 0, 1) := by decide +kernel
theorem dX10_isStruck_93 : decode cX10_isStruck 93 = .ok (.ireturn, 1) := by decide +kernel
theorem dX10_isStruck_94 : decode cX10_isStruck 94 = .ok (.iload_n 3, 1) := by decide +kernel
theorem dX10_isStruck_95 : decode cX10_isStruck 95 = .ok (.ifCond .ne 7, 3) := by decide +kernel
theorem dX10_isStruck_98 : decode cX10_isStruck 98 = .ok (.iload_n 2, 1) := by decide +kernel
theorem dX10_isStruck_99 : decode cX10_isStruck 99 = .ok (.ifCond .ne 7, 3) := by decide +kernel
theorem dX10_isStruck_102 : decode cX10_isStruck 102 = .ok (.iconst 1, 1) := by decide +kernel
theorem dX10_isStruck_103 : decode cX10_isStruck 103 = .ok (.goto 4, 3) := by decide +kernel
theorem dX10_isStruck_106 : decode cX10_isStruck 106 = .ok (.iconst 0, 1) := by decide +kernel
theorem dX10_isStruck_107 : decode cX10_isStruck 107 = .ok (.ireturn, 1) := by decide +kernel
theorem dX10_isStruck_108 : decode cX10_isStruck 108 = .ok (.iload_n 3, 1) := by decide +kernel
theorem dX10_isStruck_109 : decode cX10_isStruck 109 = .ok (.ifCond .eq 17, 3) := by decide +kernel
theorem dX10_isStruck_112 : decode cX10_isStruck 112 = .ok (.iload_n 2, 1) := by decide +kernel
theorem dX10_isStruck_113 : decode cX10_isStruck 113 = .ok (.aload_n 0, 1) := by decide +kernel
theorem dX10_isStruck_114 : decode cX10_isStruck 114 = .ok (.iload_n 1, 1) := by decide +kernel
theorem dX10_isStruck_115 : decode cX10_isStruck 115 = .ok (.iconst 1, 1) := by decide +kernel
theorem dX10_isStruck_116 : decode cX10_isStruck 116 = .ok (.invokevirtual 175, 3) := by decide +kernel
theorem dX10_isStruck_119 : decode cX10_isStruck 119 = .ok (.if_icmp .ne 7, 3) := by decide +kernel
theorem dX10_isStruck_122 : decode cX10_isStruck 122 = .ok (.iconst 1, 1) := by decide +kernel
theorem dX10_isStruck_123 : decode cX10_isStruck 123 = .ok (.goto 4, 3) := by decide +kernel
theorem dX10_isStruck_126 : decode cX10_isStruck 126 = .ok (.iconst 0, 1) := by decide +kernel
theorem dX10_isStruck_127 : decode cX10_isStruck 127 = .ok (.ireturn, 1) := by decide +kernel
theorem dX10_isStruck_128 : decode cX10_isStruck 128 = .ok (.iload_n 2, 1) := by decide +kernel
theorem dX10_isStruck_129 : decode cX10_isStruck 129 = .ok (.aload_n 0, 1) := by decide +kernel
theorem dX10_isStruck_130 : decode cX10_isStruck 130 = .ok (.iload_n 1, 1) := by decide +kernel
theorem dX10_isStruck_131 : decode cX10_isStruck 131 = .ok (.iconst 1, 1) := by decide +kernel
theorem dX10_isStruck_132 : decode cX10_isStruck 132 = .ok (.invokevirtual 175, 3) := by decide +kernel
theorem dX10_isStruck_135 : decode cX10_isStruck 135 = .ok (.if_icmp .eq 7, 3) := by decide +kernel
theorem dX10_isStruck_138 : decode cX10_isStruck 138 = .ok (.iconst 1, 1) := by decide +kernel
theorem dX10_isStruck_139 : decode cX10_isStruck 139 = .ok (.goto 4, 3) := by decide +kernel
theorem dX10_isStruck_142 : decode cX10_isStruck 142 = .ok (.iconst 0, 1) := by decide +kernel
theorem dX10_isStruck_143 : decode cX10_isStruck 143 = .ok (.ireturn, 1) := by decide +kernel
theorem dX10_isStruck_144 : decode cX10_isStruck 144 = .ok (.iconst 1, 1) := by decide +kernel
theorem dX10_isStruck_145 : decode cX10_isStruck 145 = .ok (.ireturn, 1) := by decide +kernel
theorem dX10_strikes_0 : decode cX10_strikes 0 = .ok (.aload_n 0, 1) := by decide +kernel
theorem dX10_strikes_1 : decode cX10_strikes 1 = .ok (.iload_n 1, 1) := by decide +kernel
theorem dX10_strikes_2 : decode cX10_strikes 2 = .ok (.invokevirtual 170, 3) := by decide +kernel
theorem dX10_strikes_5 : decode cX10_strikes 5 = .ok (.ifCond .eq 10, 3) := by decide +kernel
theorem dX10_strikes_8 : decode cX10_strikes 8 = .ok (.iload_n 2, 1) := by decide +kernel
theorem dX10_strikes_9 : decode cX10_strikes 9 = .ok (.invokestatic 191, 3) := by decide +kernel
theorem dX10_strikes_12 : decode cX10_strikes 12 = .ok (.ifCond .ne 9, 3) := by decide +kernel
theorem dX10_strikes_15 : decode cX10_strikes 15 = .ok (.aload_n 0, 1) := by decide +kernel
theorem dX10_strikes_16 : decode cX10_strikes 16 = .ok (.iconst 1, 1) := by decide +kernel
theorem dX10_strikes_17 : decode cX10_strikes 17 = .ok (.invokevirtual 131, 3) := by decide +kernel
theorem dX10_strikes_20 : decode cX10_strikes 20 = .ok (.ireturn, 1) := by decide +kernel
theorem dX10_strikes_21 : decode cX10_strikes 21 = .ok (.aload_n 0, 1) := by decide +kernel
theorem dX10_strikes_22 : decode cX10_strikes 22 = .ok (.iload_n 1, 1) := by decide +kernel
theorem dX10_strikes_23 : decode cX10_strikes 23 = .ok (.iload_n 2, 1) := by decide +kernel
theorem dX10_strikes_24 : decode cX10_strikes 24 = .ok (.invokevirtual 194, 3) := by decide +kernel
theorem dX10_strikes_27 : decode cX10_strikes 27 = .ok (.ifCond .eq 7, 3) := by decide +kernel
theorem dX10_strikes_30 : decode cX10_strikes 30 = .ok (.iconst 1, 1) := by decide +kernel
theorem dX10_strikes_31 : decode cX10_strikes 31 = .ok (.goto 4, 3) := by decide +kernel
theorem dX10_strikes_34 : decode cX10_strikes 34 = .ok (.iconst 0, 1) := by decide +kernel
theorem dX10_strikes_35 : decode cX10_strikes 35 = .ok (.ireturn, 1) := by decide +kernel
theorem dX10_ear_0 : decode cX10_ear 0 = .ok (.iload_n 1, 1) := by decide +kernel
theorem dX10_ear_1 : decode cX10_ear 1 = .ok (.i2l, 1) := by decide +kernel
theorem dX10_ear_2 : decode cX10_ear 2 = .ok (.lconst 0, 1) := by decide +kernel
theorem dX10_ear_3 : decode cX10_ear 3 = .ok (.ldc2_w 150, 3) := by decide +kernel
theorem dX10_ear_6 : decode cX10_ear 6 = .ok (.invokestatic 66, 3) := by decide +kernel
theorem dX10_ear_9 : decode cX10_ear 9 = .ok (.ifCond .ne 9, 3) := by decide +kernel
theorem dX10_ear_12 : decode cX10_ear 12 = .ok (.aload_n 0, 1) := by decide +kernel
theorem dX10_ear_13 : decode cX10_ear 13 = .ok (.iconst 1, 1) := by decide +kernel
theorem dX10_ear_14 : decode cX10_ear 14 = .ok (.invokevirtual 131, 3) := by decide +kernel
theorem dX10_ear_17 : decode cX10_ear 17 = .ok (.ireturn, 1) := by decide +kernel
theorem dX10_ear_18 : decode cX10_ear 18 = .ok (.aload_n 0, 1) := by decide +kernel
theorem dX10_ear_19 : decode cX10_ear 19 = .ok (.getfield 7, 3) := by decide +kernel
theorem dX10_ear_22 : decode cX10_ear 22 = .ok (.bipush 104, 2) := by decide +kernel
theorem dX10_ear_24 : decode cX10_ear 24 = .ok (.iaload, 1) := by decide +kernel
theorem dX10_ear_25 : decode cX10_ear 25 = .ok (.bipush 10, 2) := by decide +kernel
theorem dX10_ear_27 : decode cX10_ear 27 = .ok (.if_icmp .ne 9, 3) := by decide +kernel
theorem dX10_ear_30 : decode cX10_ear 30 = .ok (.aload_n 0, 1) := by decide +kernel
theorem dX10_ear_31 : decode cX10_ear 31 = .ok (.iconst 4, 1) := by decide +kernel
theorem dX10_ear_32 : decode cX10_ear 32 = .ok (.invokevirtual 131, 3) := by decide +kernel
theorem dX10_ear_35 : decode cX10_ear 35 = .ok (.ireturn, 1) := by decide +kernel
theorem dX10_ear_36 : decode cX10_ear 36 = .ok (.aload_n 0, 1) := by decide +kernel
theorem dX10_ear_37 : decode cX10_ear 37 = .ok (.getfield 7, 3) := by decide +kernel
theorem dX10_ear_40 : decode cX10_ear 40 = .ok (.sipush 171, 3) := by decide +kernel
theorem dX10_ear_43 : decode cX10_ear 43 = .ok (.aload_n 0, 1) := by decide +kernel
theorem dX10_ear_44 : decode cX10_ear 44 = .ok (.getfield 7, 3) := by decide +kernel
theorem dX10_ear_47 : decode cX10_ear 47 = .ok (.bipush 104, 2) := by decide +kernel
theorem dX10_ear_49 : decode cX10_ear 49 = .ok (.iaload, 1) := by decide +kernel
theorem dX10_ear_50 : decode cX10_ear 50 = .ok (.iadd, 1) := by decide +kernel
theorem dX10_ear_51 : decode cX10_ear 51 = .ok (.iload_n 1, 1) := by decide +kernel
theorem dX10_ear_52 : decode cX10_ear 52 = .ok (.iastore, 1) := by decide +kernel
theorem dX10_ear_53 : decode cX10_ear 53 = .ok (.aload_n 0, 1) := by decide +kernel
theorem dX10_ear_54 : decode cX10_ear 54 = .ok (.getfield 7, 3) := by decide +kernel
theorem dX10_ear_57 : decode cX10_ear 57 = .ok (.bipush 104, 2) := by decide +kernel
theorem dX10_ear_59 : decode cX10_ear 59 = .ok (.dup2, 1) := by decide +kernel
theorem dX10_ear_60 : decode cX10_ear 60 = .ok (.iaload, 1) := by decide +kernel
theorem dX10_ear_61 : decode cX10_ear 61 = .ok (.iconst 1, 1) := by decide +kernel
theorem dX10_ear_62 : decode cX10_ear 62 = .ok (.iadd, 1) := by decide +kernel
theorem dX10_ear_63 : decode cX10_ear 63 = .ok (.iastore, 1) := by decide +kernel
theorem dX10_ear_64 : decode cX10_ear 64 = .ok (.aload_n 0, 1) := by decide +kernel
theorem dX10_ear_65 : decode cX10_ear 65 = .ok (.getfield 7, 3) := by decide +kernel
theorem dX10_ear_68 : decode cX10_ear 68 = .ok (.bipush 104, 2) := by decide +kernel
theorem dX10_ear_70 : decode cX10_ear 70 = .ok (.iaload, 1) := by decide +kernel
theorem dX10_ear_71 : decode cX10_ear 71 = .ok (.iconst 1, 1) := by decide +kernel
theorem dX10_ear_72 : decode cX10_ear 72 = .ok (.isub, 1) := by decide +kernel
theorem dX10_ear_73 : decode cX10_ear 73 = .ok (.ireturn, 1) := by decide +kernel
theorem dX10_ears_0 : decode cX10_ears 0 = .ok (.iload_n 1, 1) := by decide +kernel
theorem dX10_ears_1 : decode cX10_ears 1 = .ok (.invokestatic 197, 3) := by decide +kernel
theorem dX10_ears_4 : decode cX10_ears 4 = .ok (.ifCond .ne 9, 3) := by decide +kernel
theorem dX10_ears_7 : decode cX10_ears 7 = .ok (.aload_n 0, 1) := by decide +kernel
theorem dX10_ears_8 : decode cX10_ears 8 = .ok (.iconst 1, 1) := by decide +kernel
theorem dX10_ears_9 : decode cX10_ears 9 = .ok (.invokevirtual 131, 3) := by decide +kernel
theorem dX10_ears_12 : decode cX10_ears 12 = .ok (.ireturn, 1) := by decide +kernel
theorem dX10_ears_13 : decode cX10_ears 13 = .ok (.aload_n 0, 1) := by decide +kernel
theorem dX10_ears_14 : decode cX10_ears 14 = .ok (.getfield 53, 3) := by decide +kernel
theorem dX10_ears_17 : decode cX10_ears 17 = .ok (.iload_n 1, 1) := by decide +kernel
theorem dX10_ears_18 : decode cX10_ears 18 = .ok (.iaload, 1) := by decide +kernel
theorem dX10_ears_19 : decode cX10_ears 19 = .ok (.ifCond .ne 9, 3) := by decide +kernel
theorem dX10_ears_22 : decode cX10_ears 22 = .ok (.aload_n 0, 1) := by decide +kernel
theorem dX10_ears_23 : decode cX10_ears 23 = .ok (.iconst 2, 1) := by decide +kernel
theorem dX10_ears_24 : decode cX10_ears 24 = .ok (.invokevirtual 131, 3) := by decide +kernel
theorem dX10_ears_27 : decode cX10_ears 27 = .ok (.ireturn, 1) := by decide +kernel
theorem dX10_ears_28 : decode cX10_ears 28 = .ok (.iconst 0, 1) := by decide +kernel
theorem dX10_ears_29 : decode cX10_ears 29 = .ok (.istore_n 2, 1) := by decide +kernel
theorem dX10_ears_30 : decode cX10_ears 30 = .ok (.iload_n 2, 1) := by decide +kernel
theorem dX10_ears_31 : decode cX10_ears 31 = .ok (.aload_n 0, 1) := by decide +kernel
theorem dX10_ears_32 : decode cX10_ears 32 = .ok (.getfield 56, 3) := by decide +kernel
theorem dX10_ears_35 : decode cX10_ears 35 = .ok (.iload_n 1, 1) := by decide +kernel
theorem dX10_ears_36 : decode cX10_ears 36 = .ok (.iaload, 1) := by decide +kernel
theorem dX10_ears_37 : decode cX10_ears 37 = .ok (.if_icmp .ge 81, 3) := by decide +kernel
theorem dX10_ears_40 : decode cX10_ears 40 = .ok (.aload_n 0, 1) := by decide +kernel
theorem dX10_ears_41 : decode cX10_ears 41 = .ok (.getfield 7, 3) := by decide +kernel
theorem dX10_ears_44 : decode cX10_ears 44 = .ok (.bipush 104, 2) := by decide +kernel
theorem dX10_ears_46 : decode cX10_ears 46 = .ok (.iaload, 1) := by decide +kernel
theorem dX10_ears_47 : decode cX10_ears 47 = .ok (.bipush 10, 2) := by decide +kernel
theorem dX10_ears_49 : decode cX10_ears 49 = .ok (.if_icmp .ge 69, 3) := by decide +kernel
theorem dX10_ears_52 : decode cX10_ears 52 = .ok (.aload_n 0, 1) := by decide +kernel
theorem dX10_ears_53 : decode cX10_ears 53 = .ok (.getfield 59, 3) := by decide +kernel
theorem dX10_ears_56 : decode cX10_ears 56 = .ok (.bipush 40, 2) := by decide +kernel
theorem dX10_ears_58 : decode cX10_ears 58 = .ok (.iload_n 1, 1) := by decide +kernel
theorem dX10_ears_59 : decode cX10_ears 59 = .ok (.imul, 1) := by decide +kernel
theorem dX10_ears_60 : decode cX10_ears 60 = .ok (.iload_n 2, 1) := by decide +kernel
theorem dX10_ears_61 : decode cX10_ears 61 = .ok (.iadd, 1) := by decide +kernel
theorem dX10_ears_62 : decode cX10_ears 62 = .ok (.iaload, 1) := by decide +kernel
theorem dX10_ears_63 : decode cX10_ears 63 = .ok (.i2l, 1) := by decide +kernel
theorem dX10_ears_64 : decode cX10_ears 64 = .ok (.lconst 0, 1) := by decide +kernel
theorem dX10_ears_65 : decode cX10_ears 65 = .ok (.ldc2_w 150, 3) := by decide +kernel
theorem dX10_ears_68 : decode cX10_ears 68 = .ok (.invokestatic 66, 3) := by decide +kernel
theorem dX10_ears_71 : decode cX10_ears 71 = .ok (.ifCond .eq 47, 3) := by decide +kernel
theorem dX10_ears_74 : decode cX10_ears 74 = .ok (.aload_n 0, 1) := by decide +kernel
theorem dX10_ears_75 : decode cX10_ears 75 = .ok (.getfield 7, 3) := by decide +kernel
theorem dX10_ears_78 : decode cX10_ears 78 = .ok (.sipush 171, 3) := by decide +kernel
theorem dX10_ears_81 : decode cX10_ears 81 = .ok (.aload_n 0, 1) := by decide +kernel
theorem dX10_ears_82 : decode cX10_ears 82 = .ok (.getfield 7, 3) := by decide +kernel
theorem dX10_ears_85 : decode cX10_ears 85 = .ok (.bipush 104, 2) := by decide +kernel
theorem dX10_ears_87 : decode cX10_ears 87 = .ok (.iaload, 1) := by decide +kernel
theorem dX10_ears_88 : decode cX10_ears 88 = .ok (.iadd, 1) := by decide +kernel
theorem dX10_ears_89 : decode cX10_ears 89 = .ok (.aload_n 0, 1) := by decide +kernel
theorem dX10_ears_90 : decode cX10_ears 90 = .ok (.getfield 59, 3) := by decide +kernel
theorem dX10_ears_93 : decode cX10_ears 93 = .ok (.bipush 40, 2) := by decide +kernel
theorem dX10_ears_95 : decode cX10_ears 95 = .ok (.iload_n 1, 1) := by decide +kernel
theorem dX10_ears_96 : decode cX10_ears 96 = .ok (.imul, 1) := by decide +kernel
theorem dX10_ears_97 : decode cX10_ears 97 = .ok (.iload_n 2, 1) := by decide +kernel
theorem dX10_ears_98 : decode cX10_ears 98 = .ok (.iadd, 1) := by decide +kernel
theorem dX10_ears_99 : decode cX10_ears 99 = .ok (.iaload, 1) := by decide +kernel
theorem dX10_ears_100 : decode cX10_ears 100 = .ok (.iastore, 1) := by decide +kernel
theorem dX10_ears_101 : decode cX10_ears 101 = .ok (.aload_n 0, 1) := by decide +kernel
theorem dX10_ears_102 : decode cX10_ears 102 = .ok (.getfield 7, 3) := by decide +kernel
theorem dX10_ears_105 : decode cX10_ears 105 = .ok (.bipush 104, 2) := by decide +kernel
theorem dX10_ears_107 : decode cX10_ears 107 = .ok (.dup2, 1) := by decide +kernel
theorem dX10_ears_108 : decode cX10_ears 108 = .ok (.iaload, 1) := by decide +kernel
theorem dX10_ears_109 : decode cX10_ears 109 = .ok (.iconst 1, 1) := by decide +kernel
theorem dX10_ears_110 : decode cX10_ears 110 = .ok (.iadd, 1) := by decide +kernel
theorem dX10_ears_111 : decode cX10_ears 111 = .ok (.iastore, 1) := by decide +kernel
theorem dX10_ears_112 : decode cX10_ears 112 = .ok (.iinc 2 1, 3) := by decide +kernel
theorem dX10_ears_115 : decode cX10_ears 115 = .ok (.goto (-85), 3) := by decide +kernel
theorem dX10_ears_118 : decode cX10_ears 118 = .ok (.iload_n 2, 1) := by decide +kernel
theorem dX10_ears_119 : decode cX10_ears 119 = .ok (.ireturn, 1) := by decide +kernel
theorem dX10_farOf_0 : decode cX10_farOf 0 = .ok (.aload_n 0, 1) := by decide +kernel
theorem dX10_farOf_1 : decode cX10_farOf 1 = .ok (.iload_n 1, 1) := by decide +kernel
theorem dX10_farOf_2 : decode cX10_farOf 2 = .ok (.iconst 2, 1) := by decide +kernel
theorem dX10_farOf_3 : decode cX10_farOf 3 = .ok (.invokevirtual 175, 3) := by decide +kernel
theorem dX10_farOf_6 : decode cX10_farOf 6 = .ok (.aload_n 0, 1) := by decide +kernel
theorem dX10_farOf_7 : decode cX10_farOf 7 = .ok (.getfield 7, 3) := by decide +kernel
theorem dX10_farOf_10 : decode cX10_farOf 10 = .ok (.sipush 171, 3) := by decide +kernel
theorem dX10_farOf_13 : decode cX10_farOf 13 = .ok (.iload_n 2, 1) := by decide +kernel
theorem dX10_farOf_14 : decode cX10_farOf 14 = .ok (.iadd, 1) := by decide +kernel
theorem dX10_farOf_15 : decode cX10_farOf 15 = .ok (.iaload, 1) := by decide +kernel
theorem dX10_farOf_16 : decode cX10_farOf 16 = .ok (.isub, 1) := by decide +kernel
theorem dX10_farOf_17 : decode cX10_farOf 17 = .ok (.invokestatic 200, 3) := by decide +kernel
theorem dX10_farOf_20 : decode cX10_farOf 20 = .ok (.ireturn, 1) := by decide +kernel
theorem dX10_hidOf_0 : decode cX10_hidOf 0 = .ok (.aload_n 0, 1) := by decide +kernel
theorem dX10_hidOf_1 : decode cX10_hidOf 1 = .ok (.iload_n 1, 1) := by decide +kernel
theorem dX10_hidOf_2 : decode cX10_hidOf 2 = .ok (.iconst 2, 1) := by decide +kernel
theorem dX10_hidOf_3 : decode cX10_hidOf 3 = .ok (.invokevirtual 175, 3) := by decide +kernel
theorem dX10_hidOf_6 : decode cX10_hidOf 6 = .ok (.istore_n 3, 1) := by decide +kernel
theorem dX10_hidOf_7 : decode cX10_hidOf 7 = .ok (.aload_n 0, 1) := by decide +kernel
theorem dX10_hidOf_8 : decode cX10_hidOf 8 = .ok (.getfield 7, 3) := by decide +kernel
theorem dX10_hidOf_11 : decode cX10_hidOf 11 = .ok (.sipush 171, 3) := by decide +kernel
theorem dX10_hidOf_14 : decode cX10_hidOf 14 = .ok (.iload_n 2, 1) := by decide +kernel
theorem dX10_hidOf_15 : decode cX10_hidOf 15 = .ok (.iadd, 1) := by decide +kernel
theorem dX10_hidOf_16 : decode cX10_hidOf 16 = .ok (.iaload, 1) := by decide +kernel
theorem dX10_hidOf_17 : decode cX10_hidOf 17 = .ok (.istore 4, 2) := by decide +kernel
theorem dX10_hidOf_19 : decode cX10_hidOf 19 = .ok (.iconst 0, 1) := by decide +kernel
theorem dX10_hidOf_20 : decode cX10_hidOf 20 = .ok (.istore 5, 2) := by decide +kernel
theorem dX10_hidOf_22 : decode cX10_hidOf 22 = .ok (.iload_n 3, 1) := by decide +kernel
theorem dX10_hidOf_23 : decode cX10_hidOf 23 = .ok (.iload 4, 2) := by decide +kernel
theorem dX10_hidOf_25 : decode cX10_hidOf 25 = .ok (.if_icmp .ge 7, 3) := by decide +kernel
theorem dX10_hidOf_28 : decode cX10_hidOf 28 = .ok (.iload_n 3, 1) := by decide +kernel
theorem dX10_hidOf_29 : decode cX10_hidOf 29 = .ok (.goto 5, 3) := by decide +kernel
theorem dX10_hidOf_32 : decode cX10_hidOf 32 = .ok (.iload 4, 2) := by decide +kernel
theorem dX10_hidOf_34 : decode cX10_hidOf 34 = .ok (.iconst 1, 1) := by decide +kernel
theorem dX10_hidOf_35 : decode cX10_hidOf 35 = .ok (.iadd, 1) := by decide +kernel
theorem dX10_hidOf_36 : decode cX10_hidOf 36 = .ok (.istore 6, 2) := by decide +kernel
theorem dX10_hidOf_38 : decode cX10_hidOf 38 = .ok (.iload 6, 2) := by decide +kernel
theorem dX10_hidOf_40 : decode cX10_hidOf 40 = .ok (.iload_n 3, 1) := by decide +kernel
theorem dX10_hidOf_41 : decode cX10_hidOf 41 = .ok (.if_icmp .lt 10, 3) := by decide +kernel
theorem dX10_hidOf_44 : decode cX10_hidOf 44 = .ok (.iload 6, 2) := by decide +kernel
theorem dX10_hidOf_46 : decode cX10_hidOf 46 = .ok (.iload 4, 2) := by decide +kernel
theorem dX10_hidOf_48 : decode cX10_hidOf 48 = .ok (.if_icmp .ge 23, 3) := by decide +kernel
theorem dX10_hidOf_51 : decode cX10_hidOf 51 = .ok (.iload 5, 2) := by decide +kernel
theorem dX10_hidOf_53 : decode cX10_hidOf 53 = .ok (.aload_n 0, 1) := by decide +kernel
theorem dX10_hidOf_54 : decode cX10_hidOf 54 = .ok (.getfield 7, 3) := by decide +kernel
theorem dX10_hidOf_57 : decode cX10_hidOf 57 = .ok (.iconst 0, 1) := by decide +kernel
theorem dX10_hidOf_58 : decode cX10_hidOf 58 = .ok (.iload 6, 2) := by decide +kernel
theorem dX10_hidOf_60 : decode cX10_hidOf 60 = .ok (.iadd, 1) := by decide +kernel
theorem dX10_hidOf_61 : decode cX10_hidOf 61 = .ok (.iaload, 1) := by decide +kernel
theorem dX10_hidOf_62 : decode cX10_hidOf 62 = .ok (.iadd, 1) := by decide +kernel
theorem dX10_hidOf_63 : decode cX10_hidOf 63 = .ok (.istore 5, 2) := by decide +kernel
theorem dX10_hidOf_65 : decode cX10_hidOf 65 = .ok (.iinc 6 1, 3) := by decide +kernel
theorem dX10_hidOf_68 : decode cX10_hidOf 68 = .ok (.goto (-30), 3) := by decide +kernel
theorem dX10_hidOf_71 : decode cX10_hidOf 71 = .ok (.iload 5, 2) := by decide +kernel
theorem dX10_hidOf_73 : decode cX10_hidOf 73 = .ok (.ireturn, 1) := by decide +kernel
theorem dX10_windOf_0 : decode cX10_windOf 0 = .ok (.aload_n 0, 1) := by decide +kernel
theorem dX10_windOf_1 : decode cX10_windOf 1 = .ok (.getfield 7, 3) := by decide +kernel
theorem dX10_windOf_4 : decode cX10_windOf 4 = .ok (.sipush 171, 3) := by decide +kernel
theorem dX10_windOf_7 : decode cX10_windOf 7 = .ok (.iload_n 2, 1) := by decide +kernel
theorem dX10_windOf_8 : decode cX10_windOf 8 = .ok (.iadd, 1) := by decide +kernel
theorem dX10_windOf_9 : decode cX10_windOf 9 = .ok (.iaload, 1) := by decide +kernel
theorem dX10_windOf_10 : decode cX10_windOf 10 = .ok (.aload_n 0, 1) := by decide +kernel
theorem dX10_windOf_11 : decode cX10_windOf 11 = .ok (.iload_n 1, 1) := by decide +kernel
theorem dX10_windOf_12 : decode cX10_windOf 12 = .ok (.iconst 2, 1) := by decide +kernel
theorem dX10_windOf_13 : decode cX10_windOf 13 = .ok (.invokevirtual 175, 3) := by decide +kernel
theorem dX10_windOf_16 : decode cX10_windOf 16 = .ok (.if_icmp .le 13, 3) := by decide +kernel
theorem dX10_windOf_19 : decode cX10_windOf 19 = .ok (.aload_n 0, 1) := by decide +kernel
theorem dX10_windOf_20 : decode cX10_windOf 20 = .ok (.getfield 7, 3) := by decide +kernel
theorem dX10_windOf_23 : decode cX10_windOf 23 = .ok (.bipush 100, 2) := by decide +kernel
theorem dX10_windOf_25 : decode cX10_windOf 25 = .ok (.iaload, 1) := by decide +kernel
theorem dX10_windOf_26 : decode cX10_windOf 26 = .ok (.goto 34, 3) := by decide +kernel
theorem dX10_windOf_29 : decode cX10_windOf 29 = .ok (.aload_n 0, 1) := by decide +kernel
theorem dX10_windOf_30 : decode cX10_windOf 30 = .ok (.getfield 7, 3) := by decide +kernel
theorem dX10_windOf_33 : decode cX10_windOf 33 = .ok (.sipush 171, 3) := by decide +kernel
theorem dX10_windOf_36 : decode cX10_windOf 36 = .ok (.iload_n 2, 1) := by decide +kernel
theorem dX10_windOf_37 : decode cX10_windOf 37 = .ok (.iadd, 1) := by decide +kernel
theorem dX10_windOf_38 : decode cX10_windOf 38 = .ok (.iaload, 1) := by decide +kernel
theorem dX10_windOf_39 : decode cX10_windOf 39 = .ok (.aload_n 0, 1) := by decide +kernel
theorem dX10_windOf_40 : decode cX10_windOf 40 = .ok (.iload_n 1, 1) := by decide +kernel
theorem dX10_windOf_41 : decode cX10_windOf 41 = .ok (.iconst 2, 1) := by decide +kernel
theorem dX10_windOf_42 : decode cX10_windOf 42 = .ok (.invokevirtual 175, 3) := by decide +kernel
theorem dX10_windOf_45 : decode cX10_windOf 45 = .ok (.if_icmp .ge 14, 3) := by decide +kernel
theorem dX10_windOf_48 : decode cX10_windOf 48 = .ok (.aload_n 0, 1) := by decide +kernel
theorem dX10_windOf_49 : decode cX10_windOf 49 = .ok (.getfield 7, 3) := by decide +kernel
theorem dX10_windOf_52 : decode cX10_windOf 52 = .ok (.bipush 100, 2) := by decide +kernel
theorem dX10_windOf_54 : decode cX10_windOf 54 = .ok (.iaload, 1) := by decide +kernel
theorem dX10_windOf_55 : decode cX10_windOf 55 = .ok (.ineg, 1) := by decide +kernel
theorem dX10_windOf_56 : decode cX10_windOf 56 = .ok (.goto 4, 3) := by decide +kernel
theorem dX10_windOf_59 : decode cX10_windOf 59 = .ok (.iconst 0, 1) := by decide +kernel
theorem dX10_windOf_60 : decode cX10_windOf 60 = .ok (.ireturn, 1) := by decide +kernel
theorem dX10_wayOf_0 : decode cX10_wayOf 0 = .ok (.aload_n 0, 1) := by decide +kernel
theorem dX10_wayOf_1 : decode cX10_wayOf 1 = .ok (.iload_n 1, 1) := by decide +kernel
theorem dX10_wayOf_2 : decode cX10_wayOf 2 = .ok (.iload_n 2, 1) := by decide +kernel
theorem dX10_wayOf_3 : decode cX10_wayOf 3 = .ok (.invokevirtual 202, 3) := by decide +kernel
theorem dX10_wayOf_6 : decode cX10_wayOf 6 = .ok (.istore_n 3, 1) := by decide +kernel
theorem dX10_wayOf_7 : decode cX10_wayOf 7 = .ok (.iconst 3, 1) := by decide +kernel
theorem dX10_wayOf_8 : decode cX10_wayOf 8 = .ok (.iload_n 3, 1) := by decide +kernel
theorem dX10_wayOf_9 : decode cX10_wayOf 9 = .ok (.imul, 1) := by decide +kernel
theorem dX10_wayOf_10 : decode cX10_wayOf 10 = .ok (.aload_n 0, 1) := by decide +kernel
theorem dX10_wayOf_11 : decode cX10_wayOf 11 = .ok (.iload_n 1, 1) := by decide +kernel
theorem dX10_wayOf_12 : decode cX10_wayOf 12 = .ok (.iload_n 2, 1) := by decide +kernel
theorem dX10_wayOf_13 : decode cX10_wayOf 13 = .ok (.invokevirtual 205, 3) := by decide +kernel
theorem dX10_wayOf_16 : decode cX10_wayOf 16 = .ok (.iload_n 3, 1) := by decide +kernel
theorem dX10_wayOf_17 : decode cX10_wayOf 17 = .ok (.imul, 1) := by decide +kernel
theorem dX10_wayOf_18 : decode cX10_wayOf 18 = .ok (.iconst 5, 1) := by decide +kernel
theorem dX10_wayOf_19 : decode cX10_wayOf 19 = .ok (.idiv, 1) := by decide +kernel
theorem dX10_wayOf_20 : decode cX10_wayOf 20 = .ok (.isub, 1) := by decide +kernel
theorem dX10_wayOf_21 : decode cX10_wayOf 21 = .ok (.iconst 0, 1) := by decide +kernel
theorem dX10_wayOf_22 : decode cX10_wayOf 22 = .ok (.ldc 208, 2) := by decide +kernel
theorem dX10_wayOf_24 : decode cX10_wayOf 24 = .ok (.invokestatic 140, 3) := by decide +kernel
theorem dX10_wayOf_27 : decode cX10_wayOf 27 = .ok (.ireturn, 1) := by decide +kernel
theorem dX10_strengthOf_0 : decode cX10_strengthOf 0 = .ok (.aload_n 0, 1) := by decide +kernel
theorem dX10_strengthOf_1 : decode cX10_strengthOf 1 = .ok (.aload_n 0, 1) := by decide +kernel
theorem dX10_strengthOf_2 : decode cX10_strengthOf 2 = .ok (.iload_n 1, 1) := by decide +kernel
theorem dX10_strengthOf_3 : decode cX10_strengthOf 3 = .ok (.iconst 3, 1) := by decide +kernel
theorem dX10_strengthOf_4 : decode cX10_strengthOf 4 = .ok (.invokevirtual 175, 3) := by decide +kernel
theorem dX10_strengthOf_7 : decode cX10_strengthOf 7 = .ok (.aload_n 0, 1) := by decide +kernel
theorem dX10_strengthOf_8 : decode cX10_strengthOf 8 = .ok (.iload_n 1, 1) := by decide +kernel
theorem dX10_strengthOf_9 : decode cX10_strengthOf 9 = .ok (.iload_n 2, 1) := by decide +kernel
theorem dX10_strengthOf_10 : decode cX10_strengthOf 10 = .ok (.invokevirtual 202, 3) := by decide +kernel
theorem dX10_strengthOf_13 : decode cX10_strengthOf 13 = .ok (.aload_n 0, 1) := by decide +kernel
theorem dX10_strengthOf_14 : decode cX10_strengthOf 14 = .ok (.iload_n 1, 1) := by decide +kernel
theorem dX10_strengthOf_15 : decode cX10_strengthOf 15 = .ok (.iload_n 2, 1) := by decide +kernel
theorem dX10_strengthOf_16 : decode cX10_strengthOf 16 = .ok (.invokevirtual 209, 3) := by decide +kernel
theorem dX10_strengthOf_19 : decode cX10_strengthOf 19 = .ok (.aload_n 0, 1) := by decide +kernel
theorem dX10_strengthOf_20 : decode cX10_strengthOf 20 = .ok (.iload_n 1, 1) := by decide +kernel
theorem dX10_strengthOf_21 : decode cX10_strengthOf 21 = .ok (.iload_n 2, 1) := by decide +kernel
theorem dX10_strengthOf_22 : decode cX10_strengthOf 22 = .ok (.invokevirtual 205, 3) := by decide +kernel
theorem dX10_strengthOf_25 : decode cX10_strengthOf 25 = .ok (.aload_n 0, 1) := by decide +kernel
theorem dX10_strengthOf_26 : decode cX10_strengthOf 26 = .ok (.iload_n 1, 1) := by decide +kernel
theorem dX10_strengthOf_27 : decode cX10_strengthOf 27 = .ok (.iconst 0, 1) := by decide +kernel
theorem dX10_strengthOf_28 : decode cX10_strengthOf 28 = .ok (.invokevirtual 175, 3) := by decide +kernel
theorem dX10_strengthOf_31 : decode cX10_strengthOf 31 = .ok (.invokevirtual 143, 3) := by decide +kernel
theorem dX10_strengthOf_34 : decode cX10_strengthOf 34 = .ok (.ireturn, 1) := by decide +kernel
theorem dX10_way_0 : decode cX10_way 0 = .ok (.aload_n 0, 1) := by decide +kernel
theorem dX10_way_1 : decode cX10_way 1 = .ok (.iload_n 1, 1) := by decide +kernel
theorem dX10_way_2 : decode cX10_way 2 = .ok (.invokevirtual 170, 3) := by decide +kernel
theorem dX10_way_5 : decode cX10_way 5 = .ok (.ifCond .eq 23, 3) := by decide +kernel
theorem dX10_way_8 : decode cX10_way 8 = .ok (.aload_n 0, 1) := by decide +kernel
theorem dX10_way_9 : decode cX10_way 9 = .ok (.iload_n 2, 1) := by decide +kernel
theorem dX10_way_10 : decode cX10_way 10 = .ok (.invokevirtual 212, 3) := by decide +kernel
theorem dX10_way_13 : decode cX10_way 13 = .ok (.ifCond .eq 15, 3) := by decide +kernel
theorem dX10_way_16 : decode cX10_way 16 = .ok (.iload_n 3, 1) := by decide +kernel
theorem dX10_way_17 : decode cX10_way 17 = .ok (.i2l, 1) := by decide +kernel
theorem dX10_way_18 : decode cX10_way 18 = .ok (.lconst 0, 1) := by decide +kernel
theorem dX10_way_19 : decode cX10_way 19 = .ok (.ldc2_w 215, 3) := by decide +kernel
theorem dX10_way_22 : decode cX10_way 22 = .ok (.invokestatic 66, 3) := by decide +kernel
theorem dX10_way_25 : decode cX10_way 25 = .ok (.ifCond .ne 9, 3) := by decide +kernel
theorem dX10_way_28 : decode cX10_way 28 = .ok (.aload_n 0, 1) := by decide +kernel
theorem dX10_way_29 : decode cX10_way 29 = .ok (.iconst 1, 1) := by decide +kernel
theorem dX10_way_30 : decode cX10_way 30 = .ok (.invokevirtual 131, 3) := by decide +kernel
theorem dX10_way_33 : decode cX10_way 33 = .ok (.ireturn, 1) := by decide +kernel
theorem dX10_way_34 : decode cX10_way 34 = .ok (.iload_n 3, 1) := by decide +kernel
theorem dX10_way_35 : decode cX10_way 35 = .ok (.tableswitch 57 0 3 #[29, 36, 43, 50], 29) := by decide +kernel
theorem dX10_way_64 : decode cX10_way 64 = .ok (.aload_n 0, 1) := by decide +kernel
theorem dX10_way_65 : decode cX10_way 65 = .ok (.iload_n 1, 1) := by decide +kernel
theorem dX10_way_66 : decode cX10_way 66 = .ok (.iload_n 2, 1) := by decide +kernel
theorem dX10_way_67 : decode cX10_way 67 = .ok (.invokevirtual 202, 3) := by decide +kernel
theorem dX10_way_70 : decode cX10_way 70 = .ok (.ireturn, 1) := by decide +kernel
theorem dX10_way_71 : decode cX10_way 71 = .ok (.aload_n 0, 1) := by decide +kernel
theorem dX10_way_72 : decode cX10_way 72 = .ok (.iload_n 1, 1) := by decide +kernel
theorem dX10_way_73 : decode cX10_way 73 = .ok (.iload_n 2, 1) := by decide +kernel
theorem dX10_way_74 : decode cX10_way 74 = .ok (.invokevirtual 209, 3) := by decide +kernel
theorem dX10_way_77 : decode cX10_way 77 = .ok (.ireturn, 1) := by decide +kernel
theorem dX10_way_78 : decode cX10_way 78 = .ok (.aload_n 0, 1) := by decide +kernel
theorem dX10_way_79 : decode cX10_way 79 = .ok (.iload_n 1, 1) := by decide +kernel
theorem dX10_way_80 : decode cX10_way 80 = .ok (.iload_n 2, 1) := by decide +kernel
theorem dX10_way_81 : decode cX10_way 81 = .ok (.invokevirtual 217, 3) := by decide +kernel
theorem dX10_way_84 : decode cX10_way 84 = .ok (.ireturn, 1) := by decide +kernel
theorem dX10_way_85 : decode cX10_way 85 = .ok (.aload_n 0, 1) := by decide +kernel
theorem dX10_way_86 : decode cX10_way 86 = .ok (.iload_n 1, 1) := by decide +kernel
theorem dX10_way_87 : decode cX10_way 87 = .ok (.iload_n 2, 1) := by decide +kernel
theorem dX10_way_88 : decode cX10_way 88 = .ok (.invokevirtual 220, 3) := by decide +kernel
theorem dX10_way_91 : decode cX10_way 91 = .ok (.ireturn, 1) := by decide +kernel
theorem dX10_way_92 : decode cX10_way 92 = .ok (.aload_n 0, 1) := by decide +kernel
theorem dX10_way_93 : decode cX10_way 93 = .ok (.iload_n 1, 1) := by decide +kernel
theorem dX10_way_94 : decode cX10_way 94 = .ok (.iconst 4, 1) := by decide +kernel
theorem dX10_way_95 : decode cX10_way 95 = .ok (.invokevirtual 175, 3) := by decide +kernel
theorem dX10_way_98 : decode cX10_way 98 = .ok (.aload_n 0, 1) := by decide +kernel
theorem dX10_way_99 : decode cX10_way 99 = .ok (.iload_n 1, 1) := by decide +kernel
theorem dX10_way_100 : decode cX10_way 100 = .ok (.iload_n 2, 1) := by decide +kernel
theorem dX10_way_101 : decode cX10_way 101 = .ok (.invokevirtual 217, 3) := by decide +kernel
theorem dX10_way_104 : decode cX10_way 104 = .ok (.iadd, 1) := by decide +kernel
theorem dX10_way_105 : decode cX10_way 105 = .ok (.ireturn, 1) := by decide +kernel
theorem dX10_isHeard_0 : decode cX10_isHeard 0 = .ok (.aload_n 0, 1) := by decide +kernel
theorem dX10_isHeard_1 : decode cX10_isHeard 1 = .ok (.iload_n 1, 1) := by decide +kernel
theorem dX10_isHeard_2 : decode cX10_isHeard 2 = .ok (.iload_n 3, 1) := by decide +kernel
theorem dX10_isHeard_3 : decode cX10_isHeard 3 = .ok (.invokevirtual 194, 3) := by decide +kernel
theorem dX10_isHeard_6 : decode cX10_isHeard 6 = .ok (.ifCond .eq 16, 3) := by decide +kernel
theorem dX10_isHeard_9 : decode cX10_isHeard 9 = .ok (.aload_n 0, 1) := by decide +kernel
theorem dX10_isHeard_10 : decode cX10_isHeard 10 = .ok (.iload_n 1, 1) := by decide +kernel
theorem dX10_isHeard_11 : decode cX10_isHeard 11 = .ok (.iload_n 2, 1) := by decide +kernel
theorem dX10_isHeard_12 : decode cX10_isHeard 12 = .ok (.invokevirtual 220, 3) := by decide +kernel
theorem dX10_isHeard_15 : decode cX10_isHeard 15 = .ok (.ifCond .le 7, 3) := by decide +kernel
theorem dX10_isHeard_18 : decode cX10_isHeard 18 = .ok (.iconst 1, 1) := by decide +kernel
theorem dX10_isHeard_19 : decode cX10_isHeard 19 = .ok (.goto 4, 3) := by decide +kernel
theorem dX10_isHeard_22 : decode cX10_isHeard 22 = .ok (.iconst 0, 1) := by decide +kernel
theorem dX10_isHeard_23 : decode cX10_isHeard 23 = .ok (.ireturn, 1) := by decide +kernel
theorem dX10_heard_0 : decode cX10_heard 0 = .ok (.aload_n 0, 1) := by decide +kernel
theorem dX10_heard_1 : decode cX10_heard 1 = .ok (.iload_n 1, 1) := by decide +kernel
theorem dX10_heard_2 : decode cX10_heard 2 = .ok (.invokevirtual 212, 3) := by decide +kernel
theorem dX10_heard_5 : decode cX10_heard 5 = .ok (.ifCond .eq 10, 3) := by decide +kernel
theorem dX10_heard_8 : decode cX10_heard 8 = .ok (.iload_n 2, 1) := by decide +kernel
theorem dX10_heard_9 : decode cX10_heard 9 = .ok (.invokestatic 191, 3) := by decide +kernel
theorem dX10_heard_12 : decode cX10_heard 12 = .ok (.ifCond .ne 9, 3) := by decide +kernel
theorem dX10_heard_15 : decode cX10_heard 15 = .ok (.aload_n 0, 1) := by decide +kernel
theorem dX10_heard_16 : decode cX10_heard 16 = .ok (.iconst 1, 1) := by decide +kernel
theorem dX10_heard_17 : decode cX10_heard 17 = .ok (.invokevirtual 131, 3) := by decide +kernel
theorem dX10_heard_20 : decode cX10_heard 20 = .ok (.ireturn, 1) := by decide +kernel
theorem dX10_heard_21 : decode cX10_heard 21 = .ok (.iconst 0, 1) := by decide +kernel
theorem dX10_heard_22 : decode cX10_heard 22 = .ok (.istore_n 3, 1) := by decide +kernel
theorem dX10_heard_23 : decode cX10_heard 23 = .ok (.iconst 0, 1) := by decide +kernel
theorem dX10_heard_24 : decode cX10_heard 24 = .ok (.istore 4, 2) := by decide +kernel
theorem dX10_heard_26 : decode cX10_heard 26 = .ok (.iload 4, 2) := by decide +kernel
theorem dX10_heard_28 : decode cX10_heard 28 = .ok (.aload_n 0, 1) := by decide +kernel
theorem dX10_heard_29 : decode cX10_heard 29 = .ok (.getfield 7, 3) := by decide +kernel
theorem dX10_heard_32 : decode cX10_heard 32 = .ok (.bipush 103, 2) := by decide +kernel
theorem dX10_heard_34 : decode cX10_heard 34 = .ok (.iaload, 1) := by decide +kernel
theorem dX10_heard_35 : decode cX10_heard 35 = .ok (.if_icmp .ge 31, 3) := by decide +kernel
theorem dX10_heard_38 : decode cX10_heard 38 = .ok (.iload_n 3, 1) := by decide +kernel
theorem dX10_heard_39 : decode cX10_heard 39 = .ok (.aload_n 0, 1) := by decide +kernel
theorem dX10_heard_40 : decode cX10_heard 40 = .ok (.iload 4, 2) := by decide +kernel
theorem dX10_heard_42 : decode cX10_heard 42 = .ok (.iload_n 1, 1) := by decide +kernel
theorem dX10_heard_43 : decode cX10_heard 43 = .ok (.iload_n 2, 1) := by decide +kernel
theorem dX10_heard_44 : decode cX10_heard 44 = .ok (.invokevirtual 223, 3) := by decide +kernel
theorem dX10_heard_47 : decode cX10_heard 47 = .ok (.ifCond .eq 10, 3) := by decide +kernel
theorem dX10_heard_50 : decode cX10_heard 50 = .ok (.iconst 1, 1) := by decide +kernel
theorem dX10_heard_51 : decode cX10_heard 51 = .ok (.iload 4, 2) := by decide +kernel
theorem dX10_heard_53 : decode cX10_heard 53 = .ok (.ishl, 1) := by decide +kernel
theorem dX10_heard_54 : decode cX10_heard 54 = .ok (.goto 4, 3) := by decide +kernel
theorem dX10_heard_57 : decode cX10_heard 57 = .ok (.iconst 0, 1) := by decide +kernel
theorem dX10_heard_58 : decode cX10_heard 58 = .ok (.ior, 1) := by decide +kernel
theorem dX10_heard_59 : decode cX10_heard 59 = .ok (.istore_n 3, 1) := by decide +kernel
theorem dX10_heard_60 : decode cX10_heard 60 = .ok (.iinc 4 1, 3) := by decide +kernel
theorem dX10_heard_63 : decode cX10_heard 63 = .ok (.goto (-37), 3) := by decide +kernel
theorem dX10_heard_66 : decode cX10_heard 66 = .ok (.iload_n 3, 1) := by decide +kernel
theorem dX10_heard_67 : decode cX10_heard 67 = .ok (.ireturn, 1) := by decide +kernel
theorem dX10_hears_0 : decode cX10_hears 0 = .ok (.iconst 0, 1) := by decide +kernel
theorem dX10_hears_1 : decode cX10_hears 1 = .ok (.istore_n 3, 1) := by decide +kernel
theorem dX10_hears_2 : decode cX10_hears 2 = .ok (.iload_n 3, 1) := by decide +kernel
theorem dX10_hears_3 : decode cX10_hears 3 = .ok (.aload_n 0, 1) := by decide +kernel
theorem dX10_hears_4 : decode cX10_hears 4 = .ok (.getfield 7, 3) := by decide +kernel
theorem dX10_hears_7 : decode cX10_hears 7 = .ok (.bipush 104, 2) := by decide +kernel
theorem dX10_hears_9 : decode cX10_hears 9 = .ok (.iaload, 1) := by decide +kernel
theorem dX10_hears_10 : decode cX10_hears 10 = .ok (.if_icmp .ge 44, 3) := by decide +kernel
theorem dX10_hears_13 : decode cX10_hears 13 = .ok (.aload_n 0, 1) := by decide +kernel
theorem dX10_hears_14 : decode cX10_hears 14 = .ok (.getfield 25, 3) := by decide +kernel
theorem dX10_hears_17 : decode cX10_hears 17 = .ok (.bipush 10, 2) := by decide +kernel
theorem dX10_hears_19 : decode cX10_hears 19 = .ok (.iload_n 1, 1) := by decide +kernel
theorem dX10_hears_20 : decode cX10_hears 20 = .ok (.imul, 1) := by decide +kernel
theorem dX10_hears_21 : decode cX10_hears 21 = .ok (.iload_n 3, 1) := by decide +kernel
theorem dX10_hears_22 : decode cX10_hears 22 = .ok (.iadd, 1) := by decide +kernel
theorem dX10_hears_23 : decode cX10_hears 23 = .ok (.aload_n 0, 1) := by decide +kernel
theorem dX10_hears_24 : decode cX10_hears 24 = .ok (.iload_n 1, 1) := by decide +kernel
theorem dX10_hears_25 : decode cX10_hears 25 = .ok (.iload_n 3, 1) := by decide +kernel
theorem dX10_hears_26 : decode cX10_hears 26 = .ok (.invokevirtual 217, 3) := by decide +kernel
theorem dX10_hears_29 : decode cX10_hears 29 = .ok (.iastore, 1) := by decide +kernel
theorem dX10_hears_30 : decode cX10_hears 30 = .ok (.aload_n 0, 1) := by decide +kernel
theorem dX10_hears_31 : decode cX10_hears 31 = .ok (.getfield 28, 3) := by decide +kernel
theorem dX10_hears_34 : decode cX10_hears 34 = .ok (.bipush 10, 2) := by decide +kernel
theorem dX10_hears_36 : decode cX10_hears 36 = .ok (.iload_n 1, 1) := by decide +kernel
theorem dX10_hears_37 : decode cX10_hears 37 = .ok (.imul, 1) := by decide +kernel
theorem dX10_hears_38 : decode cX10_hears 38 = .ok (.iload_n 3, 1) := by decide +kernel
theorem dX10_hears_39 : decode cX10_hears 39 = .ok (.iadd, 1) := by decide +kernel
theorem dX10_hears_40 : decode cX10_hears 40 = .ok (.aload_n 0, 1) := by decide +kernel
theorem dX10_hears_41 : decode cX10_hears 41 = .ok (.iload_n 1, 1) := by decide +kernel
theorem dX10_hears_42 : decode cX10_hears 42 = .ok (.iload_n 3, 1) := by decide +kernel
theorem dX10_hears_43 : decode cX10_hears 43 = .ok (.iload_n 2, 1) := by decide +kernel
theorem dX10_hears_44 : decode cX10_hears 44 = .ok (.invokevirtual 223, 3) := by decide +kernel
theorem dX10_hears_47 : decode cX10_hears 47 = .ok (.bastore, 1) := by decide +kernel
theorem dX10_hears_48 : decode cX10_hears 48 = .ok (.iinc 3 1, 3) := by decide +kernel
theorem dX10_hears_51 : decode cX10_hears 51 = .ok (.goto (-49), 3) := by decide +kernel
theorem dX10_hears_54 : decode cX10_hears 54 = .ok (.return_, 1) := by decide +kernel
theorem dX10_hearsAll_0 : decode cX10_hearsAll 0 = .ok (.iconst 0, 1) := by decide +kernel
theorem dX10_hearsAll_1 : decode cX10_hearsAll 1 = .ok (.istore_n 2, 1) := by decide +kernel
theorem dX10_hearsAll_2 : decode cX10_hearsAll 2 = .ok (.iload_n 2, 1) := by decide +kernel
theorem dX10_hearsAll_3 : decode cX10_hearsAll 3 = .ok (.aload_n 0, 1) := by decide +kernel
theorem dX10_hearsAll_4 : decode cX10_hearsAll 4 = .ok (.getfield 7, 3) := by decide +kernel
theorem dX10_hearsAll_7 : decode cX10_hearsAll 7 = .ok (.bipush 103, 2) := by decide +kernel
theorem dX10_hearsAll_9 : decode cX10_hearsAll 9 = .ok (.iaload, 1) := by decide +kernel
theorem dX10_hearsAll_10 : decode cX10_hearsAll 10 = .ok (.if_icmp .ge 15, 3) := by decide +kernel
theorem dX10_hearsAll_13 : decode cX10_hearsAll 13 = .ok (.aload_n 0, 1) := by decide +kernel
theorem dX10_hearsAll_14 : decode cX10_hearsAll 14 = .ok (.iload_n 2, 1) := by decide +kernel
theorem dX10_hearsAll_15 : decode cX10_hearsAll 15 = .ok (.iload_n 1, 1) := by decide +kernel
theorem dX10_hearsAll_16 : decode cX10_hearsAll 16 = .ok (.invokevirtual 227, 3) := by decide +kernel
theorem dX10_hearsAll_19 : decode cX10_hearsAll 19 = .ok (.iinc 2 1, 3) := by decide +kernel
theorem dX10_hearsAll_22 : decode cX10_hearsAll 22 = .ok (.goto (-20), 3) := by decide +kernel
theorem dX10_hearsAll_25 : decode cX10_hearsAll 25 = .ok (.return_, 1) := by decide +kernel
theorem dX10_isClash_0 : decode cX10_isClash 0 = .ok (.aload_n 0, 1) := by decide +kernel
theorem dX10_isClash_1 : decode cX10_isClash 1 = .ok (.iload_n 1, 1) := by decide +kernel
theorem dX10_isClash_2 : decode cX10_isClash 2 = .ok (.iconst 4, 1) := by decide +kernel
theorem dX10_isClash_3 : decode cX10_isClash 3 = .ok (.invokevirtual 175, 3) := by decide +kernel
theorem dX10_isClash_6 : decode cX10_isClash 6 = .ok (.iload 4, 2) := by decide +kernel
theorem dX10_isClash_8 : decode cX10_isClash 8 = .ok (.iadd, 1) := by decide +kernel
theorem dX10_isClash_9 : decode cX10_isClash 9 = .ok (.aload_n 0, 1) := by decide +kernel
theorem dX10_isClash_10 : decode cX10_isClash 10 = .ok (.getfield 25, 3) := by decide +kernel
theorem dX10_isClash_13 : decode cX10_isClash 13 = .ok (.bipush 10, 2) := by decide +kernel
theorem dX10_isClash_15 : decode cX10_isClash 15 = .ok (.iload_n 1, 1) := by decide +kernel
theorem dX10_isClash_16 : decode cX10_isClash 16 = .ok (.imul, 1) := by decide +kernel
theorem dX10_isClash_17 : decode cX10_isClash 17 = .ok (.iload_n 3, 1) := by decide +kernel
theorem dX10_isClash_18 : decode cX10_isClash 18 = .ok (.iadd, 1) := by decide +kernel
theorem dX10_isClash_19 : decode cX10_isClash 19 = .ok (.iaload, 1) := by decide +kernel
theorem dX10_isClash_20 : decode cX10_isClash 20 = .ok (.iadd, 1) := by decide +kernel
theorem dX10_isClash_21 : decode cX10_isClash 21 = .ok (.aload_n 0, 1) := by decide +kernel
theorem dX10_isClash_22 : decode cX10_isClash 22 = .ok (.iload_n 2, 1) := by decide +kernel
theorem dX10_isClash_23 : decode cX10_isClash 23 = .ok (.iconst 4, 1) := by decide +kernel
theorem dX10_isClash_24 : decode cX10_isClash 24 = .ok (.invokevirtual 175, 3) := by decide +kernel
theorem dX10_isClash_27 : decode cX10_isClash 27 = .ok (.isub, 1) := by decide +kernel
theorem dX10_isClash_28 : decode cX10_isClash 28 = .ok (.aload_n 0, 1) := by decide +kernel
theorem dX10_isClash_29 : decode cX10_isClash 29 = .ok (.getfield 25, 3) := by decide +kernel
theorem dX10_isClash_32 : decode cX10_isClash 32 = .ok (.bipush 10, 2) := by decide +kernel
theorem dX10_isClash_34 : decode cX10_isClash 34 = .ok (.iload_n 2, 1) := by decide +kernel
theorem dX10_isClash_35 : decode cX10_isClash 35 = .ok (.imul, 1) := by decide +kernel
theorem dX10_isClash_36 : decode cX10_isClash 36 = .ok (.iload_n 3, 1) := by decide +kernel
theorem dX10_isClash_37 : decode cX10_isClash 37 = .ok (.iadd, 1) := by decide +kernel
theorem dX10_isClash_38 : decode cX10_isClash 38 = .ok (.iaload, 1) := by decide +kernel
theorem dX10_isClash_39 : decode cX10_isClash 39 = .ok (.isub, 1) := by decide +kernel
theorem dX10_isClash_40 : decode cX10_isClash 40 = .ok (.istore 5, 2) := by decide +kernel
theorem dX10_isClash_42 : decode cX10_isClash 42 = .ok (.aload_n 0, 1) := by decide +kernel
theorem dX10_isClash_43 : decode cX10_isClash 43 = .ok (.getfield 28, 3) := by decide +kernel
theorem dX10_isClash_46 : decode cX10_isClash 46 = .ok (.bipush 10, 2) := by decide +kernel
theorem dX10_isClash_48 : decode cX10_isClash 48 = .ok (.iload_n 1, 1) := by decide +kernel
theorem dX10_isClash_49 : decode cX10_isClash 49 = .ok (.imul, 1) := by decide +kernel
theorem dX10_isClash_50 : decode cX10_isClash 50 = .ok (.iload_n 3, 1) := by decide +kernel
theorem dX10_isClash_51 : decode cX10_isClash 51 = .ok (.iadd, 1) := by decide +kernel
theorem dX10_isClash_52 : decode cX10_isClash 52 = .ok (.baload, 1) := by decide +kernel
theorem dX10_isClash_53 : decode cX10_isClash 53 = .ok (.ifCond .eq 36, 3) := by decide +kernel
theorem dX10_isClash_56 : decode cX10_isClash 56 = .ok (.aload_n 0, 1) := by decide +kernel
theorem dX10_isClash_57 : decode cX10_isClash 57 = .ok (.getfield 28, 3) := by decide +kernel
theorem dX10_isClash_60 : decode cX10_isClash 60 = .ok (.bipush 10, 2) := by decide +kernel
theorem dX10_isClash_62 : decode cX10_isClash 62 = .ok (.iload_n 2, 1) := by decide +kernel
theorem dX10_isClash_63 : decode cX10_isClash 63 = .ok (.imul, 1) := by decide +kernel
theorem dX10_isClash_64 : decode cX10_isClash 64 = .ok (.iload_n 3, 1) := by decide +kernel
theorem dX10_isClash_65 : decode cX10_isClash 65 = .ok (.iadd, 1) := by decide +kernel
theorem dX10_isClash_66 : decode cX10_isClash 66 = .ok (.baload, 1) := by decide +kernel
theorem dX10_isClash_67 : decode cX10_isClash 67 = .ok (.ifCond .eq 22, 3) := by decide +kernel
theorem dX10_isClash_70 : decode cX10_isClash 70 = .ok (.iload 5, 2) := by decide +kernel
theorem dX10_isClash_72 : decode cX10_isClash 72 = .ok (.invokestatic 200, 3) := by decide +kernel
theorem dX10_isClash_75 : decode cX10_isClash 75 = .ok (.aload_n 0, 1) := by decide +kernel
theorem dX10_isClash_76 : decode cX10_isClash 76 = .ok (.getfield 7, 3) := by decide +kernel
theorem dX10_isClash_79 : decode cX10_isClash 79 = .ok (.bipush 101, 2) := by decide +kernel
theorem dX10_isClash_81 : decode cX10_isClash 81 = .ok (.iaload, 1) := by decide +kernel
theorem dX10_isClash_82 : decode cX10_isClash 82 = .ok (.if_icmp .gt 7, 3) := by decide +kernel
theorem dX10_isClash_85 : decode cX10_isClash 85 = .ok (.iconst 1, 1) := by decide +kernel
theorem dX10_isClash_86 : decode cX10_isClash 86 = .ok (.goto 4, 3) := by decide +kernel
theorem dX10_isClash_89 : decode cX10_isClash 89 = .ok (.iconst 0, 1) := by decide +kernel
theorem dX10_isClash_90 : decode cX10_isClash 90 = .ok (.ireturn, 1) := by decide +kernel
theorem dX10_clashesOf_0 : decode cX10_clashesOf 0 = .ok (.iconst 0, 1) := by decide +kernel
theorem dX10_clashesOf_1 : decode cX10_clashesOf 1 = .ok (.istore 4, 2) := by decide +kernel
theorem dX10_clashesOf_3 : decode cX10_clashesOf 3 = .ok (.iconst 0, 1) := by decide +kernel
theorem dX10_clashesOf_4 : decode cX10_clashesOf 4 = .ok (.istore 5, 2) := by decide +kernel
theorem dX10_clashesOf_6 : decode cX10_clashesOf 6 = .ok (.iload 5, 2) := by decide +kernel
theorem dX10_clashesOf_8 : decode cX10_clashesOf 8 = .ok (.aload_n 0, 1) := by decide +kernel
theorem dX10_clashesOf_9 : decode cX10_clashesOf 9 = .ok (.getfield 7, 3) := by decide +kernel
theorem dX10_clashesOf_12 : decode cX10_clashesOf 12 = .ok (.bipush 104, 2) := by decide +kernel
theorem dX10_clashesOf_14 : decode cX10_clashesOf 14 = .ok (.iaload, 1) := by decide +kernel
theorem dX10_clashesOf_15 : decode cX10_clashesOf 15 = .ok (.if_icmp .ge 31, 3) := by decide +kernel
theorem dX10_clashesOf_18 : decode cX10_clashesOf 18 = .ok (.iload 4, 2) := by decide +kernel
theorem dX10_clashesOf_20 : decode cX10_clashesOf 20 = .ok (.aload_n 0, 1) := by decide +kernel
theorem dX10_clashesOf_21 : decode cX10_clashesOf 21 = .ok (.iload_n 1, 1) := by decide +kernel
theorem dX10_clashesOf_22 : decode cX10_clashesOf 22 = .ok (.iload_n 2, 1) := by decide +kernel
theorem dX10_clashesOf_23 : decode cX10_clashesOf 23 = .ok (.iload 5, 2) := by decide +kernel
theorem dX10_clashesOf_25 : decode cX10_clashesOf 25 = .ok (.iload_n 3, 1) := by decide +kernel
theorem dX10_clashesOf_26 : decode cX10_clashesOf 26 = .ok (.invokevirtual 231, 3) := by decide +kernel
theorem dX10_clashesOf_29 : decode cX10_clashesOf 29 = .ok (.ifCond .eq 7, 3) := by decide +kernel
theorem dX10_clashesOf_32 : decode cX10_clashesOf 32 = .ok (.iconst 1, 1) := by decide +kernel
theorem dX10_clashesOf_33 : decode cX10_clashesOf 33 = .ok (.goto 4, 3) := by decide +kernel
theorem dX10_clashesOf_36 : decode cX10_clashesOf 36 = .ok (.iconst 0, 1) := by decide +kernel
theorem dX10_clashesOf_37 : decode cX10_clashesOf 37 = .ok (.iadd, 1) := by decide +kernel
theorem dX10_clashesOf_38 : decode cX10_clashesOf 38 = .ok (.istore 4, 2) := by decide +kernel
theorem dX10_clashesOf_40 : decode cX10_clashesOf 40 = .ok (.iinc 5 1, 3) := by decide +kernel
theorem dX10_clashesOf_43 : decode cX10_clashesOf 43 = .ok (.goto (-37), 3) := by decide +kernel
theorem dX10_clashesOf_46 : decode cX10_clashesOf 46 = .ok (.iload 4, 2) := by decide +kernel
theorem dX10_clashesOf_48 : decode cX10_clashesOf 48 = .ok (.ireturn, 1) := by decide +kernel
theorem dX10_clashesOfOne_0 : decode cX10_clashesOfOne 0 = .ok (.iconst 0, 1) := by decide +kernel
theorem dX10_clashesOfOne_1 : decode cX10_clashesOfOne 1 = .ok (.istore_n 3, 1) := by decide +kernel
theorem dX10_clashesOfOne_2 : decode cX10_clashesOfOne 2 = .ok (.iconst 0, 1) := by decide +kernel
theorem dX10_clashesOfOne_3 : decode cX10_clashesOfOne 3 = .ok (.istore 4, 2) := by decide +kernel
theorem dX10_clashesOfOne_5 : decode cX10_clashesOfOne 5 = .ok (.iload 4, 2) := by decide +kernel
theorem dX10_clashesOfOne_7 : decode cX10_clashesOfOne 7 = .ok (.aload_n 0, 1) := by decide +kernel
theorem dX10_clashesOfOne_8 : decode cX10_clashesOfOne 8 = .ok (.getfield 7, 3) := by decide +kernel
theorem dX10_clashesOfOne_11 : decode cX10_clashesOfOne 11 = .ok (.bipush 103, 2) := by decide +kernel
theorem dX10_clashesOfOne_13 : decode cX10_clashesOfOne 13 = .ok (.iaload, 1) := by decide +kernel
theorem dX10_clashesOfOne_14 : decode cX10_clashesOfOne 14 = .ok (.if_icmp .ge 30, 3) := by decide +kernel
theorem dX10_clashesOfOne_17 : decode cX10_clashesOfOne 17 = .ok (.iload_n 3, 1) := by decide +kernel
theorem dX10_clashesOfOne_18 : decode cX10_clashesOfOne 18 = .ok (.iload 4, 2) := by decide +kernel
theorem dX10_clashesOfOne_20 : decode cX10_clashesOfOne 20 = .ok (.iload_n 1, 1) := by decide +kernel
theorem dX10_clashesOfOne_21 : decode cX10_clashesOfOne 21 = .ok (.if_icmp .ne 7, 3) := by decide +kernel
theorem dX10_clashesOfOne_24 : decode cX10_clashesOfOne 24 = .ok (.iconst 0, 1) := by decide +kernel
theorem dX10_clashesOfOne_25 : decode cX10_clashesOfOne 25 = .ok (.goto 11, 3) := by decide +kernel
theorem dX10_clashesOfOne_28 : decode cX10_clashesOfOne 28 = .ok (.aload_n 0, 1) := by decide +kernel
theorem dX10_clashesOfOne_29 : decode cX10_clashesOfOne 29 = .ok (.iload_n 1, 1) := by decide +kernel
theorem dX10_clashesOfOne_30 : decode cX10_clashesOfOne 30 = .ok (.iload 4, 2) := by decide +kernel
theorem dX10_clashesOfOne_32 : decode cX10_clashesOfOne 32 = .ok (.iload_n 2, 1) := by decide +kernel
theorem dX10_clashesOfOne_33 : decode cX10_clashesOfOne 33 = .ok (.invokevirtual 235, 3) := by decide +kernel
theorem dX10_clashesOfOne_36 : decode cX10_clashesOfOne 36 = .ok (.iadd, 1) := by decide +kernel
theorem dX10_clashesOfOne_37 : decode cX10_clashesOfOne 37 = .ok (.istore_n 3, 1) := by decide +kernel
theorem dX10_clashesOfOne_38 : decode cX10_clashesOfOne 38 = .ok (.iinc 4 1, 3) := by decide +kernel
theorem dX10_clashesOfOne_41 : decode cX10_clashesOfOne 41 = .ok (.goto (-36), 3) := by decide +kernel
theorem dX10_clashesOfOne_44 : decode cX10_clashesOfOne 44 = .ok (.iload_n 3, 1) := by decide +kernel
theorem dX10_clashesOfOne_45 : decode cX10_clashesOfOne 45 = .ok (.ireturn, 1) := by decide +kernel
theorem dX10_clashesAt_0 : decode cX10_clashesAt 0 = .ok (.aload_n 0, 1) := by decide +kernel
theorem dX10_clashesAt_1 : decode cX10_clashesAt 1 = .ok (.iload_n 1, 1) := by decide +kernel
theorem dX10_clashesAt_2 : decode cX10_clashesAt 2 = .ok (.invokevirtual 238, 3) := by decide +kernel
theorem dX10_clashesAt_5 : decode cX10_clashesAt 5 = .ok (.iconst 0, 1) := by decide +kernel
theorem dX10_clashesAt_6 : decode cX10_clashesAt 6 = .ok (.istore_n 2, 1) := by decide +kernel
theorem dX10_clashesAt_7 : decode cX10_clashesAt 7 = .ok (.iconst 0, 1) := by decide +kernel
theorem dX10_clashesAt_8 : decode cX10_clashesAt 8 = .ok (.istore_n 3, 1) := by decide +kernel
theorem dX10_clashesAt_9 : decode cX10_clashesAt 9 = .ok (.iload_n 3, 1) := by decide +kernel
theorem dX10_clashesAt_10 : decode cX10_clashesAt 10 = .ok (.aload_n 0, 1) := by decide +kernel
theorem dX10_clashesAt_11 : decode cX10_clashesAt 11 = .ok (.getfield 7, 3) := by decide +kernel
theorem dX10_clashesAt_14 : decode cX10_clashesAt 14 = .ok (.bipush 103, 2) := by decide +kernel
theorem dX10_clashesAt_16 : decode cX10_clashesAt 16 = .ok (.iaload, 1) := by decide +kernel
theorem dX10_clashesAt_17 : decode cX10_clashesAt 17 = .ok (.if_icmp .ge 18, 3) := by decide +kernel
theorem dX10_clashesAt_20 : decode cX10_clashesAt 20 = .ok (.iload_n 2, 1) := by decide +kernel
theorem dX10_clashesAt_21 : decode cX10_clashesAt 21 = .ok (.aload_n 0, 1) := by decide +kernel
theorem dX10_clashesAt_22 : decode cX10_clashesAt 22 = .ok (.iload_n 3, 1) := by decide +kernel
theorem dX10_clashesAt_23 : decode cX10_clashesAt 23 = .ok (.iconst 0, 1) := by decide +kernel
theorem dX10_clashesAt_24 : decode cX10_clashesAt 24 = .ok (.invokevirtual 242, 3) := by decide +kernel
theorem dX10_clashesAt_27 : decode cX10_clashesAt 27 = .ok (.iadd, 1) := by decide +kernel
theorem dX10_clashesAt_28 : decode cX10_clashesAt 28 = .ok (.istore_n 2, 1) := by decide +kernel
theorem dX10_clashesAt_29 : decode cX10_clashesAt 29 = .ok (.iinc 3 1, 3) := by decide +kernel
theorem dX10_clashesAt_32 : decode cX10_clashesAt 32 = .ok (.goto (-23), 3) := by decide +kernel
theorem dX10_clashesAt_35 : decode cX10_clashesAt 35 = .ok (.iload_n 2, 1) := by decide +kernel
theorem dX10_clashesAt_36 : decode cX10_clashesAt 36 = .ok (.iconst 2, 1) := by decide +kernel
theorem dX10_clashesAt_37 : decode cX10_clashesAt 37 = .ok (.idiv, 1) := by decide +kernel
theorem dX10_clashesAt_38 : decode cX10_clashesAt 38 = .ok (.ireturn, 1) := by decide +kernel
theorem dX10_firstClash_0 : decode cX10_firstClash 0 = .ok (.iconst 0, 1) := by decide +kernel
theorem dX10_firstClash_1 : decode cX10_firstClash 1 = .ok (.istore_n 1, 1) := by decide +kernel
theorem dX10_firstClash_2 : decode cX10_firstClash 2 = .ok (.iload_n 1, 1) := by decide +kernel
theorem dX10_firstClash_3 : decode cX10_firstClash 3 = .ok (.aload_n 0, 1) := by decide +kernel
theorem dX10_firstClash_4 : decode cX10_firstClash 4 = .ok (.getfield 7, 3) := by decide +kernel
theorem dX10_firstClash_7 : decode cX10_firstClash 7 = .ok (.bipush 103, 2) := by decide +kernel
theorem dX10_firstClash_9 : decode cX10_firstClash 9 = .ok (.iaload, 1) := by decide +kernel
theorem dX10_firstClash_10 : decode cX10_firstClash 10 = .ok (.if_icmp .ge 73, 3) := by decide +kernel
theorem dX10_firstClash_13 : decode cX10_firstClash 13 = .ok (.iload_n 1, 1) := by decide +kernel
theorem dX10_firstClash_14 : decode cX10_firstClash 14 = .ok (.iconst 1, 1) := by decide +kernel
theorem dX10_firstClash_15 : decode cX10_firstClash 15 = .ok (.iadd, 1) := by decide +kernel
theorem dX10_firstClash_16 : decode cX10_firstClash 16 = .ok (.istore_n 2, 1) := by decide +kernel
theorem dX10_firstClash_17 : decode cX10_firstClash 17 = .ok (.iload_n 2, 1) := by decide +kernel
theorem dX10_firstClash_18 : decode cX10_firstClash 18 = .ok (.aload_n 0, 1) := by decide +kernel
theorem dX10_firstClash_19 : decode cX10_firstClash 19 = .ok (.getfield 7, 3) := by decide +kernel
theorem dX10_firstClash_22 : decode cX10_firstClash 22 = .ok (.bipush 103, 2) := by decide +kernel
theorem dX10_firstClash_24 : decode cX10_firstClash 24 = .ok (.iaload, 1) := by decide +kernel
theorem dX10_firstClash_25 : decode cX10_firstClash 25 = .ok (.if_icmp .ge 52, 3) := by decide +kernel
theorem dX10_firstClash_28 : decode cX10_firstClash 28 = .ok (.iconst 0, 1) := by decide +kernel
theorem dX10_firstClash_29 : decode cX10_firstClash 29 = .ok (.istore_n 3, 1) := by decide +kernel
theorem dX10_firstClash_30 : decode cX10_firstClash 30 = .ok (.iload_n 3, 1) := by decide +kernel
theorem dX10_firstClash_31 : decode cX10_firstClash 31 = .ok (.aload_n 0, 1) := by decide +kernel
theorem dX10_firstClash_32 : decode cX10_firstClash 32 = .ok (.getfield 7, 3) := by decide +kernel
theorem dX10_firstClash_35 : decode cX10_firstClash 35 = .ok (.bipush 104, 2) := by decide +kernel
theorem dX10_firstClash_37 : decode cX10_firstClash 37 = .ok (.iaload, 1) := by decide +kernel
theorem dX10_firstClash_38 : decode cX10_firstClash 38 = .ok (.if_icmp .ge 33, 3) := by decide +kernel
theorem dX10_firstClash_41 : decode cX10_firstClash 41 = .ok (.aload_n 0, 1) := by decide +kernel
theorem dX10_firstClash_42 : decode cX10_firstClash 42 = .ok (.iload_n 1, 1) := by decide +kernel
theorem dX10_firstClash_43 : decode cX10_firstClash 43 = .ok (.iload_n 2, 1) := by decide +kernel
theorem dX10_firstClash_44 : decode cX10_firstClash 44 = .ok (.iload_n 3, 1) := by decide +kernel
theorem dX10_firstClash_45 : decode cX10_firstClash 45 = .ok (.iconst 0, 1) := by decide +kernel
theorem dX10_firstClash_46 : decode cX10_firstClash 46 = .ok (.invokevirtual 231, 3) := by decide +kernel
theorem dX10_firstClash_49 : decode cX10_firstClash 49 = .ok (.ifCond .eq 16, 3) := by decide +kernel
theorem dX10_firstClash_52 : decode cX10_firstClash 52 = .ok (.sipush 10000, 3) := by decide +kernel
theorem dX10_firstClash_55 : decode cX10_firstClash 55 = .ok (.iload_n 1, 1) := by decide +kernel
theorem dX10_firstClash_56 : decode cX10_firstClash 56 = .ok (.imul, 1) := by decide +kernel
theorem dX10_firstClash_57 : decode cX10_firstClash 57 = .ok (.bipush 100, 2) := by decide +kernel
theorem dX10_firstClash_59 : decode cX10_firstClash 59 = .ok (.iload_n 2, 1) := by decide +kernel
theorem dX10_firstClash_60 : decode cX10_firstClash 60 = .ok (.imul, 1) := by decide +kernel
theorem dX10_firstClash_61 : decode cX10_firstClash 61 = .ok (.iadd, 1) := by decide +kernel
theorem dX10_firstClash_62 : decode cX10_firstClash 62 = .ok (.iload_n 3, 1) := by decide +kernel
theorem dX10_firstClash_63 : decode cX10_firstClash 63 = .ok (.iadd, 1) := by decide +kernel
theorem dX10_firstClash_64 : decode cX10_firstClash 64 = .ok (.ireturn, 1) := by decide +kernel
theorem dX10_firstClash_65 : decode cX10_firstClash 65 = .ok (.iinc 3 1, 3) := by decide +kernel
theorem dX10_firstClash_68 : decode cX10_firstClash 68 = .ok (.goto (-38), 3) := by decide +kernel
theorem dX10_firstClash_71 : decode cX10_firstClash 71 = .ok (.iinc 2 1, 3) := by decide +kernel
theorem dX10_firstClash_74 : decode cX10_firstClash 74 = .ok (.goto (-57), 3) := by decide +kernel
theorem dX10_firstClash_77 : decode cX10_firstClash 77 = .ok (.iinc 1 1, 3) := by decide +kernel
theorem dX10_firstClash_80 : decode cX10_firstClash 80 = .ok (.goto (-78), 3) := by decide +kernel
theorem dX10_firstClash_83 : decode cX10_firstClash 83 = .ok (.iconst (-1), 1) := by decide +kernel
theorem dX10_firstClash_84 : decode cX10_firstClash 84 = .ok (.ireturn, 1) := by decide +kernel
theorem dX10_clashes_0 : decode cX10_clashes 0 = .ok (.iload_n 1, 1) := by decide +kernel
theorem dX10_clashes_1 : decode cX10_clashes 1 = .ok (.invokestatic 191, 3) := by decide +kernel
theorem dX10_clashes_4 : decode cX10_clashes 4 = .ok (.ifCond .eq 13, 3) := by decide +kernel
theorem dX10_clashes_7 : decode cX10_clashes 7 = .ok (.iload_n 2, 1) := by decide +kernel
theorem dX10_clashes_8 : decode cX10_clashes 8 = .ok (.i2l, 1) := by decide +kernel
theorem dX10_clashes_9 : decode cX10_clashes 9 = .ok (.lconst 0, 1) := by decide +kernel
theorem dX10_clashes_10 : decode cX10_clashes 10 = .ok (.lconst 1, 1) := by decide +kernel
theorem dX10_clashes_11 : decode cX10_clashes 11 = .ok (.invokestatic 66, 3) := by decide +kernel
theorem dX10_clashes_14 : decode cX10_clashes 14 = .ok (.ifCond .ne 9, 3) := by decide +kernel
theorem dX10_clashes_17 : decode cX10_clashes 17 = .ok (.aload_n 0, 1) := by decide +kernel
theorem dX10_clashes_18 : decode cX10_clashes 18 = .ok (.iconst 1, 1) := by decide +kernel
theorem dX10_clashes_19 : decode cX10_clashes 19 = .ok (.invokevirtual 131, 3) := by decide +kernel
theorem dX10_clashes_22 : decode cX10_clashes 22 = .ok (.ireturn, 1) := by decide +kernel
theorem dX10_clashes_23 : decode cX10_clashes 23 = .ok (.aload_n 0, 1) := by decide +kernel
theorem dX10_clashes_24 : decode cX10_clashes 24 = .ok (.iload_n 1, 1) := by decide +kernel
theorem dX10_clashes_25 : decode cX10_clashes 25 = .ok (.invokevirtual 245, 3) := by decide +kernel
theorem dX10_clashes_28 : decode cX10_clashes 28 = .ok (.istore_n 3, 1) := by decide +kernel
theorem dX10_clashes_29 : decode cX10_clashes 29 = .ok (.iload_n 2, 1) := by decide +kernel
theorem dX10_clashes_30 : decode cX10_clashes 30 = .ok (.ifCond .ne 7, 3) := by decide +kernel
theorem dX10_clashes_33 : decode cX10_clashes 33 = .ok (.iload_n 3, 1) := by decide +kernel
theorem dX10_clashes_34 : decode cX10_clashes 34 = .ok (.goto 7, 3) := by decide +kernel
theorem dX10_clashes_37 : decode cX10_clashes 37 = .ok (.aload_n 0, 1) := by decide +kernel
theorem dX10_clashes_38 : decode cX10_clashes 38 = .ok (.invokevirtual 248, 3) := by decide +kernel
theorem dX10_clashes_41 : decode cX10_clashes 41 = .ok (.ireturn, 1) := by decide +kernel
theorem dX10_clash_0 : decode cX10_clash 0 = .ok (.aload_n 0, 1) := by decide +kernel
theorem dX10_clash_1 : decode cX10_clash 1 = .ok (.iload_n 1, 1) := by decide +kernel
theorem dX10_clash_2 : decode cX10_clash 2 = .ok (.invokevirtual 170, 3) := by decide +kernel
theorem dX10_clash_5 : decode cX10_clash 5 = .ok (.ifCond .eq 10, 3) := by decide +kernel
theorem dX10_clash_8 : decode cX10_clash 8 = .ok (.iload_n 2, 1) := by decide +kernel
theorem dX10_clash_9 : decode cX10_clash 9 = .ok (.invokestatic 191, 3) := by decide +kernel
theorem dX10_clash_12 : decode cX10_clash 12 = .ok (.ifCond .ne 9, 3) := by decide +kernel
theorem dX10_clash_15 : decode cX10_clash 15 = .ok (.aload_n 0, 1) := by decide +kernel
theorem dX10_clash_16 : decode cX10_clash 16 = .ok (.iconst 1, 1) := by decide +kernel
theorem dX10_clash_17 : decode cX10_clash 17 = .ok (.invokevirtual 131, 3) := by decide +kernel
theorem dX10_clash_20 : decode cX10_clash 20 = .ok (.ireturn, 1) := by decide +kernel
theorem dX10_clash_21 : decode cX10_clash 21 = .ok (.aload_n 0, 1) := by decide +kernel
theorem dX10_clash_22 : decode cX10_clash 22 = .ok (.iload_n 2, 1) := by decide +kernel
theorem dX10_clash_23 : decode cX10_clash 23 = .ok (.invokevirtual 238, 3) := by decide +kernel
theorem dX10_clash_26 : decode cX10_clash 26 = .ok (.aload_n 0, 1) := by decide +kernel
theorem dX10_clash_27 : decode cX10_clash 27 = .ok (.iload_n 1, 1) := by decide +kernel
theorem dX10_clash_28 : decode cX10_clash 28 = .ok (.iconst 0, 1) := by decide +kernel
theorem dX10_clash_29 : decode cX10_clash 29 = .ok (.invokevirtual 242, 3) := by decide +kernel
theorem dX10_clash_32 : decode cX10_clash 32 = .ok (.ireturn, 1) := by decide +kernel
theorem dX10_quiet_0 : decode cX10_quiet 0 = .ok (.iload_n 1, 1) := by decide +kernel
theorem dX10_quiet_1 : decode cX10_quiet 1 = .ok (.i2l, 1) := by decide +kernel
theorem dX10_quiet_2 : decode cX10_quiet 2 = .ok (.lconst 0, 1) := by decide +kernel
theorem dX10_quiet_3 : decode cX10_quiet 3 = .ok (.lconst 1, 1) := by decide +kernel
theorem dX10_quiet_4 : decode cX10_quiet 4 = .ok (.invokestatic 66, 3) := by decide +kernel
theorem dX10_quiet_7 : decode cX10_quiet 7 = .ok (.ifCond .ne 9, 3) := by decide +kernel
theorem dX10_quiet_10 : decode cX10_quiet 10 = .ok (.aload_n 0, 1) := by decide +kernel
theorem dX10_quiet_11 : decode cX10_quiet 11 = .ok (.iconst 1, 1) := by decide +kernel
theorem dX10_quiet_12 : decode cX10_quiet 12 = .ok (.invokevirtual 131, 3) := by decide +kernel
theorem dX10_quiet_15 : decode cX10_quiet 15 = .ok (.ireturn, 1) := by decide +kernel
theorem dX10_quiet_16 : decode cX10_quiet 16 = .ok (.iconst 0, 1) := by decide +kernel
theorem dX10_quiet_17 : decode cX10_quiet 17 = .ok (.istore_n 2, 1) := by decide +kernel
theorem dX10_quiet_18 : decode cX10_quiet 18 = .ok (.ldc 251, 2) := by decide +kernel
theorem dX10_quiet_20 : decode cX10_quiet 20 = .ok (.istore_n 3, 1) := by decide +kernel
theorem dX10_quiet_21 : decode cX10_quiet 21 = .ok (.iconst 0, 1) := by decide +kernel
theorem dX10_quiet_22 : decode cX10_quiet 22 = .ok (.istore 4, 2) := by decide +kernel
theorem dX10_quiet_24 : decode cX10_quiet 24 = .ok (.iload 4, 2) := by decide +kernel
theorem dX10_quiet_26 : decode cX10_quiet 26 = .ok (.bipush 24, 2) := by decide +kernel
theorem dX10_quiet_28 : decode cX10_quiet 28 = .ok (.if_icmp .ge 43, 3) := by decide +kernel
theorem dX10_quiet_31 : decode cX10_quiet 31 = .ok (.aload_n 0, 1) := by decide +kernel
theorem dX10_quiet_32 : decode cX10_quiet 32 = .ok (.iload 4, 2) := by decide +kernel
theorem dX10_quiet_34 : decode cX10_quiet 34 = .ok (.invokevirtual 245, 3) := by decide +kernel
theorem dX10_quiet_37 : decode cX10_quiet 37 = .ok (.istore 5, 2) := by decide +kernel
theorem dX10_quiet_39 : decode cX10_quiet 39 = .ok (.iload 5, 2) := by decide +kernel
theorem dX10_quiet_41 : decode cX10_quiet 41 = .ok (.iload_n 3, 1) := by decide +kernel
theorem dX10_quiet_42 : decode cX10_quiet 42 = .ok (.if_icmp .ge 8, 3) := by decide +kernel
theorem dX10_quiet_45 : decode cX10_quiet 45 = .ok (.iload 4, 2) := by decide +kernel
theorem dX10_quiet_47 : decode cX10_quiet 47 = .ok (.goto 4, 3) := by decide +kernel
theorem dX10_quiet_50 : decode cX10_quiet 50 = .ok (.iload_n 2, 1) := by decide +kernel
theorem dX10_quiet_51 : decode cX10_quiet 51 = .ok (.istore_n 2, 1) := by decide +kernel
theorem dX10_quiet_52 : decode cX10_quiet 52 = .ok (.iload 5, 2) := by decide +kernel
theorem dX10_quiet_54 : decode cX10_quiet 54 = .ok (.iload_n 3, 1) := by decide +kernel
theorem dX10_quiet_55 : decode cX10_quiet 55 = .ok (.if_icmp .ge 8, 3) := by decide +kernel
theorem dX10_quiet_58 : decode cX10_quiet 58 = .ok (.iload 5, 2) := by decide +kernel
theorem dX10_quiet_60 : decode cX10_quiet 60 = .ok (.goto 4, 3) := by decide +kernel
theorem dX10_quiet_63 : decode cX10_quiet 63 = .ok (.iload_n 3, 1) := by decide +kernel
theorem dX10_quiet_64 : decode cX10_quiet 64 = .ok (.istore_n 3, 1) := by decide +kernel
theorem dX10_quiet_65 : decode cX10_quiet 65 = .ok (.iinc 4 1, 3) := by decide +kernel
theorem dX10_quiet_68 : decode cX10_quiet 68 = .ok (.goto (-44), 3) := by decide +kernel
theorem dX10_quiet_71 : decode cX10_quiet 71 = .ok (.iload_n 1, 1) := by decide +kernel
theorem dX10_quiet_72 : decode cX10_quiet 72 = .ok (.ifCond .ne 7, 3) := by decide +kernel
theorem dX10_quiet_75 : decode cX10_quiet 75 = .ok (.iload_n 2, 1) := by decide +kernel
theorem dX10_quiet_76 : decode cX10_quiet 76 = .ok (.goto 4, 3) := by decide +kernel
theorem dX10_quiet_79 : decode cX10_quiet 79 = .ok (.iload_n 3, 1) := by decide +kernel
theorem dX10_quiet_80 : decode cX10_quiet 80 = .ok (.ireturn, 1) := by decide +kernel
theorem dX10_apartOf_0 : decode cX10_apartOf 0 = .ok (.ldc 65, 2) := by decide +kernel
theorem dX10_apartOf_2 : decode cX10_apartOf 2 = .ok (.istore_n 3, 1) := by decide +kernel
theorem dX10_apartOf_3 : decode cX10_apartOf 3 = .ok (.iconst 0, 1) := by decide +kernel
theorem dX10_apartOf_4 : decode cX10_apartOf 4 = .ok (.istore 4, 2) := by decide +kernel
theorem dX10_apartOf_6 : decode cX10_apartOf 6 = .ok (.iload 4, 2) := by decide +kernel
theorem dX10_apartOf_8 : decode cX10_apartOf 8 = .ok (.aload_n 0, 1) := by decide +kernel
theorem dX10_apartOf_9 : decode cX10_apartOf 9 = .ok (.getfield 7, 3) := by decide +kernel
theorem dX10_apartOf_12 : decode cX10_apartOf 12 = .ok (.bipush 104, 2) := by decide +kernel
theorem dX10_apartOf_14 : decode cX10_apartOf 14 = .ok (.iaload, 1) := by decide +kernel
theorem dX10_apartOf_15 : decode cX10_apartOf 15 = .ok (.if_icmp .ge 89, 3) := by decide +kernel
theorem dX10_apartOf_18 : decode cX10_apartOf 18 = .ok (.aload_n 0, 1) := by decide +kernel
theorem dX10_apartOf_19 : decode cX10_apartOf 19 = .ok (.getfield 28, 3) := by decide +kernel
theorem dX10_apartOf_22 : decode cX10_apartOf 22 = .ok (.bipush 10, 2) := by decide +kernel
theorem dX10_apartOf_24 : decode cX10_apartOf 24 = .ok (.iload_n 1, 1) := by decide +kernel
theorem dX10_apartOf_25 : decode cX10_apartOf 25 = .ok (.imul, 1) := by decide +kernel
theorem dX10_apartOf_26 : decode cX10_apartOf 26 = .ok (.iload 4, 2) := by decide +kernel
theorem dX10_apartOf_28 : decode cX10_apartOf 28 = .ok (.iadd, 1) := by decide +kernel
theorem dX10_apartOf_29 : decode cX10_apartOf 29 = .ok (.baload, 1) := by decide +kernel
theorem dX10_apartOf_30 : decode cX10_apartOf 30 = .ok (.ifCond .eq 68, 3) := by decide +kernel
theorem dX10_apartOf_33 : decode cX10_apartOf 33 = .ok (.aload_n 0, 1) := by decide +kernel
theorem dX10_apartOf_34 : decode cX10_apartOf 34 = .ok (.getfield 28, 3) := by decide +kernel
theorem dX10_apartOf_37 : decode cX10_apartOf 37 = .ok (.bipush 10, 2) := by decide +kernel
theorem dX10_apartOf_39 : decode cX10_apartOf 39 = .ok (.iload_n 2, 1) := by decide +kernel
theorem dX10_apartOf_40 : decode cX10_apartOf 40 = .ok (.imul, 1) := by decide +kernel
theorem dX10_apartOf_41 : decode cX10_apartOf 41 = .ok (.iload 4, 2) := by decide +kernel
theorem dX10_apartOf_43 : decode cX10_apartOf 43 = .ok (.iadd, 1) := by decide +kernel
theorem dX10_apartOf_44 : decode cX10_apartOf 44 = .ok (.baload, 1) := by decide +kernel
theorem dX10_apartOf_45 : decode cX10_apartOf 45 = .ok (.ifCond .eq 53, 3) := by decide +kernel
theorem dX10_apartOf_48 : decode cX10_apartOf 48 = .ok (.aload_n 0, 1) := by decide +kernel
theorem dX10_apartOf_49 : decode cX10_apartOf 49 = .ok (.getfield 7, 3) := by decide +kernel
theorem dX10_apartOf_52 : decode cX10_apartOf 52 = .ok (.bipush 101, 2) := by decide +kernel
theorem dX10_apartOf_54 : decode cX10_apartOf 54 = .ok (.iaload, 1) := by decide +kernel
theorem dX10_apartOf_55 : decode cX10_apartOf 55 = .ok (.iconst 1, 1) := by decide +kernel
theorem dX10_apartOf_56 : decode cX10_apartOf 56 = .ok (.iadd, 1) := by decide +kernel
theorem dX10_apartOf_57 : decode cX10_apartOf 57 = .ok (.aload_n 0, 1) := by decide +kernel
theorem dX10_apartOf_58 : decode cX10_apartOf 58 = .ok (.getfield 25, 3) := by decide +kernel
theorem dX10_apartOf_61 : decode cX10_apartOf 61 = .ok (.bipush 10, 2) := by decide +kernel
theorem dX10_apartOf_63 : decode cX10_apartOf 63 = .ok (.iload_n 1, 1) := by decide +kernel
theorem dX10_apartOf_64 : decode cX10_apartOf 64 = .ok (.imul, 1) := by decide +kernel
theorem dX10_apartOf_65 : decode cX10_apartOf 65 = .ok (.iload 4, 2) := by decide +kernel
theorem dX10_apartOf_67 : decode cX10_apartOf 67 = .ok (.iadd, 1) := by decide +kernel
theorem dX10_apartOf_68 : decode cX10_apartOf 68 = .ok (.iaload, 1) := by decide +kernel
theorem dX10_apartOf_69 : decode cX10_apartOf 69 = .ok (.iadd, 1) := by decide +kernel
theorem dX10_apartOf_70 : decode cX10_apartOf 70 = .ok (.aload_n 0, 1) := by decide +kernel
theorem dX10_apartOf_71 : decode cX10_apartOf 71 = .ok (.getfield 25, 3) := by decide +kernel
theorem dX10_apartOf_74 : decode cX10_apartOf 74 = .ok (.bipush 10, 2) := by decide +kernel
theorem dX10_apartOf_76 : decode cX10_apartOf 76 = .ok (.iload_n 2, 1) := by decide +kernel
theorem dX10_apartOf_77 : decode cX10_apartOf 77 = .ok (.imul, 1) := by decide +kernel
theorem dX10_apartOf_78 : decode cX10_apartOf 78 = .ok (.iload 4, 2) := by decide +kernel
theorem dX10_apartOf_80 : decode cX10_apartOf 80 = .ok (.iadd, 1) := by decide +kernel
theorem dX10_apartOf_81 : decode cX10_apartOf 81 = .ok (.iaload, 1) := by decide +kernel
theorem dX10_apartOf_82 : decode cX10_apartOf 82 = .ok (.isub, 1) := by decide +kernel
theorem dX10_apartOf_83 : decode cX10_apartOf 83 = .ok (.istore 5, 2) := by decide +kernel
theorem dX10_apartOf_85 : decode cX10_apartOf 85 = .ok (.iload 5, 2) := by decide +kernel
theorem dX10_apartOf_87 : decode cX10_apartOf 87 = .ok (.iload_n 3, 1) := by decide +kernel
theorem dX10_apartOf_88 : decode cX10_apartOf 88 = .ok (.if_icmp .le 8, 3) := by decide +kernel
theorem dX10_apartOf_91 : decode cX10_apartOf 91 = .ok (.iload 5, 2) := by decide +kernel
theorem dX10_apartOf_93 : decode cX10_apartOf 93 = .ok (.goto 4, 3) := by decide +kernel
theorem dX10_apartOf_96 : decode cX10_apartOf 96 = .ok (.iload_n 3, 1) := by decide +kernel
theorem dX10_apartOf_97 : decode cX10_apartOf 97 = .ok (.istore_n 3, 1) := by decide +kernel
theorem dX10_apartOf_98 : decode cX10_apartOf 98 = .ok (.iinc 4 1, 3) := by decide +kernel
theorem dX10_apartOf_101 : decode cX10_apartOf 101 = .ok (.goto (-95), 3) := by decide +kernel
theorem dX10_apartOf_104 : decode cX10_apartOf 104 = .ok (.iload_n 3, 1) := by decide +kernel
theorem dX10_apartOf_105 : decode cX10_apartOf 105 = .ok (.ireturn, 1) := by decide +kernel
theorem dX10_apart_0 : decode cX10_apart 0 = .ok (.aload_n 0, 1) := by decide +kernel
theorem dX10_apart_1 : decode cX10_apart 1 = .ok (.iload_n 1, 1) := by decide +kernel
theorem dX10_apart_2 : decode cX10_apart 2 = .ok (.invokevirtual 170, 3) := by decide +kernel
theorem dX10_apart_5 : decode cX10_apart 5 = .ok (.ifCond .eq 23, 3) := by decide +kernel
theorem dX10_apart_8 : decode cX10_apart 8 = .ok (.aload_n 0, 1) := by decide +kernel
theorem dX10_apart_9 : decode cX10_apart 9 = .ok (.iload_n 2, 1) := by decide +kernel
theorem dX10_apart_10 : decode cX10_apart 10 = .ok (.invokevirtual 170, 3) := by decide +kernel
theorem dX10_apart_13 : decode cX10_apart 13 = .ok (.ifCond .eq 15, 3) := by decide +kernel
theorem dX10_apart_16 : decode cX10_apart 16 = .ok (.iload_n 1, 1) := by decide +kernel
theorem dX10_apart_17 : decode cX10_apart 17 = .ok (.iload_n 2, 1) := by decide +kernel
theorem dX10_apart_18 : decode cX10_apart 18 = .ok (.if_icmp .eq 10, 3) := by decide +kernel
theorem dX10_apart_21 : decode cX10_apart 21 = .ok (.iload_n 3, 1) := by decide +kernel
theorem dX10_apart_22 : decode cX10_apart 22 = .ok (.invokestatic 191, 3) := by decide +kernel
theorem dX10_apart_25 : decode cX10_apart 25 = .ok (.ifCond .ne 9, 3) := by decide +kernel
theorem dX10_apart_28 : decode cX10_apart 28 = .ok (.aload_n 0, 1) := by decide +kernel
theorem dX10_apart_29 : decode cX10_apart 29 = .ok (.iconst 1, 1) := by decide +kernel
theorem dX10_apart_30 : decode cX10_apart 30 = .ok (.invokevirtual 131, 3) := by decide +kernel
theorem dX10_apart_33 : decode cX10_apart 33 = .ok (.ireturn, 1) := by decide +kernel
theorem dX10_apart_34 : decode cX10_apart 34 = .ok (.aload_n 0, 1) := by decide +kernel
theorem dX10_apart_35 : decode cX10_apart 35 = .ok (.iload_n 3, 1) := by decide +kernel
theorem dX10_apart_36 : decode cX10_apart 36 = .ok (.invokevirtual 238, 3) := by decide +kernel
theorem dX10_apart_39 : decode cX10_apart 39 = .ok (.aload_n 0, 1) := by decide +kernel
theorem dX10_apart_40 : decode cX10_apart 40 = .ok (.iload_n 1, 1) := by decide +kernel
theorem dX10_apart_41 : decode cX10_apart 41 = .ok (.iload_n 2, 1) := by decide +kernel
theorem dX10_apart_42 : decode cX10_apart 42 = .ok (.invokevirtual 252, 3) := by decide +kernel
theorem dX10_apart_45 : decode cX10_apart 45 = .ok (.istore 4, 2) := by decide +kernel
theorem dX10_apart_47 : decode cX10_apart 47 = .ok (.iload 4, 2) := by decide +kernel
theorem dX10_apart_49 : decode cX10_apart 49 = .ok (.ldc 65, 2) := by decide +kernel
theorem dX10_apart_51 : decode cX10_apart 51 = .ok (.if_icmp .ne 11, 3) := by decide +kernel
theorem dX10_apart_54 : decode cX10_apart 54 = .ok (.aload_n 0, 1) := by decide +kernel
theorem dX10_apart_55 : decode cX10_apart 55 = .ok (.iconst 2, 1) := by decide +kernel
theorem dX10_apart_56 : decode cX10_apart 56 = .ok (.invokevirtual 131, 3) := by decide +kernel
theorem dX10_apart_59 : decode cX10_apart 59 = .ok (.goto 5, 3) := by decide +kernel
theorem dX10_apart_62 : decode cX10_apart 62 = .ok (.iload 4, 2) := by decide +kernel
theorem dX10_apart_64 : decode cX10_apart 64 = .ok (.ireturn, 1) := by decide +kernel
theorem dX10_isAhead_0 : decode cX10_isAhead 0 = .ok (.aload_n 0, 1) := by decide +kernel
theorem dX10_isAhead_1 : decode cX10_isAhead 1 = .ok (.iload_n 1, 1) := by decide +kernel
theorem dX10_isAhead_2 : decode cX10_isAhead 2 = .ok (.iconst 4, 1) := by decide +kernel
theorem dX10_isAhead_3 : decode cX10_isAhead 3 = .ok (.invokevirtual 175, 3) := by decide +kernel
theorem dX10_isAhead_6 : decode cX10_isAhead 6 = .ok (.aload_n 0, 1) := by decide +kernel
theorem dX10_isAhead_7 : decode cX10_isAhead 7 = .ok (.iload_n 2, 1) := by decide +kernel
theorem dX10_isAhead_8 : decode cX10_isAhead 8 = .ok (.iconst 4, 1) := by decide +kernel
theorem dX10_isAhead_9 : decode cX10_isAhead 9 = .ok (.invokevirtual 175, 3) := by decide +kernel
theorem dX10_isAhead_12 : decode cX10_isAhead 12 = .ok (.if_icmp .lt 23, 3) := by decide +kernel
theorem dX10_isAhead_15 : decode cX10_isAhead 15 = .ok (.aload_n 0, 1) := by decide +kernel
theorem dX10_isAhead_16 : decode cX10_isAhead 16 = .ok (.iload_n 1, 1) := by decide +kernel
theorem dX10_isAhead_17 : decode cX10_isAhead 17 = .ok (.iconst 4, 1) := by decide +kernel
theorem dX10_isAhead_18 : decode cX10_isAhead 18 = .ok (.invokevirtual 175, 3) := by decide +kernel
theorem dX10_isAhead_21 : decode cX10_isAhead 21 = .ok (.aload_n 0, 1) := by decide +kernel
theorem dX10_isAhead_22 : decode cX10_isAhead 22 = .ok (.iload_n 2, 1) := by decide +kernel
theorem dX10_isAhead_23 : decode cX10_isAhead 23 = .ok (.iconst 4, 1) := by decide +kernel
theorem dX10_isAhead_24 : decode cX10_isAhead 24 = .ok (.invokevirtual 175, 3) := by decide +kernel
theorem dX10_isAhead_27 : decode cX10_isAhead 27 = .ok (.if_icmp .ne 12, 3) := by decide +kernel
theorem dX10_isAhead_30 : decode cX10_isAhead 30 = .ok (.iload_n 1, 1) := by decide +kernel
theorem dX10_isAhead_31 : decode cX10_isAhead 31 = .ok (.iload_n 2, 1) := by decide +kernel
theorem dX10_isAhead_32 : decode cX10_isAhead 32 = .ok (.if_icmp .ge 7, 3) := by decide +kernel
theorem dX10_isAhead_35 : decode cX10_isAhead 35 = .ok (.iconst 1, 1) := by decide +kernel
theorem dX10_isAhead_36 : decode cX10_isAhead 36 = .ok (.goto 4, 3) := by decide +kernel
theorem dX10_isAhead_39 : decode cX10_isAhead 39 = .ok (.iconst 0, 1) := by decide +kernel
theorem dX10_isAhead_40 : decode cX10_isAhead 40 = .ok (.ireturn, 1) := by decide +kernel
theorem dX10_findOrder_0 : decode cX10_findOrder 0 = .ok (.aload_n 0, 1) := by decide +kernel
theorem dX10_findOrder_1 : decode cX10_findOrder 1 = .ok (.iload_n 1, 1) := by decide +kernel
theorem dX10_findOrder_2 : decode cX10_findOrder 2 = .ok (.invokevirtual 238, 3) := by decide +kernel
theorem dX10_findOrder_5 : decode cX10_findOrder 5 = .ok (.aload_n 0, 1) := by decide +kernel
theorem dX10_findOrder_6 : decode cX10_findOrder 6 = .ok (.iconst 0, 1) := by decide +kernel
theorem dX10_findOrder_7 : decode cX10_findOrder 7 = .ok (.putfield 255, 3) := by decide +kernel
theorem dX10_findOrder_10 : decode cX10_findOrder 10 = .ok (.iconst 0, 1) := by decide +kernel
theorem dX10_findOrder_11 : decode cX10_findOrder 11 = .ok (.istore_n 2, 1) := by decide +kernel
theorem dX10_findOrder_12 : decode cX10_findOrder 12 = .ok (.iload_n 2, 1) := by decide +kernel
theorem dX10_findOrder_13 : decode cX10_findOrder 13 = .ok (.aload_n 0, 1) := by decide +kernel
theorem dX10_findOrder_14 : decode cX10_findOrder 14 = .ok (.getfield 7, 3) := by decide +kernel
theorem dX10_findOrder_17 : decode cX10_findOrder 17 = .ok (.bipush 103, 2) := by decide +kernel
theorem dX10_findOrder_19 : decode cX10_findOrder 19 = .ok (.iaload, 1) := by decide +kernel
theorem dX10_findOrder_20 : decode cX10_findOrder 20 = .ok (.if_icmp .ge 80, 3) := by decide +kernel
theorem dX10_findOrder_23 : decode cX10_findOrder 23 = .ok (.aload_n 0, 1) := by decide +kernel
theorem dX10_findOrder_24 : decode cX10_findOrder 24 = .ok (.iload_n 2, 1) := by decide +kernel
theorem dX10_findOrder_25 : decode cX10_findOrder 25 = .ok (.iload_n 1, 1) := by decide +kernel
theorem dX10_findOrder_26 : decode cX10_findOrder 26 = .ok (.invokevirtual 194, 3) := by decide +kernel
theorem dX10_findOrder_29 : decode cX10_findOrder 29 = .ok (.ifCond .eq 65, 3) := by decide +kernel
theorem dX10_findOrder_32 : decode cX10_findOrder 32 = .ok (.aload_n 0, 1) := by decide +kernel
theorem dX10_findOrder_33 : decode cX10_findOrder 33 = .ok (.getfield 255, 3) := by decide +kernel
theorem dX10_findOrder_36 : decode cX10_findOrder 36 = .ok (.istore_n 3, 1) := by decide +kernel
theorem dX10_findOrder_37 : decode cX10_findOrder 37 = .ok (.iload_n 3, 1) := by decide +kernel
theorem dX10_findOrder_38 : decode cX10_findOrder 38 = .ok (.ifCond .le 39, 3) := by decide +kernel
theorem dX10_findOrder_41 : decode cX10_findOrder 41 = .ok (.aload_n 0, 1) := by decide +kernel
theorem dX10_findOrder_42 : decode cX10_findOrder 42 = .ok (.iload_n 2, 1) := by decide +kernel
theorem dX10_findOrder_43 : decode cX10_findOrder 43 = .ok (.aload_n 0, 1) := by decide +kernel
theorem dX10_findOrder_44 : decode cX10_findOrder 44 = .ok (.getfield 32, 3) := by decide +kernel
theorem dX10_findOrder_47 : decode cX10_findOrder 47 = .ok (.iload_n 3, 1) := by decide +kernel
theorem dX10_findOrder_48 : decode cX10_findOrder 48 = .ok (.iconst 1, 1) := by decide +kernel
theorem dX10_findOrder_49 : decode cX10_findOrder 49 = .ok (.isub, 1) := by decide +kernel
theorem dX10_findOrder_50 : decode cX10_findOrder 50 = .ok (.iaload, 1) := by decide +kernel
theorem dX10_findOrder_51 : decode cX10_findOrder 51 = .ok (.invokevirtual 258, 3) := by decide +kernel
theorem dX10_findOrder_54 : decode cX10_findOrder 54 = .ok (.ifCond .eq 23, 3) := by decide +kernel
theorem dX10_findOrder_57 : decode cX10_findOrder 57 = .ok (.aload_n 0, 1) := by decide +kernel
theorem dX10_findOrder_58 : decode cX10_findOrder 58 = .ok (.getfield 32, 3) := by decide +kernel
theorem dX10_findOrder_61 : decode cX10_findOrder 61 = .ok (.iload_n 3, 1) := by decide +kernel
theorem dX10_findOrder_62 : decode cX10_findOrder 62 = .ok (.aload_n 0, 1) := by decide +kernel
theorem dX10_findOrder_63 : decode cX10_findOrder 63 = .ok (.getfield 32, 3) := by decide +kernel
theorem dX10_findOrder_66 : decode cX10_findOrder 66 = .ok (.iload_n 3, 1) := by decide +kernel
theorem dX10_findOrder_67 : decode cX10_findOrder 67 = .ok (.iconst 1, 1) := by decide +kernel
theorem dX10_findOrder_68 : decode cX10_findOrder 68 = .ok (.isub, 1) := by decide +kernel
theorem dX10_findOrder_69 : decode cX10_findOrder 69 = .ok (.iaload, 1) := by decide +kernel
theorem dX10_findOrder_70 : decode cX10_findOrder 70 = .ok (.iastore, 1) := by decide +kernel
theorem dX10_findOrder_71 : decode cX10_findOrder 71 = .ok (.iinc 3 (-1), 3) := by decide +kernel
theorem dX10_findOrder_74 : decode cX10_findOrder 74 = .ok (.goto (-37), 3) := by decide +kernel
theorem dX10_findOrder_77 : decode cX10_findOrder 77 = .ok (.aload_n 0, 1) := by decide +kernel
theorem dX10_findOrder_78 : decode cX10_findOrder 78 = .ok (.getfield 32, 3) := by decide +kernel
theorem dX10_findOrder_81 : decode cX10_findOrder 81 = .ok (.iload_n 3, 1) := by decide +kernel
theorem dX10_findOrder_82 : decode cX10_findOrder 82 = .ok (.iload_n 2, 1) := by decide +kernel
theorem dX10_findOrder_83 : decode cX10_findOrder 83 = .ok (.iastore, 1) := by decide +kernel
theorem dX10_findOrder_84 : decode cX10_findOrder 84 = .ok (.aload_n 0, 1) := by decide +kernel
theorem dX10_findOrder_85 : decode cX10_findOrder 85 = .ok (.dup, 1) := by decide +kernel
theorem dX10_findOrder_86 : decode cX10_findOrder 86 = .ok (.getfield 255, 3) := by decide +kernel
theorem dX10_findOrder_89 : decode cX10_findOrder 89 = .ok (.iconst 1, 1) := by decide +kernel
theorem dX10_findOrder_90 : decode cX10_findOrder 90 = .ok (.iadd, 1) := by decide +kernel
theorem dX10_findOrder_91 : decode cX10_findOrder 91 = .ok (.putfield 255, 3) := by decide +kernel
theorem dX10_findOrder_94 : decode cX10_findOrder 94 = .ok (.iinc 2 1, 3) := by decide +kernel
theorem dX10_findOrder_97 : decode cX10_findOrder 97 = .ok (.goto (-85), 3) := by decide +kernel
theorem dX10_findOrder_100 : decode cX10_findOrder 100 = .ok (.iconst 0, 1) := by decide +kernel
theorem dX10_findOrder_101 : decode cX10_findOrder 101 = .ok (.istore_n 2, 1) := by decide +kernel
theorem dX10_findOrder_102 : decode cX10_findOrder 102 = .ok (.iload_n 2, 1) := by decide +kernel
theorem dX10_findOrder_103 : decode cX10_findOrder 103 = .ok (.aload_n 0, 1) := by decide +kernel
theorem dX10_findOrder_104 : decode cX10_findOrder 104 = .ok (.getfield 255, 3) := by decide +kernel
theorem dX10_findOrder_107 : decode cX10_findOrder 107 = .ok (.if_icmp .ge 54, 3) := by decide +kernel
theorem dX10_findOrder_110 : decode cX10_findOrder 110 = .ok (.iload_n 2, 1) := by decide +kernel
theorem dX10_findOrder_111 : decode cX10_findOrder 111 = .ok (.iconst 1, 1) := by decide +kernel
theorem dX10_findOrder_112 : decode cX10_findOrder 112 = .ok (.iadd, 1) := by decide +kernel
theorem dX10_findOrder_113 : decode cX10_findOrder 113 = .ok (.istore_n 3, 1) := by decide +kernel
theorem dX10_findOrder_114 : decode cX10_findOrder 114 = .ok (.iload_n 3, 1) := by decide +kernel
theorem dX10_findOrder_115 : decode cX10_findOrder 115 = .ok (.aload_n 0, 1) := by decide +kernel
theorem dX10_findOrder_116 : decode cX10_findOrder 116 = .ok (.getfield 255, 3) := by decide +kernel
theorem dX10_findOrder_119 : decode cX10_findOrder 119 = .ok (.if_icmp .ge 36, 3) := by decide +kernel
theorem dX10_findOrder_122 : decode cX10_findOrder 122 = .ok (.aload_n 0, 1) := by decide +kernel
theorem dX10_findOrder_123 : decode cX10_findOrder 123 = .ok (.getfield 35, 3) := by decide +kernel
theorem dX10_findOrder_126 : decode cX10_findOrder 126 = .ok (.bipush 8, 2) := by decide +kernel
theorem dX10_findOrder_128 : decode cX10_findOrder 128 = .ok (.iload_n 2, 1) := by decide +kernel
theorem dX10_findOrder_129 : decode cX10_findOrder 129 = .ok (.imul, 1) := by decide +kernel
theorem dX10_findOrder_130 : decode cX10_findOrder 130 = .ok (.iload_n 3, 1) := by decide +kernel
theorem dX10_findOrder_131 : decode cX10_findOrder 131 = .ok (.iadd, 1) := by decide +kernel
theorem dX10_findOrder_132 : decode cX10_findOrder 132 = .ok (.aload_n 0, 1) := by decide +kernel
theorem dX10_findOrder_133 : decode cX10_findOrder 133 = .ok (.aload_n 0, 1) := by decide +kernel
theorem dX10_findOrder_134 : decode cX10_findOrder 134 = .ok (.getfield 32, 3) := by decide +kernel
theorem dX10_findOrder_137 : decode cX10_findOrder 137 = .ok (.iload_n 2, 1) := by decide +kernel
theorem dX10_findOrder_138 : decode cX10_findOrder 138 = .ok (.iaload, 1) := by decide +kernel
theorem dX10_findOrder_139 : decode cX10_findOrder 139 = .ok (.aload_n 0, 1) := by decide +kernel
theorem dX10_findOrder_140 : decode cX10_findOrder 140 = .ok (.getfield 32, 3) := by decide +kernel
theorem dX10_findOrder_143 : decode cX10_findOrder 143 = .ok (.iload_n 3, 1) := by decide +kernel
theorem dX10_findOrder_144 : decode cX10_findOrder 144 = .ok (.iaload, 1) := by decide +kernel
theorem dX10_findOrder_145 : decode cX10_findOrder 145 = .ok (.invokevirtual 252, 3) := by decide +kernel
theorem dX10_findOrder_148 : decode cX10_findOrder 148 = .ok (.iastore, 1) := by decide +kernel
theorem dX10_findOrder_149 : decode cX10_findOrder 149 = .ok (.iinc 3 1, 3) := by decide +kernel
theorem dX10_findOrder_152 : decode cX10_findOrder 152 = .ok (.goto (-38), 3) := by decide +kernel
theorem dX10_findOrder_155 : decode cX10_findOrder 155 = .ok (.iinc 2 1, 3) := by decide +kernel
theorem dX10_findOrder_158 : decode cX10_findOrder 158 = .ok (.goto (-56), 3) := by decide +kernel
theorem dX10_findOrder_161 : decode cX10_findOrder 161 = .ok (.return_, 1) := by decide +kernel
theorem dX10_findSlates_0 : decode cX10_findSlates 0 = .ok (.iconst 1, 1) := by decide +kernel
theorem dX10_findSlates_1 : decode cX10_findSlates 1 = .ok (.istore_n 2, 1) := by decide +kernel
theorem dX10_findSlates_2 : decode cX10_findSlates 2 = .ok (.iconst 0, 1) := by decide +kernel
theorem dX10_findSlates_3 : decode cX10_findSlates 3 = .ok (.istore_n 3, 1) := by decide +kernel
theorem dX10_findSlates_4 : decode cX10_findSlates 4 = .ok (.iload_n 3, 1) := by decide +kernel
theorem dX10_findSlates_5 : decode cX10_findSlates 5 = .ok (.aload_n 0, 1) := by decide +kernel
theorem dX10_findSlates_6 : decode cX10_findSlates 6 = .ok (.getfield 255, 3) := by decide +kernel
theorem dX10_findSlates_9 : decode cX10_findSlates 9 = .ok (.if_icmp .ge 142, 3) := by decide +kernel
theorem dX10_findSlates_12 : decode cX10_findSlates 12 = .ok (.aload_n 0, 1) := by decide +kernel
theorem dX10_findSlates_13 : decode cX10_findSlates 13 = .ok (.getfield 38, 3) := by decide +kernel
theorem dX10_findSlates_16 : decode cX10_findSlates 16 = .ok (.iload_n 3, 1) := by decide +kernel
theorem dX10_findSlates_17 : decode cX10_findSlates 17 = .ok (.aload_n 0, 1) := by decide +kernel
theorem dX10_findSlates_18 : decode cX10_findSlates 18 = .ok (.aload_n 0, 1) := by decide +kernel
theorem dX10_findSlates_19 : decode cX10_findSlates 19 = .ok (.getfield 32, 3) := by decide +kernel
theorem dX10_findSlates_22 : decode cX10_findSlates 22 = .ok (.iload_n 3, 1) := by decide +kernel
theorem dX10_findSlates_23 : decode cX10_findSlates 23 = .ok (.iaload, 1) := by decide +kernel
theorem dX10_findSlates_24 : decode cX10_findSlates 24 = .ok (.iconst 4, 1) := by decide +kernel
theorem dX10_findSlates_25 : decode cX10_findSlates 25 = .ok (.invokevirtual 175, 3) := by decide +kernel
theorem dX10_findSlates_28 : decode cX10_findSlates 28 = .ok (.iload_n 1, 1) := by decide +kernel
theorem dX10_findSlates_29 : decode cX10_findSlates 29 = .ok (.isub, 1) := by decide +kernel
theorem dX10_findSlates_30 : decode cX10_findSlates 30 = .ok (.iastore, 1) := by decide +kernel
theorem dX10_findSlates_31 : decode cX10_findSlates 31 = .ok (.iconst 0, 1) := by decide +kernel
theorem dX10_findSlates_32 : decode cX10_findSlates 32 = .ok (.istore 4, 2) := by decide +kernel
theorem dX10_findSlates_34 : decode cX10_findSlates 34 = .ok (.iload 4, 2) := by decide +kernel
theorem dX10_findSlates_36 : decode cX10_findSlates 36 = .ok (.iload_n 3, 1) := by decide +kernel
theorem dX10_findSlates_37 : decode cX10_findSlates 37 = .ok (.if_icmp .ge 76, 3) := by decide +kernel
theorem dX10_findSlates_40 : decode cX10_findSlates 40 = .ok (.aload_n 0, 1) := by decide +kernel
theorem dX10_findSlates_41 : decode cX10_findSlates 41 = .ok (.getfield 38, 3) := by decide +kernel
theorem dX10_findSlates_44 : decode cX10_findSlates 44 = .ok (.iload 4, 2) := by decide +kernel
theorem dX10_findSlates_46 : decode cX10_findSlates 46 = .ok (.iaload, 1) := by decide +kernel
theorem dX10_findSlates_47 : decode cX10_findSlates 47 = .ok (.aload_n 0, 1) := by decide +kernel
theorem dX10_findSlates_48 : decode cX10_findSlates 48 = .ok (.getfield 35, 3) := by decide +kernel
theorem dX10_findSlates_51 : decode cX10_findSlates 51 = .ok (.bipush 8, 2) := by decide +kernel
theorem dX10_findSlates_53 : decode cX10_findSlates 53 = .ok (.iload 4, 2) := by decide +kernel
theorem dX10_findSlates_55 : decode cX10_findSlates 55 = .ok (.imul, 1) := by decide +kernel
theorem dX10_findSlates_56 : decode cX10_findSlates 56 = .ok (.iload_n 3, 1) := by decide +kernel
theorem dX10_findSlates_57 : decode cX10_findSlates 57 = .ok (.iadd, 1) := by decide +kernel
theorem dX10_findSlates_58 : decode cX10_findSlates 58 = .ok (.iaload, 1) := by decide +kernel
theorem dX10_findSlates_59 : decode cX10_findSlates 59 = .ok (.iadd, 1) := by decide +kernel
theorem dX10_findSlates_60 : decode cX10_findSlates 60 = .ok (.istore 5, 2) := by decide +kernel
theorem dX10_findSlates_62 : decode cX10_findSlates 62 = .ok (.aload_n 0, 1) := by decide +kernel
theorem dX10_findSlates_63 : decode cX10_findSlates 63 = .ok (.getfield 38, 3) := by decide +kernel
theorem dX10_findSlates_66 : decode cX10_findSlates 66 = .ok (.iload_n 3, 1) := by decide +kernel
theorem dX10_findSlates_67 : decode cX10_findSlates 67 = .ok (.aload_n 0, 1) := by decide +kernel
theorem dX10_findSlates_68 : decode cX10_findSlates 68 = .ok (.getfield 35, 3) := by decide +kernel
theorem dX10_findSlates_71 : decode cX10_findSlates 71 = .ok (.bipush 8, 2) := by decide +kernel
theorem dX10_findSlates_73 : decode cX10_findSlates 73 = .ok (.iload 4, 2) := by decide +kernel
theorem dX10_findSlates_75 : decode cX10_findSlates 75 = .ok (.imul, 1) := by decide +kernel
theorem dX10_findSlates_76 : decode cX10_findSlates 76 = .ok (.iload_n 3, 1) := by decide +kernel
theorem dX10_findSlates_77 : decode cX10_findSlates 77 = .ok (.iadd, 1) := by decide +kernel
theorem dX10_findSlates_78 : decode cX10_findSlates 78 = .ok (.iaload, 1) := by decide +kernel
theorem dX10_findSlates_79 : decode cX10_findSlates 79 = .ok (.ldc 65, 2) := by decide +kernel
theorem dX10_findSlates_81 : decode cX10_findSlates 81 = .ok (.if_icmp .le 19, 3) := by decide +kernel
theorem dX10_findSlates_84 : decode cX10_findSlates 84 = .ok (.iload 5, 2) := by decide +kernel
theorem dX10_findSlates_86 : decode cX10_findSlates 86 = .ok (.aload_n 0, 1) := by decide +kernel
theorem dX10_findSlates_87 : decode cX10_findSlates 87 = .ok (.getfield 38, 3) := by decide +kernel
theorem dX10_findSlates_90 : decode cX10_findSlates 90 = .ok (.iload_n 3, 1) := by decide +kernel
theorem dX10_findSlates_91 : decode cX10_findSlates 91 = .ok (.iaload, 1) := by decide +kernel
theorem dX10_findSlates_92 : decode cX10_findSlates 92 = .ok (.if_icmp .le 8, 3) := by decide +kernel
theorem dX10_findSlates_95 : decode cX10_findSlates 95 = .ok (.iload 5, 2) := by decide +kernel
theorem dX10_findSlates_97 : decode cX10_findSlates 97 = .ok (.goto 9, 3) := by decide +kernel
theorem dX10_findSlates_100 : decode cX10_findSlates 100 = .ok (.aload_n 0, 1) := by decide +kernel
theorem dX10_findSlates_101 : decode cX10_findSlates 101 = .ok (.getfield 38, 3) := by decide +kernel
theorem dX10_findSlates_104 : decode cX10_findSlates 104 = .ok (.iload_n 3, 1) := by decide +kernel
theorem dX10_findSlates_105 : decode cX10_findSlates 105 = .ok (.iaload, 1) := by decide +kernel
theorem dX10_findSlates_106 : decode cX10_findSlates 106 = .ok (.iastore, 1) := by decide +kernel
theorem dX10_findSlates_107 : decode cX10_findSlates 107 = .ok (.iinc 4 1, 3) := by decide +kernel
theorem dX10_findSlates_110 : decode cX10_findSlates 110 = .ok (.goto (-76), 3) := by decide +kernel
theorem dX10_findSlates_113 : decode cX10_findSlates 113 = .ok (.iload_n 2, 1) := by decide +kernel
theorem dX10_findSlates_114 : decode cX10_findSlates 114 = .ok (.ifCond .eq 29, 3) := by decide +kernel
theorem dX10_findSlates_117 : decode cX10_findSlates 117 = .ok (.aload_n 0, 1) := by decide +kernel
theorem dX10_findSlates_118 : decode cX10_findSlates 118 = .ok (.getfield 38, 3) := by decide +kernel
theorem dX10_findSlates_121 : decode cX10_findSlates 121 = .ok (.iload_n 3, 1) := by decide +kernel
theorem dX10_findSlates_122 : decode cX10_findSlates 122 = .ok (.iaload, 1) := by decide +kernel
theorem dX10_findSlates_123 : decode cX10_findSlates 123 = .ok (.aload_n 0, 1) := by decide +kernel
theorem dX10_findSlates_124 : decode cX10_findSlates 124 = .ok (.aload_n 0, 1) := by decide +kernel
theorem dX10_findSlates_125 : decode cX10_findSlates 125 = .ok (.getfield 32, 3) := by decide +kernel
theorem dX10_findSlates_128 : decode cX10_findSlates 128 = .ok (.iload_n 3, 1) := by decide +kernel
theorem dX10_findSlates_129 : decode cX10_findSlates 129 = .ok (.iaload, 1) := by decide +kernel
theorem dX10_findSlates_130 : decode cX10_findSlates 130 = .ok (.iconst 4, 1) := by decide +kernel
theorem dX10_findSlates_131 : decode cX10_findSlates 131 = .ok (.invokevirtual 175, 3) := by decide +kernel
theorem dX10_findSlates_134 : decode cX10_findSlates 134 = .ok (.iload_n 1, 1) := by decide +kernel
theorem dX10_findSlates_135 : decode cX10_findSlates 135 = .ok (.iadd, 1) := by decide +kernel
theorem dX10_findSlates_136 : decode cX10_findSlates 136 = .ok (.if_icmp .gt 7, 3) := by decide +kernel
theorem dX10_findSlates_139 : decode cX10_findSlates 139 = .ok (.iconst 1, 1) := by decide +kernel
theorem dX10_findSlates_140 : decode cX10_findSlates 140 = .ok (.goto 4, 3) := by decide +kernel
theorem dX10_findSlates_143 : decode cX10_findSlates 143 = .ok (.iconst 0, 1) := by decide +kernel
theorem dX10_findSlates_144 : decode cX10_findSlates 144 = .ok (.istore_n 2, 1) := by decide +kernel
theorem dX10_findSlates_145 : decode cX10_findSlates 145 = .ok (.iinc 3 1, 3) := by decide +kernel
theorem dX10_findSlates_148 : decode cX10_findSlates 148 = .ok (.goto (-144), 3) := by decide +kernel
theorem dX10_findSlates_151 : decode cX10_findSlates 151 = .ok (.aload_n 0, 1) := by decide +kernel
theorem dX10_findSlates_152 : decode cX10_findSlates 152 = .ok (.getfield 255, 3) := by decide +kernel
theorem dX10_findSlates_155 : decode cX10_findSlates 155 = .ok (.iconst 1, 1) := by decide +kernel
theorem dX10_findSlates_156 : decode cX10_findSlates 156 = .ok (.isub, 1) := by decide +kernel
theorem dX10_findSlates_157 : decode cX10_findSlates 157 = .ok (.istore_n 3, 1) := by decide +kernel
theorem dX10_findSlates_158 : decode cX10_findSlates 158 = .ok (.iload_n 3, 1) := by decide +kernel
theorem dX10_findSlates_159 : decode cX10_findSlates 159 = .ok (.ifCond .lt 115, 3) := by decide +kernel
theorem dX10_findSlates_162 : decode cX10_findSlates 162 = .ok (.aload_n 0, 1) := by decide +kernel
theorem dX10_findSlates_163 : decode cX10_findSlates 163 = .ok (.getfield 41, 3) := by decide +kernel
theorem dX10_findSlates_166 : decode cX10_findSlates 166 = .ok (.iload_n 3, 1) := by decide +kernel
theorem dX10_findSlates_167 : decode cX10_findSlates 167 = .ok (.aload_n 0, 1) := by decide +kernel
theorem dX10_findSlates_168 : decode cX10_findSlates 168 = .ok (.aload_n 0, 1) := by decide +kernel
theorem dX10_findSlates_169 : decode cX10_findSlates 169 = .ok (.getfield 32, 3) := by decide +kernel
theorem dX10_findSlates_172 : decode cX10_findSlates 172 = .ok (.iload_n 3, 1) := by decide +kernel
theorem dX10_findSlates_173 : decode cX10_findSlates 173 = .ok (.iaload, 1) := by decide +kernel
theorem dX10_findSlates_174 : decode cX10_findSlates 174 = .ok (.iconst 4, 1) := by decide +kernel
theorem dX10_findSlates_175 : decode cX10_findSlates 175 = .ok (.invokevirtual 175, 3) := by decide +kernel
theorem dX10_findSlates_178 : decode cX10_findSlates 178 = .ok (.iload_n 1, 1) := by decide +kernel
theorem dX10_findSlates_179 : decode cX10_findSlates 179 = .ok (.iadd, 1) := by decide +kernel
theorem dX10_findSlates_180 : decode cX10_findSlates 180 = .ok (.iastore, 1) := by decide +kernel
theorem dX10_findSlates_181 : decode cX10_findSlates 181 = .ok (.iload_n 3, 1) := by decide +kernel
theorem dX10_findSlates_182 : decode cX10_findSlates 182 = .ok (.iconst 1, 1) := by decide +kernel
theorem dX10_findSlates_183 : decode cX10_findSlates 183 = .ok (.iadd, 1) := by decide +kernel
theorem dX10_findSlates_184 : decode cX10_findSlates 184 = .ok (.istore 4, 2) := by decide +kernel
theorem dX10_findSlates_186 : decode cX10_findSlates 186 = .ok (.iload 4, 2) := by decide +kernel
theorem dX10_findSlates_188 : decode cX10_findSlates 188 = .ok (.aload_n 0, 1) := by decide +kernel
theorem dX10_findSlates_189 : decode cX10_findSlates 189 = .ok (.getfield 255, 3) := by decide +kernel
theorem dX10_findSlates_192 : decode cX10_findSlates 192 = .ok (.if_icmp .ge 76, 3) := by decide +kernel
theorem dX10_findSlates_195 : decode cX10_findSlates 195 = .ok (.aload_n 0, 1) := by decide +kernel
theorem dX10_findSlates_196 : decode cX10_findSlates 196 = .ok (.getfield 41, 3) := by decide +kernel
theorem dX10_findSlates_199 : decode cX10_findSlates 199 = .ok (.iload 4, 2) := by decide +kernel
theorem dX10_findSlates_201 : decode cX10_findSlates 201 = .ok (.iaload, 1) := by decide +kernel
theorem dX10_findSlates_202 : decode cX10_findSlates 202 = .ok (.aload_n 0, 1) := by decide +kernel
theorem dX10_findSlates_203 : decode cX10_findSlates 203 = .ok (.getfield 35, 3) := by decide +kernel
theorem dX10_findSlates_206 : decode cX10_findSlates 206 = .ok (.bipush 8, 2) := by decide +kernel
theorem dX10_findSlates_208 : decode cX10_findSlates 208 = .ok (.iload_n 3, 1) := by decide +kernel
theorem dX10_findSlates_209 : decode cX10_findSlates 209 = .ok (.imul, 1) := by decide +kernel
theorem dX10_findSlates_210 : decode cX10_findSlates 210 = .ok (.iload 4, 2) := by decide +kernel
theorem dX10_findSlates_212 : decode cX10_findSlates 212 = .ok (.iadd, 1) := by decide +kernel
theorem dX10_findSlates_213 : decode cX10_findSlates 213 = .ok (.iaload, 1) := by decide +kernel
theorem dX10_findSlates_214 : decode cX10_findSlates 214 = .ok (.isub, 1) := by decide +kernel
theorem dX10_findSlates_215 : decode cX10_findSlates 215 = .ok (.istore 5, 2) := by decide +kernel
theorem dX10_findSlates_217 : decode cX10_findSlates 217 = .ok (.aload_n 0, 1) := by decide +kernel
theorem dX10_findSlates_218 : decode cX10_findSlates 218 = .ok (.getfield 41, 3) := by decide +kernel
theorem dX10_findSlates_221 : decode cX10_findSlates 221 = .ok (.iload_n 3, 1) := by decide +kernel
theorem dX10_findSlates_222 : decode cX10_findSlates 222 = .ok (.aload_n 0, 1) := by decide +kernel
theorem dX10_findSlates_223 : decode cX10_findSlates 223 = .ok (.getfield 35, 3) := by decide +kernel
theorem dX10_findSlates_226 : decode cX10_findSlates 226 = .ok (.bipush 8, 2) := by decide +kernel
theorem dX10_findSlates_228 : decode cX10_findSlates 228 = .ok (.iload_n 3, 1) := by decide +kernel
theorem dX10_findSlates_229 : decode cX10_findSlates 229 = .ok (.imul, 1) := by decide +kernel
theorem dX10_findSlates_230 : decode cX10_findSlates 230 = .ok (.iload 4, 2) := by decide +kernel
theorem dX10_findSlates_232 : decode cX10_findSlates 232 = .ok (.iadd, 1) := by decide +kernel
theorem dX10_findSlates_233 : decode cX10_findSlates 233 = .ok (.iaload, 1) := by decide +kernel
theorem dX10_findSlates_234 : decode cX10_findSlates 234 = .ok (.ldc 65, 2) := by decide +kernel
theorem dX10_findSlates_236 : decode cX10_findSlates 236 = .ok (.if_icmp .le 19, 3) := by decide +kernel
theorem dX10_findSlates_239 : decode cX10_findSlates 239 = .ok (.iload 5, 2) := by decide +kernel
theorem dX10_findSlates_241 : decode cX10_findSlates 241 = .ok (.aload_n 0, 1) := by decide +kernel
theorem dX10_findSlates_242 : decode cX10_findSlates 242 = .ok (.getfield 41, 3) := by decide +kernel
theorem dX10_findSlates_245 : decode cX10_findSlates 245 = .ok (.iload_n 3, 1) := by decide +kernel
theorem dX10_findSlates_246 : decode cX10_findSlates 246 = .ok (.iaload, 1) := by decide +kernel
theorem dX10_findSlates_247 : decode cX10_findSlates 247 = .ok (.if_icmp .ge 8, 3) := by decide +kernel
theorem dX10_findSlates_250 : decode cX10_findSlates 250 = .ok (.iload 5, 2) := by decide +kernel
theorem dX10_findSlates_252 : decode cX10_findSlates 252 = .ok (.goto 9, 3) := by decide +kernel
theorem dX10_findSlates_255 : decode cX10_findSlates 255 = .ok (.aload_n 0, 1) := by decide +kernel
theorem dX10_findSlates_256 : decode cX10_findSlates 256 = .ok (.getfield 41, 3) := by decide +kernel
theorem dX10_findSlates_259 : decode cX10_findSlates 259 = .ok (.iload_n 3, 1) := by decide +kernel
theorem dX10_findSlates_260 : decode cX10_findSlates 260 = .ok (.iaload, 1) := by decide +kernel
theorem dX10_findSlates_261 : decode cX10_findSlates 261 = .ok (.iastore, 1) := by decide +kernel
theorem dX10_findSlates_262 : decode cX10_findSlates 262 = .ok (.iinc 4 1, 3) := by decide +kernel
theorem dX10_findSlates_265 : decode cX10_findSlates 265 = .ok (.goto (-79), 3) := by decide +kernel
theorem dX10_findSlates_268 : decode cX10_findSlates 268 = .ok (.iinc 3 (-1), 3) := by decide +kernel
theorem dX10_findSlates_271 : decode cX10_findSlates 271 = .ok (.goto (-113), 3) := by decide +kernel
theorem dX10_findSlates_274 : decode cX10_findSlates 274 = .ok (.iload_n 2, 1) := by decide +kernel
theorem dX10_findSlates_275 : decode cX10_findSlates 275 = .ok (.ireturn, 1) := by decide +kernel
theorem dX10_slate_0 : decode cX10_slate 0 = .ok (.aload_n 0, 1) := by decide +kernel
theorem dX10_slate_1 : decode cX10_slate 1 = .ok (.iload_n 1, 1) := by decide +kernel
theorem dX10_slate_2 : decode cX10_slate 2 = .ok (.invokevirtual 170, 3) := by decide +kernel
theorem dX10_slate_5 : decode cX10_slate 5 = .ok (.ifCond .eq 20, 3) := by decide +kernel
theorem dX10_slate_8 : decode cX10_slate 8 = .ok (.iload_n 2, 1) := by decide +kernel
theorem dX10_slate_9 : decode cX10_slate 9 = .ok (.invokestatic 191, 3) := by decide +kernel
theorem dX10_slate_12 : decode cX10_slate 12 = .ok (.ifCond .eq 13, 3) := by decide +kernel
theorem dX10_slate_15 : decode cX10_slate 15 = .ok (.iload_n 3, 1) := by decide +kernel
theorem dX10_slate_16 : decode cX10_slate 16 = .ok (.i2l, 1) := by decide +kernel
theorem dX10_slate_17 : decode cX10_slate 17 = .ok (.lconst 0, 1) := by decide +kernel
theorem dX10_slate_18 : decode cX10_slate 18 = .ok (.lconst 1, 1) := by decide +kernel
theorem dX10_slate_19 : decode cX10_slate 19 = .ok (.invokestatic 66, 3) := by decide +kernel
theorem dX10_slate_22 : decode cX10_slate 22 = .ok (.ifCond .ne 9, 3) := by decide +kernel
theorem dX10_slate_25 : decode cX10_slate 25 = .ok (.aload_n 0, 1) := by decide +kernel
theorem dX10_slate_26 : decode cX10_slate 26 = .ok (.iconst 1, 1) := by decide +kernel
theorem dX10_slate_27 : decode cX10_slate 27 = .ok (.invokevirtual 131, 3) := by decide +kernel
theorem dX10_slate_30 : decode cX10_slate 30 = .ok (.ireturn, 1) := by decide +kernel
theorem dX10_slate_31 : decode cX10_slate 31 = .ok (.aload_n 0, 1) := by decide +kernel
theorem dX10_slate_32 : decode cX10_slate 32 = .ok (.iload_n 1, 1) := by decide +kernel
theorem dX10_slate_33 : decode cX10_slate 33 = .ok (.iload_n 2, 1) := by decide +kernel
theorem dX10_slate_34 : decode cX10_slate 34 = .ok (.invokevirtual 194, 3) := by decide +kernel
theorem dX10_slate_37 : decode cX10_slate 37 = .ok (.ifCond .ne 9, 3) := by decide +kernel
theorem dX10_slate_40 : decode cX10_slate 40 = .ok (.aload_n 0, 1) := by decide +kernel
theorem dX10_slate_41 : decode cX10_slate 41 = .ok (.iconst 3, 1) := by decide +kernel
theorem dX10_slate_42 : decode cX10_slate 42 = .ok (.invokevirtual 131, 3) := by decide +kernel
theorem dX10_slate_45 : decode cX10_slate 45 = .ok (.ireturn, 1) := by decide +kernel
theorem dX10_slate_46 : decode cX10_slate 46 = .ok (.aload_n 0, 1) := by decide +kernel
theorem dX10_slate_47 : decode cX10_slate 47 = .ok (.iload_n 2, 1) := by decide +kernel
theorem dX10_slate_48 : decode cX10_slate 48 = .ok (.invokevirtual 261, 3) := by decide +kernel
theorem dX10_slate_51 : decode cX10_slate 51 = .ok (.aload_n 0, 1) := by decide +kernel
theorem dX10_slate_52 : decode cX10_slate 52 = .ok (.aload_n 0, 1) := by decide +kernel
theorem dX10_slate_53 : decode cX10_slate 53 = .ok (.getfield 7, 3) := by decide +kernel
theorem dX10_slate_56 : decode cX10_slate 56 = .ok (.bipush 102, 2) := by decide +kernel
theorem dX10_slate_58 : decode cX10_slate 58 = .ok (.iaload, 1) := by decide +kernel
theorem dX10_slate_59 : decode cX10_slate 59 = .ok (.invokevirtual 264, 3) := by decide +kernel
theorem dX10_slate_62 : decode cX10_slate 62 = .ok (.ifCond .ne 9, 3) := by decide +kernel
theorem dX10_slate_65 : decode cX10_slate 65 = .ok (.aload_n 0, 1) := by decide +kernel
theorem dX10_slate_66 : decode cX10_slate 66 = .ok (.iconst 2, 1) := by decide +kernel
theorem dX10_slate_67 : decode cX10_slate 67 = .ok (.invokevirtual 131, 3) := by decide +kernel
theorem dX10_slate_70 : decode cX10_slate 70 = .ok (.ireturn, 1) := by decide +kernel
theorem dX10_slate_71 : decode cX10_slate 71 = .ok (.iconst 0, 1) := by decide +kernel
theorem dX10_slate_72 : decode cX10_slate 72 = .ok (.istore 4, 2) := by decide +kernel
theorem dX10_slate_74 : decode cX10_slate 74 = .ok (.aload_n 0, 1) := by decide +kernel
theorem dX10_slate_75 : decode cX10_slate 75 = .ok (.getfield 32, 3) := by decide +kernel
theorem dX10_slate_78 : decode cX10_slate 78 = .ok (.iload 4, 2) := by decide +kernel
theorem dX10_slate_80 : decode cX10_slate 80 = .ok (.iaload, 1) := by decide +kernel
theorem dX10_slate_81 : decode cX10_slate 81 = .ok (.iload_n 1, 1) := by decide +kernel
theorem dX10_slate_82 : decode cX10_slate 82 = .ok (.if_icmp .eq 9, 3) := by decide +kernel
theorem dX10_slate_85 : decode cX10_slate 85 = .ok (.iinc 4 1, 3) := by decide +kernel
theorem dX10_slate_88 : decode cX10_slate 88 = .ok (.goto (-14), 3) := by decide +kernel
theorem dX10_slate_91 : decode cX10_slate 91 = .ok (.iload_n 3, 1) := by decide +kernel
theorem dX10_slate_92 : decode cX10_slate 92 = .ok (.ifCond .ne 13, 3) := by decide +kernel
theorem dX10_slate_95 : decode cX10_slate 95 = .ok (.aload_n 0, 1) := by decide +kernel
theorem dX10_slate_96 : decode cX10_slate 96 = .ok (.getfield 38, 3) := by decide +kernel
theorem dX10_slate_99 : decode cX10_slate 99 = .ok (.iload 4, 2) := by decide +kernel
theorem dX10_slate_101 : decode cX10_slate 101 = .ok (.iaload, 1) := by decide +kernel
theorem dX10_slate_102 : decode cX10_slate 102 = .ok (.goto 10, 3) := by decide +kernel
theorem dX10_slate_105 : decode cX10_slate 105 = .ok (.aload_n 0, 1) := by decide +kernel
theorem dX10_slate_106 : decode cX10_slate 106 = .ok (.getfield 41, 3) := by decide +kernel
theorem dX10_slate_109 : decode cX10_slate 109 = .ok (.iload 4, 2) := by decide +kernel
theorem dX10_slate_111 : decode cX10_slate 111 = .ok (.iaload, 1) := by decide +kernel
theorem dX10_slate_112 : decode cX10_slate 112 = .ok (.ireturn, 1) := by decide +kernel
theorem dX10_least_0 : decode cX10_least 0 = .ok (.iload_n 1, 1) := by decide +kernel
theorem dX10_least_1 : decode cX10_least 1 = .ok (.invokestatic 191, 3) := by decide +kernel
theorem dX10_least_4 : decode cX10_least 4 = .ok (.ifCond .ne 9, 3) := by decide +kernel
theorem dX10_least_7 : decode cX10_least 7 = .ok (.aload_n 0, 1) := by decide +kernel
theorem dX10_least_8 : decode cX10_least 8 = .ok (.iconst 1, 1) := by decide +kernel
theorem dX10_least_9 : decode cX10_least 9 = .ok (.invokevirtual 131, 3) := by decide +kernel
theorem dX10_least_12 : decode cX10_least 12 = .ok (.ireturn, 1) := by decide +kernel
theorem dX10_least_13 : decode cX10_least 13 = .ok (.aload_n 0, 1) := by decide +kernel
theorem dX10_least_14 : decode cX10_least 14 = .ok (.iload_n 1, 1) := by decide +kernel
theorem dX10_least_15 : decode cX10_least 15 = .ok (.invokevirtual 261, 3) := by decide +kernel
theorem dX10_least_18 : decode cX10_least 18 = .ok (.iconst 0, 1) := by decide +kernel
theorem dX10_least_19 : decode cX10_least 19 = .ok (.istore_n 2, 1) := by decide +kernel
theorem dX10_least_20 : decode cX10_least 20 = .ok (.iload_n 2, 1) := by decide +kernel
theorem dX10_least_21 : decode cX10_least 21 = .ok (.sipush 2000, 3) := by decide +kernel
theorem dX10_least_24 : decode cX10_least 24 = .ok (.if_icmp .gt 19, 3) := by decide +kernel
theorem dX10_least_27 : decode cX10_least 27 = .ok (.aload_n 0, 1) := by decide +kernel
theorem dX10_least_28 : decode cX10_least 28 = .ok (.iload_n 2, 1) := by decide +kernel
theorem dX10_least_29 : decode cX10_least 29 = .ok (.invokevirtual 264, 3) := by decide +kernel
theorem dX10_least_32 : decode cX10_least 32 = .ok (.ifCond .eq 5, 3) := by decide +kernel
theorem dX10_least_35 : decode cX10_least 35 = .ok (.iload_n 2, 1) := by decide +kernel
theorem dX10_least_36 : decode cX10_least 36 = .ok (.ireturn, 1) := by decide +kernel
theorem dX10_least_37 : decode cX10_least 37 = .ok (.iinc 2 1, 3) := by decide +kernel
theorem dX10_least_40 : decode cX10_least 40 = .ok (.goto (-20), 3) := by decide +kernel
theorem dX10_least_43 : decode cX10_least 43 = .ok (.aload_n 0, 1) := by decide +kernel
theorem dX10_least_44 : decode cX10_least 44 = .ok (.iconst 2, 1) := by decide +kernel
theorem dX10_least_45 : decode cX10_least 45 = .ok (.invokevirtual 131, 3) := by decide +kernel
theorem dX10_least_48 : decode cX10_least 48 = .ok (.ireturn, 1) := by decide +kernel
theorem dX10_hang_0 : decode cX10_hang 0 = .ok (.iload_n 1, 1) := by decide +kernel
theorem dX10_hang_1 : decode cX10_hang 1 = .ok (.invokestatic 191, 3) := by decide +kernel
theorem dX10_hang_4 : decode cX10_hang 4 = .ok (.ifCond .ne 9, 3) := by decide +kernel
theorem dX10_hang_7 : decode cX10_hang 7 = .ok (.aload_n 0, 1) := by decide +kernel
theorem dX10_hang_8 : decode cX10_hang 8 = .ok (.iconst 1, 1) := by decide +kernel
theorem dX10_hang_9 : decode cX10_hang 9 = .ok (.invokevirtual 131, 3) := by decide +kernel
theorem dX10_hang_12 : decode cX10_hang 12 = .ok (.ireturn, 1) := by decide +kernel
theorem dX10_hang_13 : decode cX10_hang 13 = .ok (.aload_n 0, 1) := by decide +kernel
theorem dX10_hang_14 : decode cX10_hang 14 = .ok (.iload_n 1, 1) := by decide +kernel
theorem dX10_hang_15 : decode cX10_hang 15 = .ok (.invokevirtual 261, 3) := by decide +kernel
theorem dX10_hang_18 : decode cX10_hang 18 = .ok (.aload_n 0, 1) := by decide +kernel
theorem dX10_hang_19 : decode cX10_hang 19 = .ok (.aload_n 0, 1) := by decide +kernel
theorem dX10_hang_20 : decode cX10_hang 20 = .ok (.getfield 7, 3) := by decide +kernel
theorem dX10_hang_23 : decode cX10_hang 23 = .ok (.bipush 102, 2) := by decide +kernel
theorem dX10_hang_25 : decode cX10_hang 25 = .ok (.iaload, 1) := by decide +kernel
theorem dX10_hang_26 : decode cX10_hang 26 = .ok (.invokevirtual 264, 3) := by decide +kernel
theorem dX10_hang_29 : decode cX10_hang 29 = .ok (.ifCond .ne 9, 3) := by decide +kernel
theorem dX10_hang_32 : decode cX10_hang 32 = .ok (.aload_n 0, 1) := by decide +kernel
theorem dX10_hang_33 : decode cX10_hang 33 = .ok (.iconst 2, 1) := by decide +kernel
theorem dX10_hang_34 : decode cX10_hang 34 = .ok (.invokevirtual 131, 3) := by decide +kernel
theorem dX10_hang_37 : decode cX10_hang 37 = .ok (.ireturn, 1) := by decide +kernel
theorem dX10_hang_38 : decode cX10_hang 38 = .ok (.iconst 0, 1) := by decide +kernel
theorem dX10_hang_39 : decode cX10_hang 39 = .ok (.istore_n 2, 1) := by decide +kernel
theorem dX10_hang_40 : decode cX10_hang 40 = .ok (.iconst 0, 1) := by decide +kernel
theorem dX10_hang_41 : decode cX10_hang 41 = .ok (.istore_n 3, 1) := by decide +kernel
theorem dX10_hang_42 : decode cX10_hang 42 = .ok (.iload_n 3, 1) := by decide +kernel
theorem dX10_hang_43 : decode cX10_hang 43 = .ok (.aload_n 0, 1) := by decide +kernel
theorem dX10_hang_44 : decode cX10_hang 44 = .ok (.getfield 255, 3) := by decide +kernel
theorem dX10_hang_47 : decode cX10_hang 47 = .ok (.if_icmp .ge 63, 3) := by decide +kernel
theorem dX10_hang_50 : decode cX10_hang 50 = .ok (.aload_n 0, 1) := by decide +kernel
theorem dX10_hang_51 : decode cX10_hang 51 = .ok (.getfield 38, 3) := by decide +kernel
theorem dX10_hang_54 : decode cX10_hang 54 = .ok (.iload_n 3, 1) := by decide +kernel
theorem dX10_hang_55 : decode cX10_hang 55 = .ok (.iaload, 1) := by decide +kernel
theorem dX10_hang_56 : decode cX10_hang 56 = .ok (.sipush (-900), 3) := by decide +kernel
theorem dX10_hang_59 : decode cX10_hang 59 = .ok (.sipush 900, 3) := by decide +kernel
theorem dX10_hang_62 : decode cX10_hang 62 = .ok (.invokestatic 140, 3) := by decide +kernel
theorem dX10_hang_65 : decode cX10_hang 65 = .ok (.istore 4, 2) := by decide +kernel
theorem dX10_hang_67 : decode cX10_hang 67 = .ok (.iload_n 2, 1) := by decide +kernel
theorem dX10_hang_68 : decode cX10_hang 68 = .ok (.iload 4, 2) := by decide +kernel
theorem dX10_hang_70 : decode cX10_hang 70 = .ok (.aload_n 0, 1) := by decide +kernel
theorem dX10_hang_71 : decode cX10_hang 71 = .ok (.aload_n 0, 1) := by decide +kernel
theorem dX10_hang_72 : decode cX10_hang 72 = .ok (.getfield 32, 3) := by decide +kernel
theorem dX10_hang_75 : decode cX10_hang 75 = .ok (.iload_n 3, 1) := by decide +kernel
theorem dX10_hang_76 : decode cX10_hang 76 = .ok (.iaload, 1) := by decide +kernel
theorem dX10_hang_77 : decode cX10_hang 77 = .ok (.iconst 4, 1) := by decide +kernel
theorem dX10_hang_78 : decode cX10_hang 78 = .ok (.invokevirtual 175, 3) := by decide +kernel
theorem dX10_hang_81 : decode cX10_hang 81 = .ok (.if_icmp .eq 7, 3) := by decide +kernel
theorem dX10_hang_84 : decode cX10_hang 84 = .ok (.iconst 1, 1) := by decide +kernel
theorem dX10_hang_85 : decode cX10_hang 85 = .ok (.goto 4, 3) := by decide +kernel
theorem dX10_hang_88 : decode cX10_hang 88 = .ok (.iconst 0, 1) := by decide +kernel
theorem dX10_hang_89 : decode cX10_hang 89 = .ok (.iadd, 1) := by decide +kernel
theorem dX10_hang_90 : decode cX10_hang 90 = .ok (.istore_n 2, 1) := by decide +kernel
theorem dX10_hang_91 : decode cX10_hang 91 = .ok (.aload_n 0, 1) := by decide +kernel
theorem dX10_hang_92 : decode cX10_hang 92 = .ok (.aload_n 0, 1) := by decide +kernel
theorem dX10_hang_93 : decode cX10_hang 93 = .ok (.getfield 32, 3) := by decide +kernel
theorem dX10_hang_96 : decode cX10_hang 96 = .ok (.iload_n 3, 1) := by decide +kernel
theorem dX10_hang_97 : decode cX10_hang 97 = .ok (.iaload, 1) := by decide +kernel
theorem dX10_hang_98 : decode cX10_hang 98 = .ok (.iconst 4, 1) := by decide +kernel
theorem dX10_hang_99 : decode cX10_hang 99 = .ok (.iload 4, 2) := by decide +kernel
theorem dX10_hang_101 : decode cX10_hang 101 = .ok (.invokevirtual 162, 3) := by decide +kernel
theorem dX10_hang_104 : decode cX10_hang 104 = .ok (.iinc 3 1, 3) := by decide +kernel
theorem dX10_hang_107 : decode cX10_hang 107 = .ok (.goto (-65), 3) := by decide +kernel
theorem dX10_hang_110 : decode cX10_hang 110 = .ok (.iload_n 2, 1) := by decide +kernel
theorem dX10_hang_111 : decode cX10_hang 111 = .ok (.ireturn, 1) := by decide +kernel
theorem dX10_isStill_0 : decode cX10_isStill 0 = .ok (.iconst 0, 1) := by decide +kernel
theorem dX10_isStill_1 : decode cX10_isStill 1 = .ok (.istore_n 2, 1) := by decide +kernel
theorem dX10_isStill_2 : decode cX10_isStill 2 = .ok (.iload_n 2, 1) := by decide +kernel
theorem dX10_isStill_3 : decode cX10_isStill 3 = .ok (.aload_n 0, 1) := by decide +kernel
theorem dX10_isStill_4 : decode cX10_isStill 4 = .ok (.getfield 7, 3) := by decide +kernel
theorem dX10_isStill_7 : decode cX10_isStill 7 = .ok (.bipush 103, 2) := by decide +kernel
theorem dX10_isStill_9 : decode cX10_isStill 9 = .ok (.iaload, 1) := by decide +kernel
theorem dX10_isStill_10 : decode cX10_isStill 10 = .ok (.if_icmp .ge 32, 3) := by decide +kernel
theorem dX10_isStill_13 : decode cX10_isStill 13 = .ok (.iload_n 1, 1) := by decide +kernel
theorem dX10_isStill_14 : decode cX10_isStill 14 = .ok (.iload_n 2, 1) := by decide +kernel
theorem dX10_isStill_15 : decode cX10_isStill 15 = .ok (.ishr, 1) := by decide +kernel
theorem dX10_isStill_16 : decode cX10_isStill 16 = .ok (.iconst 1, 1) := by decide +kernel
theorem dX10_isStill_17 : decode cX10_isStill 17 = .ok (.iand, 1) := by decide +kernel
theorem dX10_isStill_18 : decode cX10_isStill 18 = .ok (.ifCond .ne 18, 3) := by decide +kernel
theorem dX10_isStill_21 : decode cX10_isStill 21 = .ok (.aload_n 0, 1) := by decide +kernel
theorem dX10_isStill_22 : decode cX10_isStill 22 = .ok (.getfield 44, 3) := by decide +kernel
theorem dX10_isStill_25 : decode cX10_isStill 25 = .ok (.iload_n 2, 1) := by decide +kernel
theorem dX10_isStill_26 : decode cX10_isStill 26 = .ok (.iaload, 1) := by decide +kernel
theorem dX10_isStill_27 : decode cX10_isStill 27 = .ok (.iload_n 1, 1) := by decide +kernel
theorem dX10_isStill_28 : decode cX10_isStill 28 = .ok (.iconst (-1), 1) := by decide +kernel
theorem dX10_isStill_29 : decode cX10_isStill 29 = .ok (.ixor, 1) := by decide +kernel
theorem dX10_isStill_30 : decode cX10_isStill 30 = .ok (.iand, 1) := by decide +kernel
theorem dX10_isStill_31 : decode cX10_isStill 31 = .ok (.ifCond .eq 5, 3) := by decide +kernel
theorem dX10_isStill_34 : decode cX10_isStill 34 = .ok (.iconst 0, 1) := by decide +kernel
theorem dX10_isStill_35 : decode cX10_isStill 35 = .ok (.ireturn, 1) := by decide +kernel
theorem dX10_isStill_36 : decode cX10_isStill 36 = .ok (.iinc 2 1, 3) := by decide +kernel
theorem dX10_isStill_39 : decode cX10_isStill 39 = .ok (.goto (-37), 3) := by decide +kernel
theorem dX10_isStill_42 : decode cX10_isStill 42 = .ok (.iconst 1, 1) := by decide +kernel
theorem dX10_isStill_43 : decode cX10_isStill 43 = .ok (.ireturn, 1) := by decide +kernel
theorem dX10_ranks_0 : decode cX10_ranks 0 = .ok (.iconst 0, 1) := by decide +kernel
theorem dX10_ranks_1 : decode cX10_ranks 1 = .ok (.istore_n 2, 1) := by decide +kernel
theorem dX10_ranks_2 : decode cX10_ranks 2 = .ok (.iconst 0, 1) := by decide +kernel
theorem dX10_ranks_3 : decode cX10_ranks 3 = .ok (.istore_n 3, 1) := by decide +kernel
theorem dX10_ranks_4 : decode cX10_ranks 4 = .ok (.iload_n 3, 1) := by decide +kernel
theorem dX10_ranks_5 : decode cX10_ranks 5 = .ok (.aload_n 0, 1) := by decide +kernel
theorem dX10_ranks_6 : decode cX10_ranks 6 = .ok (.getfield 7, 3) := by decide +kernel
theorem dX10_ranks_9 : decode cX10_ranks 9 = .ok (.bipush 103, 2) := by decide +kernel
theorem dX10_ranks_11 : decode cX10_ranks 11 = .ok (.iaload, 1) := by decide +kernel
theorem dX10_ranks_12 : decode cX10_ranks 12 = .ok (.if_icmp .ge 24, 3) := by decide +kernel
theorem dX10_ranks_15 : decode cX10_ranks 15 = .ok (.iload_n 2, 1) := by decide +kernel
theorem dX10_ranks_16 : decode cX10_ranks 16 = .ok (.iload_n 1, 1) := by decide +kernel
theorem dX10_ranks_17 : decode cX10_ranks 17 = .ok (.iload_n 3, 1) := by decide +kernel
theorem dX10_ranks_18 : decode cX10_ranks 18 = .ok (.ishr, 1) := by decide +kernel
theorem dX10_ranks_19 : decode cX10_ranks 19 = .ok (.iconst 1, 1) := by decide +kernel
theorem dX10_ranks_20 : decode cX10_ranks 20 = .ok (.iand, 1) := by decide +kernel
theorem dX10_ranks_21 : decode cX10_ranks 21 = .ok (.aload_n 0, 1) := by decide +kernel
theorem dX10_ranks_22 : decode cX10_ranks 22 = .ok (.iload_n 3, 1) := by decide +kernel
theorem dX10_ranks_23 : decode cX10_ranks 23 = .ok (.iconst 5, 1) := by decide +kernel
theorem dX10_ranks_24 : decode cX10_ranks 24 = .ok (.invokevirtual 175, 3) := by decide +kernel
theorem dX10_ranks_27 : decode cX10_ranks 27 = .ok (.imul, 1) := by decide +kernel
theorem dX10_ranks_28 : decode cX10_ranks 28 = .ok (.iadd, 1) := by decide +kernel
theorem dX10_ranks_29 : decode cX10_ranks 29 = .ok (.istore_n 2, 1) := by decide +kernel
theorem dX10_ranks_30 : decode cX10_ranks 30 = .ok (.iinc 3 1, 3) := by decide +kernel
theorem dX10_ranks_33 : decode cX10_ranks 33 = .ok (.goto (-29), 3) := by decide +kernel
theorem dX10_ranks_36 : decode cX10_ranks 36 = .ok (.iload_n 2, 1) := by decide +kernel
theorem dX10_ranks_37 : decode cX10_ranks 37 = .ok (.ireturn, 1) := by decide +kernel
theorem dX10_silence_0 : decode cX10_silence 0 = .ok (.iload_n 1, 1) := by decide +kernel
theorem dX10_silence_1 : decode cX10_silence 1 = .ok (.invokestatic 191, 3) := by decide +kernel
theorem dX10_silence_4 : decode cX10_silence 4 = .ok (.ifCond .eq 13, 3) := by decide +kernel
theorem dX10_silence_7 : decode cX10_silence 7 = .ok (.iload_n 2, 1) := by decide +kernel
theorem dX10_silence_8 : decode cX10_silence 8 = .ok (.i2l, 1) := by decide +kernel
theorem dX10_silence_9 : decode cX10_silence 9 = .ok (.lconst 0, 1) := by decide +kernel
theorem dX10_silence_10 : decode cX10_silence 10 = .ok (.lconst 1, 1) := by decide +kernel
theorem dX10_silence_11 : decode cX10_silence 11 = .ok (.invokestatic 66, 3) := by decide +kernel
theorem dX10_silence_14 : decode cX10_silence 14 = .ok (.ifCond .ne 9, 3) := by decide +kernel
theorem dX10_silence_17 : decode cX10_silence 17 = .ok (.aload_n 0, 1) := by decide +kernel
theorem dX10_silence_18 : decode cX10_silence 18 = .ok (.iconst 1, 1) := by decide +kernel
theorem dX10_silence_19 : decode cX10_silence 19 = .ok (.invokevirtual 131, 3) := by decide +kernel
theorem dX10_silence_22 : decode cX10_silence 22 = .ok (.ireturn, 1) := by decide +kernel
theorem dX10_silence_23 : decode cX10_silence 23 = .ok (.aload_n 0, 1) := by decide +kernel
theorem dX10_silence_24 : decode cX10_silence 24 = .ok (.iload_n 1, 1) := by decide +kernel
theorem dX10_silence_25 : decode cX10_silence 25 = .ok (.invokevirtual 238, 3) := by decide +kernel
theorem dX10_silence_28 : decode cX10_silence 28 = .ok (.iconst 0, 1) := by decide +kernel
theorem dX10_silence_29 : decode cX10_silence 29 = .ok (.istore_n 3, 1) := by decide +kernel
theorem dX10_silence_30 : decode cX10_silence 30 = .ok (.iload_n 3, 1) := by decide +kernel
theorem dX10_silence_31 : decode cX10_silence 31 = .ok (.aload_n 0, 1) := by decide +kernel
theorem dX10_silence_32 : decode cX10_silence 32 = .ok (.getfield 7, 3) := by decide +kernel
theorem dX10_silence_35 : decode cX10_silence 35 = .ok (.bipush 103, 2) := by decide +kernel
theorem dX10_silence_37 : decode cX10_silence 37 = .ok (.iaload, 1) := by decide +kernel
theorem dX10_silence_38 : decode cX10_silence 38 = .ok (.if_icmp .ge 71, 3) := by decide +kernel
theorem dX10_silence_41 : decode cX10_silence 41 = .ok (.aload_n 0, 1) := by decide +kernel
theorem dX10_silence_42 : decode cX10_silence 42 = .ok (.getfield 44, 3) := by decide +kernel
theorem dX10_silence_45 : decode cX10_silence 45 = .ok (.iload_n 3, 1) := by decide +kernel
theorem dX10_silence_46 : decode cX10_silence 46 = .ok (.iconst 0, 1) := by decide +kernel
theorem dX10_silence_47 : decode cX10_silence 47 = .ok (.iastore, 1) := by decide +kernel
theorem dX10_silence_48 : decode cX10_silence 48 = .ok (.iconst 0, 1) := by decide +kernel
theorem dX10_silence_49 : decode cX10_silence 49 = .ok (.istore 4, 2) := by decide +kernel
theorem dX10_silence_51 : decode cX10_silence 51 = .ok (.iload 4, 2) := by decide +kernel
theorem dX10_silence_53 : decode cX10_silence 53 = .ok (.aload_n 0, 1) := by decide +kernel
theorem dX10_silence_54 : decode cX10_silence 54 = .ok (.getfield 7, 3) := by decide +kernel
theorem dX10_silence_57 : decode cX10_silence 57 = .ok (.bipush 103, 2) := by decide +kernel
theorem dX10_silence_59 : decode cX10_silence 59 = .ok (.iaload, 1) := by decide +kernel
theorem dX10_silence_60 : decode cX10_silence 60 = .ok (.if_icmp .ge 43, 3) := by decide +kernel
theorem dX10_silence_63 : decode cX10_silence 63 = .ok (.aload_n 0, 1) := by decide +kernel
theorem dX10_silence_64 : decode cX10_silence 64 = .ok (.getfield 44, 3) := by decide +kernel
theorem dX10_silence_67 : decode cX10_silence 67 = .ok (.iload_n 3, 1) := by decide +kernel
theorem dX10_silence_68 : decode cX10_silence 68 = .ok (.dup2, 1) := by decide +kernel
theorem dX10_silence_69 : decode cX10_silence 69 = .ok (.iaload, 1) := by decide +kernel
theorem dX10_silence_70 : decode cX10_silence 70 = .ok (.iload_n 3, 1) := by decide +kernel
theorem dX10_silence_71 : decode cX10_silence 71 = .ok (.iload 4, 2) := by decide +kernel
theorem dX10_silence_73 : decode cX10_silence 73 = .ok (.if_icmp .eq 21, 3) := by decide +kernel
theorem dX10_silence_76 : decode cX10_silence 76 = .ok (.aload_n 0, 1) := by decide +kernel
theorem dX10_silence_77 : decode cX10_silence 77 = .ok (.iload_n 3, 1) := by decide +kernel
theorem dX10_silence_78 : decode cX10_silence 78 = .ok (.iload 4, 2) := by decide +kernel
theorem dX10_silence_80 : decode cX10_silence 80 = .ok (.iconst 0, 1) := by decide +kernel
theorem dX10_silence_81 : decode cX10_silence 81 = .ok (.invokevirtual 235, 3) := by decide +kernel
theorem dX10_silence_84 : decode cX10_silence 84 = .ok (.ifCond .le 10, 3) := by decide +kernel
theorem dX10_silence_87 : decode cX10_silence 87 = .ok (.iconst 1, 1) := by decide +kernel
theorem dX10_silence_88 : decode cX10_silence 88 = .ok (.iload 4, 2) := by decide +kernel
theorem dX10_silence_90 : decode cX10_silence 90 = .ok (.ishl, 1) := by decide +kernel
theorem dX10_silence_91 : decode cX10_silence 91 = .ok (.goto 4, 3) := by decide +kernel
theorem dX10_silence_94 : decode cX10_silence 94 = .ok (.iconst 0, 1) := by decide +kernel
theorem dX10_silence_95 : decode cX10_silence 95 = .ok (.ior, 1) := by decide +kernel
theorem dX10_silence_96 : decode cX10_silence 96 = .ok (.iastore, 1) := by decide +kernel
theorem dX10_silence_97 : decode cX10_silence 97 = .ok (.iinc 4 1, 3) := by decide +kernel
theorem dX10_silence_100 : decode cX10_silence 100 = .ok (.goto (-49), 3) := by decide +kernel
theorem dX10_silence_103 : decode cX10_silence 103 = .ok (.iinc 3 1, 3) := by decide +kernel
theorem dX10_silence_106 : decode cX10_silence 106 = .ok (.goto (-76), 3) := by decide +kernel
theorem dX10_silence_109 : decode cX10_silence 109 = .ok (.iconst (-1), 1) := by decide +kernel
theorem dX10_silence_110 : decode cX10_silence 110 = .ok (.istore_n 3, 1) := by decide +kernel
theorem dX10_silence_111 : decode cX10_silence 111 = .ok (.iconst 0, 1) := by decide +kernel
theorem dX10_silence_112 : decode cX10_silence 112 = .ok (.istore 4, 2) := by decide +kernel
theorem dX10_silence_114 : decode cX10_silence 114 = .ok (.iload 4, 2) := by decide +kernel
theorem dX10_silence_116 : decode cX10_silence 116 = .ok (.iconst 1, 1) := by decide +kernel
theorem dX10_silence_117 : decode cX10_silence 117 = .ok (.aload_n 0, 1) := by decide +kernel
theorem dX10_silence_118 : decode cX10_silence 118 = .ok (.getfield 7, 3) := by decide +kernel
theorem dX10_silence_121 : decode cX10_silence 121 = .ok (.bipush 103, 2) := by decide +kernel
theorem dX10_silence_123 : decode cX10_silence 123 = .ok (.iaload, 1) := by decide +kernel
theorem dX10_silence_124 : decode cX10_silence 124 = .ok (.ishl, 1) := by decide +kernel
theorem dX10_silence_125 : decode cX10_silence 125 = .ok (.if_icmp .ge 43, 3) := by decide +kernel
theorem dX10_silence_128 : decode cX10_silence 128 = .ok (.aload_n 0, 1) := by decide +kernel
theorem dX10_silence_129 : decode cX10_silence 129 = .ok (.iload 4, 2) := by decide +kernel
theorem dX10_silence_131 : decode cX10_silence 131 = .ok (.invokevirtual 267, 3) := by decide +kernel
theorem dX10_silence_134 : decode cX10_silence 134 = .ok (.ifCond .eq 26, 3) := by decide +kernel
theorem dX10_silence_137 : decode cX10_silence 137 = .ok (.iload_n 3, 1) := by decide +kernel
theorem dX10_silence_138 : decode cX10_silence 138 = .ok (.ifCond .lt 17, 3) := by decide +kernel
theorem dX10_silence_141 : decode cX10_silence 141 = .ok (.aload_n 0, 1) := by decide +kernel
theorem dX10_silence_142 : decode cX10_silence 142 = .ok (.iload 4, 2) := by decide +kernel
theorem dX10_silence_144 : decode cX10_silence 144 = .ok (.invokevirtual 270, 3) := by decide +kernel
theorem dX10_silence_147 : decode cX10_silence 147 = .ok (.aload_n 0, 1) := by decide +kernel
theorem dX10_silence_148 : decode cX10_silence 148 = .ok (.iload_n 3, 1) := by decide +kernel
theorem dX10_silence_149 : decode cX10_silence 149 = .ok (.invokevirtual 270, 3) := by decide +kernel
theorem dX10_silence_152 : decode cX10_silence 152 = .ok (.if_icmp .ge 8, 3) := by decide +kernel
theorem dX10_silence_155 : decode cX10_silence 155 = .ok (.iload 4, 2) := by decide +kernel
theorem dX10_silence_157 : decode cX10_silence 157 = .ok (.goto 4, 3) := by decide +kernel
theorem dX10_silence_160 : decode cX10_silence 160 = .ok (.iload_n 3, 1) := by decide +kernel
theorem dX10_silence_161 : decode cX10_silence 161 = .ok (.istore_n 3, 1) := by decide +kernel
theorem dX10_silence_162 : decode cX10_silence 162 = .ok (.iinc 4 1, 3) := by decide +kernel
theorem dX10_silence_165 : decode cX10_silence 165 = .ok (.goto (-51), 3) := by decide +kernel
theorem dX10_silence_168 : decode cX10_silence 168 = .ok (.iload_n 2, 1) := by decide +kernel
theorem dX10_silence_169 : decode cX10_silence 169 = .ok (.ifCond .ne 7, 3) := by decide +kernel
theorem dX10_silence_172 : decode cX10_silence 172 = .ok (.iload_n 3, 1) := by decide +kernel
theorem dX10_silence_173 : decode cX10_silence 173 = .ok (.goto 8, 3) := by decide +kernel
theorem dX10_silence_176 : decode cX10_silence 176 = .ok (.aload_n 0, 1) := by decide +kernel
theorem dX10_silence_177 : decode cX10_silence 177 = .ok (.iload_n 3, 1) := by decide +kernel
theorem dX10_silence_178 : decode cX10_silence 178 = .ok (.invokevirtual 270, 3) := by decide +kernel
theorem dX10_silence_181 : decode cX10_silence 181 = .ok (.ireturn, 1) := by decide +kernel
theorem dX10_winds_0 : decode cX10_winds 0 = .ok (.iload_n 1, 1) := by decide +kernel
theorem dX10_winds_1 : decode cX10_winds 1 = .ok (.invokestatic 191, 3) := by decide +kernel
theorem dX10_winds_4 : decode cX10_winds 4 = .ok (.ifCond .ne 9, 3) := by decide +kernel
theorem dX10_winds_7 : decode cX10_winds 7 = .ok (.aload_n 0, 1) := by decide +kernel
theorem dX10_winds_8 : decode cX10_winds 8 = .ok (.iconst 1, 1) := by decide +kernel
theorem dX10_winds_9 : decode cX10_winds 9 = .ok (.invokevirtual 131, 3) := by decide +kernel
theorem dX10_winds_12 : decode cX10_winds 12 = .ok (.ireturn, 1) := by decide +kernel
theorem dX10_winds_13 : decode cX10_winds 13 = .ok (.aload_n 0, 1) := by decide +kernel
theorem dX10_winds_14 : decode cX10_winds 14 = .ok (.getfield 7, 3) := by decide +kernel
theorem dX10_winds_17 : decode cX10_winds 17 = .ok (.bipush 100, 2) := by decide +kernel
theorem dX10_winds_19 : decode cX10_winds 19 = .ok (.iaload, 1) := by decide +kernel
theorem dX10_winds_20 : decode cX10_winds 20 = .ok (.istore_n 2, 1) := by decide +kernel
theorem dX10_winds_21 : decode cX10_winds 21 = .ok (.iconst 0, 1) := by decide +kernel
theorem dX10_winds_22 : decode cX10_winds 22 = .ok (.istore_n 3, 1) := by decide +kernel
theorem dX10_winds_23 : decode cX10_winds 23 = .ok (.bipush (-5), 2) := by decide +kernel
theorem dX10_winds_25 : decode cX10_winds 25 = .ok (.istore 4, 2) := by decide +kernel
theorem dX10_winds_27 : decode cX10_winds 27 = .ok (.iload 4, 2) := by decide +kernel
theorem dX10_winds_29 : decode cX10_winds 29 = .ok (.bipush 6, 2) := by decide +kernel
theorem dX10_winds_31 : decode cX10_winds 31 = .ok (.if_icmp .ge 39, 3) := by decide +kernel
theorem dX10_winds_34 : decode cX10_winds 34 = .ok (.aload_n 0, 1) := by decide +kernel
theorem dX10_winds_35 : decode cX10_winds 35 = .ok (.getfield 7, 3) := by decide +kernel
theorem dX10_winds_38 : decode cX10_winds 38 = .ok (.bipush 100, 2) := by decide +kernel
theorem dX10_winds_40 : decode cX10_winds 40 = .ok (.iload 4, 2) := by decide +kernel
theorem dX10_winds_42 : decode cX10_winds 42 = .ok (.iastore, 1) := by decide +kernel
theorem dX10_winds_43 : decode cX10_winds 43 = .ok (.iload_n 3, 1) := by decide +kernel
theorem dX10_winds_44 : decode cX10_winds 44 = .ok (.aload_n 0, 1) := by decide +kernel
theorem dX10_winds_45 : decode cX10_winds 45 = .ok (.iload_n 1, 1) := by decide +kernel
theorem dX10_winds_46 : decode cX10_winds 46 = .ok (.invokevirtual 245, 3) := by decide +kernel
theorem dX10_winds_49 : decode cX10_winds 49 = .ok (.ifCond .ne 12, 3) := by decide +kernel
theorem dX10_winds_52 : decode cX10_winds 52 = .ok (.iconst 1, 1) := by decide +kernel
theorem dX10_winds_53 : decode cX10_winds 53 = .ok (.iload 4, 2) := by decide +kernel
theorem dX10_winds_55 : decode cX10_winds 55 = .ok (.iconst 5, 1) := by decide +kernel
theorem dX10_winds_56 : decode cX10_winds 56 = .ok (.iadd, 1) := by decide +kernel
theorem dX10_winds_57 : decode cX10_winds 57 = .ok (.ishl, 1) := by decide +kernel
theorem dX10_winds_58 : decode cX10_winds 58 = .ok (.goto 4, 3) := by decide +kernel
theorem dX10_winds_61 : decode cX10_winds 61 = .ok (.iconst 0, 1) := by decide +kernel
theorem dX10_winds_62 : decode cX10_winds 62 = .ok (.ior, 1) := by decide +kernel
theorem dX10_winds_63 : decode cX10_winds 63 = .ok (.istore_n 3, 1) := by decide +kernel
theorem dX10_winds_64 : decode cX10_winds 64 = .ok (.iinc 4 1, 3) := by decide +kernel
theorem dX10_winds_67 : decode cX10_winds 67 = .ok (.goto (-40), 3) := by decide +kernel
theorem dX10_winds_70 : decode cX10_winds 70 = .ok (.aload_n 0, 1) := by decide +kernel
theorem dX10_winds_71 : decode cX10_winds 71 = .ok (.getfield 7, 3) := by decide +kernel
theorem dX10_winds_74 : decode cX10_winds 74 = .ok (.bipush 100, 2) := by decide +kernel
theorem dX10_winds_76 : decode cX10_winds 76 = .ok (.iload_n 2, 1) := by decide +kernel
theorem dX10_winds_77 : decode cX10_winds 77 = .ok (.iastore, 1) := by decide +kernel
theorem dX10_winds_78 : decode cX10_winds 78 = .ok (.iload_n 3, 1) := by decide +kernel
theorem dX10_winds_79 : decode cX10_winds 79 = .ok (.ireturn, 1) := by decide +kernel
theorem dX10_holds_0 : decode cX10_holds 0 = .ok (.aload_n 0, 1) := by decide +kernel
theorem dX10_holds_1 : decode cX10_holds 1 = .ok (.iload_n 1, 1) := by decide +kernel
theorem dX10_holds_2 : decode cX10_holds 2 = .ok (.invokevirtual 170, 3) := by decide +kernel
theorem dX10_holds_5 : decode cX10_holds 5 = .ok (.ifCond .eq 20, 3) := by decide +kernel
theorem dX10_holds_8 : decode cX10_holds 8 = .ok (.iload_n 2, 1) := by decide +kernel
theorem dX10_holds_9 : decode cX10_holds 9 = .ok (.invokestatic 191, 3) := by decide +kernel
theorem dX10_holds_12 : decode cX10_holds 12 = .ok (.ifCond .eq 13, 3) := by decide +kernel
theorem dX10_holds_15 : decode cX10_holds 15 = .ok (.iload_n 3, 1) := by decide +kernel
theorem dX10_holds_16 : decode cX10_holds 16 = .ok (.i2l, 1) := by decide +kernel
theorem dX10_holds_17 : decode cX10_holds 17 = .ok (.lconst 0, 1) := by decide +kernel
theorem dX10_holds_18 : decode cX10_holds 18 = .ok (.lconst 1, 1) := by decide +kernel
theorem dX10_holds_19 : decode cX10_holds 19 = .ok (.invokestatic 66, 3) := by decide +kernel
theorem dX10_holds_22 : decode cX10_holds 22 = .ok (.ifCond .ne 9, 3) := by decide +kernel
theorem dX10_holds_25 : decode cX10_holds 25 = .ok (.aload_n 0, 1) := by decide +kernel
theorem dX10_holds_26 : decode cX10_holds 26 = .ok (.iconst 1, 1) := by decide +kernel
theorem dX10_holds_27 : decode cX10_holds 27 = .ok (.invokevirtual 131, 3) := by decide +kernel
theorem dX10_holds_30 : decode cX10_holds 30 = .ok (.ireturn, 1) := by decide +kernel
theorem dX10_holds_31 : decode cX10_holds 31 = .ok (.iconst 0, 1) := by decide +kernel
theorem dX10_holds_32 : decode cX10_holds 32 = .ok (.istore 4, 2) := by decide +kernel
theorem dX10_holds_34 : decode cX10_holds 34 = .ok (.iload 4, 2) := by decide +kernel
theorem dX10_holds_36 : decode cX10_holds 36 = .ok (.sipush 601, 3) := by decide +kernel
theorem dX10_holds_39 : decode cX10_holds 39 = .ok (.if_icmp .ge 17, 3) := by decide +kernel
theorem dX10_holds_42 : decode cX10_holds 42 = .ok (.aload_n 0, 1) := by decide +kernel
theorem dX10_holds_43 : decode cX10_holds 43 = .ok (.getfield 47, 3) := by decide +kernel
theorem dX10_holds_46 : decode cX10_holds 46 = .ok (.iload 4, 2) := by decide +kernel
theorem dX10_holds_48 : decode cX10_holds 48 = .ok (.iconst 0, 1) := by decide +kernel
theorem dX10_holds_49 : decode cX10_holds 49 = .ok (.iastore, 1) := by decide +kernel
theorem dX10_holds_50 : decode cX10_holds 50 = .ok (.iinc 4 1, 3) := by decide +kernel
theorem dX10_holds_53 : decode cX10_holds 53 = .ok (.goto (-19), 3) := by decide +kernel
theorem dX10_holds_56 : decode cX10_holds 56 = .ok (.aload_n 0, 1) := by decide +kernel
theorem dX10_holds_57 : decode cX10_holds 57 = .ok (.getfield 7, 3) := by decide +kernel
theorem dX10_holds_60 : decode cX10_holds 60 = .ok (.bipush 100, 2) := by decide +kernel
theorem dX10_holds_62 : decode cX10_holds 62 = .ok (.iaload, 1) := by decide +kernel
theorem dX10_holds_63 : decode cX10_holds 63 = .ok (.istore 4, 2) := by decide +kernel
theorem dX10_holds_65 : decode cX10_holds 65 = .ok (.bipush (-5), 2) := by decide +kernel
theorem dX10_holds_67 : decode cX10_holds 67 = .ok (.istore 5, 2) := by decide +kernel
theorem dX10_holds_69 : decode cX10_holds 69 = .ok (.iload 5, 2) := by decide +kernel
theorem dX10_holds_71 : decode cX10_holds 71 = .ok (.bipush 6, 2) := by decide +kernel
theorem dX10_holds_73 : decode cX10_holds 73 = .ok (.if_icmp .ge 80, 3) := by decide +kernel
theorem dX10_holds_76 : decode cX10_holds 76 = .ok (.aload_n 0, 1) := by decide +kernel
theorem dX10_holds_77 : decode cX10_holds 77 = .ok (.getfield 7, 3) := by decide +kernel
theorem dX10_holds_80 : decode cX10_holds 80 = .ok (.bipush 100, 2) := by decide +kernel
theorem dX10_holds_82 : decode cX10_holds 82 = .ok (.iload 5, 2) := by decide +kernel
theorem dX10_holds_84 : decode cX10_holds 84 = .ok (.iastore, 1) := by decide +kernel
theorem dX10_holds_85 : decode cX10_holds 85 = .ok (.aload_n 0, 1) := by decide +kernel
theorem dX10_holds_86 : decode cX10_holds 86 = .ok (.iload_n 2, 1) := by decide +kernel
theorem dX10_holds_87 : decode cX10_holds 87 = .ok (.invokevirtual 238, 3) := by decide +kernel
theorem dX10_holds_90 : decode cX10_holds 90 = .ok (.aload_n 0, 1) := by decide +kernel
theorem dX10_holds_91 : decode cX10_holds 91 = .ok (.getfield 7, 3) := by decide +kernel
theorem dX10_holds_94 : decode cX10_holds 94 = .ok (.bipush 102, 2) := by decide +kernel
theorem dX10_holds_96 : decode cX10_holds 96 = .ok (.iaload, 1) := by decide +kernel
theorem dX10_holds_97 : decode cX10_holds 97 = .ok (.ineg, 1) := by decide +kernel
theorem dX10_holds_98 : decode cX10_holds 98 = .ok (.istore 6, 2) := by decide +kernel
theorem dX10_holds_100 : decode cX10_holds 100 = .ok (.iload 6, 2) := by decide +kernel
theorem dX10_holds_102 : decode cX10_holds 102 = .ok (.aload_n 0, 1) := by decide +kernel
theorem dX10_holds_103 : decode cX10_holds 103 = .ok (.getfield 7, 3) := by decide +kernel
theorem dX10_holds_106 : decode cX10_holds 106 = .ok (.bipush 102, 2) := by decide +kernel
theorem dX10_holds_108 : decode cX10_holds 108 = .ok (.iaload, 1) := by decide +kernel
theorem dX10_holds_109 : decode cX10_holds 109 = .ok (.if_icmp .gt 38, 3) := by decide +kernel
theorem dX10_holds_112 : decode cX10_holds 112 = .ok (.aload_n 0, 1) := by decide +kernel
theorem dX10_holds_113 : decode cX10_holds 113 = .ok (.getfield 47, 3) := by decide +kernel
theorem dX10_holds_116 : decode cX10_holds 116 = .ok (.sipush 300, 3) := by decide +kernel
theorem dX10_holds_119 : decode cX10_holds 119 = .ok (.iload 6, 2) := by decide +kernel
theorem dX10_holds_121 : decode cX10_holds 121 = .ok (.iadd, 1) := by decide +kernel
theorem dX10_holds_122 : decode cX10_holds 122 = .ok (.dup2, 1) := by decide +kernel
theorem dX10_holds_123 : decode cX10_holds 123 = .ok (.iaload, 1) := by decide +kernel
theorem dX10_holds_124 : decode cX10_holds 124 = .ok (.aload_n 0, 1) := by decide +kernel
theorem dX10_holds_125 : decode cX10_holds 125 = .ok (.iload_n 1, 1) := by decide +kernel
theorem dX10_holds_126 : decode cX10_holds 126 = .ok (.iload 6, 2) := by decide +kernel
theorem dX10_holds_128 : decode cX10_holds 128 = .ok (.invokevirtual 242, 3) := by decide +kernel
theorem dX10_holds_131 : decode cX10_holds 131 = .ok (.ifCond .le 7, 3) := by decide +kernel
theorem dX10_holds_134 : decode cX10_holds 134 = .ok (.iconst 1, 1) := by decide +kernel
theorem dX10_holds_135 : decode cX10_holds 135 = .ok (.goto 4, 3) := by decide +kernel
theorem dX10_holds_138 : decode cX10_holds 138 = .ok (.iconst 0, 1) := by decide +kernel
theorem dX10_holds_139 : decode cX10_holds 139 = .ok (.iadd, 1) := by decide +kernel
theorem dX10_holds_140 : decode cX10_holds 140 = .ok (.iastore, 1) := by decide +kernel
theorem dX10_holds_141 : decode cX10_holds 141 = .ok (.iinc 6 1, 3) := by decide +kernel
theorem dX10_holds_144 : decode cX10_holds 144 = .ok (.goto (-44), 3) := by decide +kernel
theorem dX10_holds_147 : decode cX10_holds 147 = .ok (.iinc 5 1, 3) := by decide +kernel
theorem dX10_holds_150 : decode cX10_holds 150 = .ok (.goto (-81), 3) := by decide +kernel
theorem dX10_holds_153 : decode cX10_holds 153 = .ok (.aload_n 0, 1) := by decide +kernel
theorem dX10_holds_154 : decode cX10_holds 154 = .ok (.getfield 7, 3) := by decide +kernel
theorem dX10_holds_157 : decode cX10_holds 157 = .ok (.bipush 100, 2) := by decide +kernel
theorem dX10_holds_159 : decode cX10_holds 159 = .ok (.iload 4, 2) := by decide +kernel
theorem dX10_holds_161 : decode cX10_holds 161 = .ok (.iastore, 1) := by decide +kernel
theorem dX10_holds_162 : decode cX10_holds 162 = .ok (.iconst 0, 1) := by decide +kernel
theorem dX10_holds_163 : decode cX10_holds 163 = .ok (.istore 5, 2) := by decide +kernel
theorem dX10_holds_165 : decode cX10_holds 165 = .ok (.iconst 1, 1) := by decide +kernel
theorem dX10_holds_166 : decode cX10_holds 166 = .ok (.istore 6, 2) := by decide +kernel
theorem dX10_holds_168 : decode cX10_holds 168 = .ok (.iload 6, 2) := by decide +kernel
theorem dX10_holds_170 : decode cX10_holds 170 = .ok (.aload_n 0, 1) := by decide +kernel
theorem dX10_holds_171 : decode cX10_holds 171 = .ok (.getfield 7, 3) := by decide +kernel
theorem dX10_holds_174 : decode cX10_holds 174 = .ok (.bipush 102, 2) := by decide +kernel
theorem dX10_holds_176 : decode cX10_holds 176 = .ok (.iaload, 1) := by decide +kernel
theorem dX10_holds_177 : decode cX10_holds 177 = .ok (.if_icmp .gt 78, 3) := by decide +kernel
theorem dX10_holds_180 : decode cX10_holds 180 = .ok (.aload_n 0, 1) := by decide +kernel
theorem dX10_holds_181 : decode cX10_holds 181 = .ok (.getfield 47, 3) := by decide +kernel
theorem dX10_holds_184 : decode cX10_holds 184 = .ok (.sipush 300, 3) := by decide +kernel
theorem dX10_holds_187 : decode cX10_holds 187 = .ok (.iload 6, 2) := by decide +kernel
theorem dX10_holds_189 : decode cX10_holds 189 = .ok (.isub, 1) := by decide +kernel
theorem dX10_holds_190 : decode cX10_holds 190 = .ok (.iaload, 1) := by decide +kernel
theorem dX10_holds_191 : decode cX10_holds 191 = .ok (.aload_n 0, 1) := by decide +kernel
theorem dX10_holds_192 : decode cX10_holds 192 = .ok (.getfield 47, 3) := by decide +kernel
theorem dX10_holds_195 : decode cX10_holds 195 = .ok (.sipush 300, 3) := by decide +kernel
theorem dX10_holds_198 : decode cX10_holds 198 = .ok (.iload 5, 2) := by decide +kernel
theorem dX10_holds_200 : decode cX10_holds 200 = .ok (.iadd, 1) := by decide +kernel
theorem dX10_holds_201 : decode cX10_holds 201 = .ok (.iaload, 1) := by decide +kernel
theorem dX10_holds_202 : decode cX10_holds 202 = .ok (.if_icmp .ge 9, 3) := by decide +kernel
theorem dX10_holds_205 : decode cX10_holds 205 = .ok (.iload 6, 2) := by decide +kernel
theorem dX10_holds_207 : decode cX10_holds 207 = .ok (.ineg, 1) := by decide +kernel
theorem dX10_holds_208 : decode cX10_holds 208 = .ok (.goto 5, 3) := by decide +kernel
theorem dX10_holds_211 : decode cX10_holds 211 = .ok (.iload 5, 2) := by decide +kernel
theorem dX10_holds_213 : decode cX10_holds 213 = .ok (.istore 5, 2) := by decide +kernel
theorem dX10_holds_215 : decode cX10_holds 215 = .ok (.aload_n 0, 1) := by decide +kernel
theorem dX10_holds_216 : decode cX10_holds 216 = .ok (.getfield 47, 3) := by decide +kernel
theorem dX10_holds_219 : decode cX10_holds 219 = .ok (.sipush 300, 3) := by decide +kernel
theorem dX10_holds_222 : decode cX10_holds 222 = .ok (.iload 6, 2) := by decide +kernel
theorem dX10_holds_224 : decode cX10_holds 224 = .ok (.iadd, 1) := by decide +kernel
theorem dX10_holds_225 : decode cX10_holds 225 = .ok (.iaload, 1) := by decide +kernel
theorem dX10_holds_226 : decode cX10_holds 226 = .ok (.aload_n 0, 1) := by decide +kernel
theorem dX10_holds_227 : decode cX10_holds 227 = .ok (.getfield 47, 3) := by decide +kernel
theorem dX10_holds_230 : decode cX10_holds 230 = .ok (.sipush 300, 3) := by decide +kernel
theorem dX10_holds_233 : decode cX10_holds 233 = .ok (.iload 5, 2) := by decide +kernel
theorem dX10_holds_235 : decode cX10_holds 235 = .ok (.iadd, 1) := by decide +kernel
theorem dX10_holds_236 : decode cX10_holds 236 = .ok (.iaload, 1) := by decide +kernel
theorem dX10_holds_237 : decode cX10_holds 237 = .ok (.if_icmp .ge 8, 3) := by decide +kernel
theorem dX10_holds_240 : decode cX10_holds 240 = .ok (.iload 6, 2) := by decide +kernel
theorem dX10_holds_242 : decode cX10_holds 242 = .ok (.goto 5, 3) := by decide +kernel
theorem dX10_holds_245 : decode cX10_holds 245 = .ok (.iload 5, 2) := by decide +kernel
theorem dX10_holds_247 : decode cX10_holds 247 = .ok (.istore 5, 2) := by decide +kernel
theorem dX10_holds_249 : decode cX10_holds 249 = .ok (.iinc 6 1, 3) := by decide +kernel
theorem dX10_holds_252 : decode cX10_holds 252 = .ok (.goto (-84), 3) := by decide +kernel
theorem dX10_holds_255 : decode cX10_holds 255 = .ok (.iload_n 3, 1) := by decide +kernel
theorem dX10_holds_256 : decode cX10_holds 256 = .ok (.ifCond .ne 8, 3) := by decide +kernel
theorem dX10_holds_259 : decode cX10_holds 259 = .ok (.iload 5, 2) := by decide +kernel
theorem dX10_holds_261 : decode cX10_holds 261 = .ok (.goto 14, 3) := by decide +kernel
theorem dX10_holds_264 : decode cX10_holds 264 = .ok (.aload_n 0, 1) := by decide +kernel
theorem dX10_holds_265 : decode cX10_holds 265 = .ok (.getfield 47, 3) := by decide +kernel
theorem dX10_holds_268 : decode cX10_holds 268 = .ok (.sipush 300, 3) := by decide +kernel
theorem dX10_holds_271 : decode cX10_holds 271 = .ok (.iload 5, 2) := by decide +kernel
theorem dX10_holds_273 : decode cX10_holds 273 = .ok (.iadd, 1) := by decide +kernel
theorem dX10_holds_274 : decode cX10_holds 274 = .ok (.iaload, 1) := by decide +kernel
theorem dX10_holds_275 : decode cX10_holds 275 = .ok (.ireturn, 1) := by decide +kernel
theorem dX10_common_0 : decode cX10_common 0 = .ok (.lload_n 0, 1) := by decide +kernel
theorem dX10_common_1 : decode cX10_common 1 = .ok (.lstore 4, 2) := by decide +kernel
theorem dX10_common_3 : decode cX10_common 3 = .ok (.lload_n 2, 1) := by decide +kernel
theorem dX10_common_4 : decode cX10_common 4 = .ok (.lstore 6, 2) := by decide +kernel
theorem dX10_common_6 : decode cX10_common 6 = .ok (.lload 6, 2) := by decide +kernel
theorem dX10_common_8 : decode cX10_common 8 = .ok (.lconst 0, 1) := by decide +kernel
theorem dX10_common_9 : decode cX10_common 9 = .ok (.lcmp, 1) := by decide +kernel
theorem dX10_common_10 : decode cX10_common 10 = .ok (.ifCond .eq 21, 3) := by decide +kernel
theorem dX10_common_13 : decode cX10_common 13 = .ok (.lload 4, 2) := by decide +kernel
theorem dX10_common_15 : decode cX10_common 15 = .ok (.lload 6, 2) := by decide +kernel
theorem dX10_common_17 : decode cX10_common 17 = .ok (.lrem, 1) := by decide +kernel
theorem dX10_common_18 : decode cX10_common 18 = .ok (.lstore 8, 2) := by decide +kernel
theorem dX10_common_20 : decode cX10_common 20 = .ok (.lload 6, 2) := by decide +kernel
theorem dX10_common_22 : decode cX10_common 22 = .ok (.lstore 4, 2) := by decide +kernel
theorem dX10_common_24 : decode cX10_common 24 = .ok (.lload 8, 2) := by decide +kernel
theorem dX10_common_26 : decode cX10_common 26 = .ok (.lstore 6, 2) := by decide +kernel
theorem dX10_common_28 : decode cX10_common 28 = .ok (.goto (-22), 3) := by decide +kernel
theorem dX10_common_31 : decode cX10_common 31 = .ok (.lload 4, 2) := by decide +kernel
theorem dX10_common_33 : decode cX10_common 33 = .ok (.lreturn, 1) := by decide +kernel
theorem dX10_chance_0 : decode cX10_chance 0 = .ok (.aload_n 0, 1) := by decide +kernel
theorem dX10_chance_1 : decode cX10_chance 1 = .ok (.iload_n 1, 1) := by decide +kernel
theorem dX10_chance_2 : decode cX10_chance 2 = .ok (.invokevirtual 170, 3) := by decide +kernel
theorem dX10_chance_5 : decode cX10_chance 5 = .ok (.ifCond .eq 20, 3) := by decide +kernel
theorem dX10_chance_8 : decode cX10_chance 8 = .ok (.iload_n 2, 1) := by decide +kernel
theorem dX10_chance_9 : decode cX10_chance 9 = .ok (.invokestatic 191, 3) := by decide +kernel
theorem dX10_chance_12 : decode cX10_chance 12 = .ok (.ifCond .eq 13, 3) := by decide +kernel
theorem dX10_chance_15 : decode cX10_chance 15 = .ok (.iload_n 3, 1) := by decide +kernel
theorem dX10_chance_16 : decode cX10_chance 16 = .ok (.i2l, 1) := by decide +kernel
theorem dX10_chance_17 : decode cX10_chance 17 = .ok (.lconst 0, 1) := by decide +kernel
theorem dX10_chance_18 : decode cX10_chance 18 = .ok (.lconst 1, 1) := by decide +kernel
theorem dX10_chance_19 : decode cX10_chance 19 = .ok (.invokestatic 66, 3) := by decide +kernel
theorem dX10_chance_22 : decode cX10_chance 22 = .ok (.ifCond .ne 9, 3) := by decide +kernel
theorem dX10_chance_25 : decode cX10_chance 25 = .ok (.aload_n 0, 1) := by decide +kernel
theorem dX10_chance_26 : decode cX10_chance 26 = .ok (.iconst 1, 1) := by decide +kernel
theorem dX10_chance_27 : decode cX10_chance 27 = .ok (.invokevirtual 131, 3) := by decide +kernel
theorem dX10_chance_30 : decode cX10_chance 30 = .ok (.ireturn, 1) := by decide +kernel
theorem dX10_chance_31 : decode cX10_chance 31 = .ok (.aload_n 0, 1) := by decide +kernel
theorem dX10_chance_32 : decode cX10_chance 32 = .ok (.iload_n 1, 1) := by decide +kernel
theorem dX10_chance_33 : decode cX10_chance 33 = .ok (.iconst 0, 1) := by decide +kernel
theorem dX10_chance_34 : decode cX10_chance 34 = .ok (.invokevirtual 175, 3) := by decide +kernel
theorem dX10_chance_37 : decode cX10_chance 37 = .ok (.iconst 3, 1) := by decide +kernel
theorem dX10_chance_38 : decode cX10_chance 38 = .ok (.invokestatic 185, 3) := by decide +kernel
theorem dX10_chance_41 : decode cX10_chance 41 = .ok (.ifCond .ne 9, 3) := by decide +kernel
theorem dX10_chance_44 : decode cX10_chance 44 = .ok (.aload_n 0, 1) := by decide +kernel
theorem dX10_chance_45 : decode cX10_chance 45 = .ok (.iconst 5, 1) := by decide +kernel
theorem dX10_chance_46 : decode cX10_chance 46 = .ok (.invokevirtual 131, 3) := by decide +kernel
theorem dX10_chance_49 : decode cX10_chance 49 = .ok (.ireturn, 1) := by decide +kernel
theorem dX10_chance_50 : decode cX10_chance 50 = .ok (.aload_n 0, 1) := by decide +kernel
theorem dX10_chance_51 : decode cX10_chance 51 = .ok (.iload_n 2, 1) := by decide +kernel
theorem dX10_chance_52 : decode cX10_chance 52 = .ok (.invokevirtual 238, 3) := by decide +kernel
theorem dX10_chance_55 : decode cX10_chance 55 = .ok (.aload_n 0, 1) := by decide +kernel
theorem dX10_chance_56 : decode cX10_chance 56 = .ok (.iload_n 1, 1) := by decide +kernel
theorem dX10_chance_57 : decode cX10_chance 57 = .ok (.iconst 2, 1) := by decide +kernel
theorem dX10_chance_58 : decode cX10_chance 58 = .ok (.invokevirtual 175, 3) := by decide +kernel
theorem dX10_chance_61 : decode cX10_chance 61 = .ok (.istore 4, 2) := by decide +kernel
theorem dX10_chance_63 : decode cX10_chance 63 = .ok (.iconst 0, 1) := by decide +kernel
theorem dX10_chance_64 : decode cX10_chance 64 = .ok (.istore 5, 2) := by decide +kernel
theorem dX10_chance_66 : decode cX10_chance 66 = .ok (.iconst 0, 1) := by decide +kernel
theorem dX10_chance_67 : decode cX10_chance 67 = .ok (.istore 6, 2) := by decide +kernel
theorem dX10_chance_69 : decode cX10_chance 69 = .ok (.iconst 0, 1) := by decide +kernel
theorem dX10_chance_70 : decode cX10_chance 70 = .ok (.istore 7, 2) := by decide +kernel
theorem dX10_chance_72 : decode cX10_chance 72 = .ok (.iload 7, 2) := by decide +kernel
theorem dX10_chance_74 : decode cX10_chance 74 = .ok (.bipush 100, 2) := by decide +kernel
theorem dX10_chance_76 : decode cX10_chance 76 = .ok (.if_icmp .ge 62, 3) := by decide +kernel
theorem dX10_chance_79 : decode cX10_chance 79 = .ok (.iload 7, 2) := by decide +kernel
theorem dX10_chance_81 : decode cX10_chance 81 = .ok (.iload 4, 2) := by decide +kernel
theorem dX10_chance_83 : decode cX10_chance 83 = .ok (.isub, 1) := by decide +kernel
theorem dX10_chance_84 : decode cX10_chance 84 = .ok (.invokestatic 200, 3) := by decide +kernel
theorem dX10_chance_87 : decode cX10_chance 87 = .ok (.aload_n 0, 1) := by decide +kernel
theorem dX10_chance_88 : decode cX10_chance 88 = .ok (.iload_n 1, 1) := by decide +kernel
theorem dX10_chance_89 : decode cX10_chance 89 = .ok (.iconst 1, 1) := by decide +kernel
theorem dX10_chance_90 : decode cX10_chance 90 = .ok (.invokevirtual 175, 3) := by decide +kernel
theorem dX10_chance_93 : decode cX10_chance 93 = .ok (.if_icmp .gt 39, 3) := by decide +kernel
theorem dX10_chance_96 : decode cX10_chance 96 = .ok (.aload_n 0, 1) := by decide +kernel
theorem dX10_chance_97 : decode cX10_chance 97 = .ok (.iload_n 1, 1) := by decide +kernel
theorem dX10_chance_98 : decode cX10_chance 98 = .ok (.iconst 2, 1) := by decide +kernel
theorem dX10_chance_99 : decode cX10_chance 99 = .ok (.iload 7, 2) := by decide +kernel
theorem dX10_chance_101 : decode cX10_chance 101 = .ok (.invokevirtual 162, 3) := by decide +kernel
theorem dX10_chance_104 : decode cX10_chance 104 = .ok (.aload_n 0, 1) := by decide +kernel
theorem dX10_chance_105 : decode cX10_chance 105 = .ok (.iload_n 1, 1) := by decide +kernel
theorem dX10_chance_106 : decode cX10_chance 106 = .ok (.iload_n 2, 1) := by decide +kernel
theorem dX10_chance_107 : decode cX10_chance 107 = .ok (.invokevirtual 227, 3) := by decide +kernel
theorem dX10_chance_110 : decode cX10_chance 110 = .ok (.iload 5, 2) := by decide +kernel
theorem dX10_chance_112 : decode cX10_chance 112 = .ok (.aload_n 0, 1) := by decide +kernel
theorem dX10_chance_113 : decode cX10_chance 113 = .ok (.iload_n 1, 1) := by decide +kernel
theorem dX10_chance_114 : decode cX10_chance 114 = .ok (.iconst 0, 1) := by decide +kernel
theorem dX10_chance_115 : decode cX10_chance 115 = .ok (.invokevirtual 242, 3) := by decide +kernel
theorem dX10_chance_118 : decode cX10_chance 118 = .ok (.ifCond .le 7, 3) := by decide +kernel
theorem dX10_chance_121 : decode cX10_chance 121 = .ok (.iconst 1, 1) := by decide +kernel
theorem dX10_chance_122 : decode cX10_chance 122 = .ok (.goto 4, 3) := by decide +kernel
theorem dX10_chance_125 : decode cX10_chance 125 = .ok (.iconst 0, 1) := by decide +kernel
theorem dX10_chance_126 : decode cX10_chance 126 = .ok (.iadd, 1) := by decide +kernel
theorem dX10_chance_127 : decode cX10_chance 127 = .ok (.istore 5, 2) := by decide +kernel
theorem dX10_chance_129 : decode cX10_chance 129 = .ok (.iinc 6 1, 3) := by decide +kernel
theorem dX10_chance_132 : decode cX10_chance 132 = .ok (.iinc 7 1, 3) := by decide +kernel
theorem dX10_chance_135 : decode cX10_chance 135 = .ok (.goto (-63), 3) := by decide +kernel
theorem dX10_chance_138 : decode cX10_chance 138 = .ok (.aload_n 0, 1) := by decide +kernel
theorem dX10_chance_139 : decode cX10_chance 139 = .ok (.iload_n 1, 1) := by decide +kernel
theorem dX10_chance_140 : decode cX10_chance 140 = .ok (.iconst 2, 1) := by decide +kernel
theorem dX10_chance_141 : decode cX10_chance 141 = .ok (.iload 4, 2) := by decide +kernel
theorem dX10_chance_143 : decode cX10_chance 143 = .ok (.invokevirtual 162, 3) := by decide +kernel
theorem dX10_chance_146 : decode cX10_chance 146 = .ok (.iload 5, 2) := by decide +kernel
theorem dX10_chance_148 : decode cX10_chance 148 = .ok (.i2l, 1) := by decide +kernel
theorem dX10_chance_149 : decode cX10_chance 149 = .ok (.iload 6, 2) := by decide +kernel
theorem dX10_chance_151 : decode cX10_chance 151 = .ok (.i2l, 1) := by decide +kernel
theorem dX10_chance_152 : decode cX10_chance 152 = .ok (.invokestatic 273, 3) := by decide +kernel
theorem dX10_chance_155 : decode cX10_chance 155 = .ok (.l2i, 1) := by decide +kernel
theorem dX10_chance_156 : decode cX10_chance 156 = .ok (.istore 7, 2) := by decide +kernel
theorem dX10_chance_158 : decode cX10_chance 158 = .ok (.iload_n 3, 1) := by decide +kernel
theorem dX10_chance_159 : decode cX10_chance 159 = .ok (.ifCond .ne 11, 3) := by decide +kernel
theorem dX10_chance_162 : decode cX10_chance 162 = .ok (.iload 5, 2) := by decide +kernel
theorem dX10_chance_164 : decode cX10_chance 164 = .ok (.iload 7, 2) := by decide +kernel
theorem dX10_chance_166 : decode cX10_chance 166 = .ok (.idiv, 1) := by decide +kernel
theorem dX10_chance_167 : decode cX10_chance 167 = .ok (.goto 8, 3) := by decide +kernel
theorem dX10_chance_170 : decode cX10_chance 170 = .ok (.iload 6, 2) := by decide +kernel
theorem dX10_chance_172 : decode cX10_chance 172 = .ok (.iload 7, 2) := by decide +kernel
theorem dX10_chance_174 : decode cX10_chance 174 = .ok (.idiv, 1) := by decide +kernel
theorem dX10_chance_175 : decode cX10_chance 175 = .ok (.ireturn, 1) := by decide +kernel
theorem dX10_loudAt_0 : decode cX10_loudAt 0 = .ok (.aload_n 0, 1) := by decide +kernel
theorem dX10_loudAt_1 : decode cX10_loudAt 1 = .ok (.getfield 7, 3) := by decide +kernel
theorem dX10_loudAt_4 : decode cX10_loudAt 4 = .ok (.bipush 103, 2) := by decide +kernel
theorem dX10_loudAt_6 : decode cX10_loudAt 6 = .ok (.iaload, 1) := by decide +kernel
theorem dX10_loudAt_7 : decode cX10_loudAt 7 = .ok (.istore_n 3, 1) := by decide +kernel
theorem dX10_loudAt_8 : decode cX10_loudAt 8 = .ok (.bipush 99, 2) := by decide +kernel
theorem dX10_loudAt_10 : decode cX10_loudAt 10 = .ok (.istore 4, 2) := by decide +kernel
theorem dX10_loudAt_12 : decode cX10_loudAt 12 = .ok (.iload 4, 2) := by decide +kernel
theorem dX10_loudAt_14 : decode cX10_loudAt 14 = .ok (.ifCond .lt 37, 3) := by decide +kernel
theorem dX10_loudAt_17 : decode cX10_loudAt 17 = .ok (.aload_n 0, 1) := by decide +kernel
theorem dX10_loudAt_18 : decode cX10_loudAt 18 = .ok (.iload_n 3, 1) := by decide +kernel
theorem dX10_loudAt_19 : decode cX10_loudAt 19 = .ok (.iconst 0, 1) := by decide +kernel
theorem dX10_loudAt_20 : decode cX10_loudAt 20 = .ok (.iconst 0, 1) := by decide +kernel
theorem dX10_loudAt_21 : decode cX10_loudAt 21 = .ok (.iload_n 1, 1) := by decide +kernel
theorem dX10_loudAt_22 : decode cX10_loudAt 22 = .ok (.iload 4, 2) := by decide +kernel
theorem dX10_loudAt_24 : decode cX10_loudAt 24 = .ok (.invokevirtual 166, 3) := by decide +kernel
theorem dX10_loudAt_27 : decode cX10_loudAt 27 = .ok (.aload_n 0, 1) := by decide +kernel
theorem dX10_loudAt_28 : decode cX10_loudAt 28 = .ok (.iload_n 3, 1) := by decide +kernel
theorem dX10_loudAt_29 : decode cX10_loudAt 29 = .ok (.iload_n 2, 1) := by decide +kernel
theorem dX10_loudAt_30 : decode cX10_loudAt 30 = .ok (.invokevirtual 227, 3) := by decide +kernel
theorem dX10_loudAt_33 : decode cX10_loudAt 33 = .ok (.aload_n 0, 1) := by decide +kernel
theorem dX10_loudAt_34 : decode cX10_loudAt 34 = .ok (.iload_n 3, 1) := by decide +kernel
theorem dX10_loudAt_35 : decode cX10_loudAt 35 = .ok (.iconst 0, 1) := by decide +kernel
theorem dX10_loudAt_36 : decode cX10_loudAt 36 = .ok (.invokevirtual 242, 3) := by decide +kernel
theorem dX10_loudAt_39 : decode cX10_loudAt 39 = .ok (.ifCond .ne 6, 3) := by decide +kernel
theorem dX10_loudAt_42 : decode cX10_loudAt 42 = .ok (.iload 4, 2) := by decide +kernel
theorem dX10_loudAt_44 : decode cX10_loudAt 44 = .ok (.ireturn, 1) := by decide +kernel
theorem dX10_loudAt_45 : decode cX10_loudAt 45 = .ok (.iinc 4 (-1), 3) := by decide +kernel
theorem dX10_loudAt_48 : decode cX10_loudAt 48 = .ok (.goto (-36), 3) := by decide +kernel
theorem dX10_loudAt_51 : decode cX10_loudAt 51 = .ok (.iconst (-1), 1) := by decide +kernel
theorem dX10_loudAt_52 : decode cX10_loudAt 52 = .ok (.ireturn, 1) := by decide +kernel
theorem dX10_hangs_0 : decode cX10_hangs 0 = .ok (.iload_n 1, 1) := by decide +kernel
theorem dX10_hangs_1 : decode cX10_hangs 1 = .ok (.i2l, 1) := by decide +kernel
theorem dX10_hangs_2 : decode cX10_hangs 2 = .ok (.lconst 0, 1) := by decide +kernel
theorem dX10_hangs_3 : decode cX10_hangs 3 = .ok (.ldc2_w 150, 3) := by decide +kernel
theorem dX10_hangs_6 : decode cX10_hangs 6 = .ok (.invokestatic 66, 3) := by decide +kernel
theorem dX10_hangs_9 : decode cX10_hangs 9 = .ok (.ifCond .eq 10, 3) := by decide +kernel
theorem dX10_hangs_12 : decode cX10_hangs 12 = .ok (.iload_n 2, 1) := by decide +kernel
theorem dX10_hangs_13 : decode cX10_hangs 13 = .ok (.invokestatic 191, 3) := by decide +kernel
theorem dX10_hangs_16 : decode cX10_hangs 16 = .ok (.ifCond .ne 9, 3) := by decide +kernel
theorem dX10_hangs_19 : decode cX10_hangs 19 = .ok (.aload_n 0, 1) := by decide +kernel
theorem dX10_hangs_20 : decode cX10_hangs 20 = .ok (.iconst 1, 1) := by decide +kernel
theorem dX10_hangs_21 : decode cX10_hangs 21 = .ok (.invokevirtual 131, 3) := by decide +kernel
theorem dX10_hangs_24 : decode cX10_hangs 24 = .ok (.ireturn, 1) := by decide +kernel
theorem dX10_hangs_25 : decode cX10_hangs 25 = .ok (.aload_n 0, 1) := by decide +kernel
theorem dX10_hangs_26 : decode cX10_hangs 26 = .ok (.iload_n 2, 1) := by decide +kernel
theorem dX10_hangs_27 : decode cX10_hangs 27 = .ok (.invokevirtual 238, 3) := by decide +kernel
theorem dX10_hangs_30 : decode cX10_hangs 30 = .ok (.aload_n 0, 1) := by decide +kernel
theorem dX10_hangs_31 : decode cX10_hangs 31 = .ok (.iload_n 1, 1) := by decide +kernel
theorem dX10_hangs_32 : decode cX10_hangs 32 = .ok (.iload_n 2, 1) := by decide +kernel
theorem dX10_hangs_33 : decode cX10_hangs 33 = .ok (.invokevirtual 277, 3) := by decide +kernel
theorem dX10_hangs_36 : decode cX10_hangs 36 = .ok (.istore_n 3, 1) := by decide +kernel
theorem dX10_hangs_37 : decode cX10_hangs 37 = .ok (.iload_n 3, 1) := by decide +kernel
theorem dX10_hangs_38 : decode cX10_hangs 38 = .ok (.ifCond .ge 11, 3) := by decide +kernel
theorem dX10_hangs_41 : decode cX10_hangs 41 = .ok (.aload_n 0, 1) := by decide +kernel
theorem dX10_hangs_42 : decode cX10_hangs 42 = .ok (.iconst 2, 1) := by decide +kernel
theorem dX10_hangs_43 : decode cX10_hangs 43 = .ok (.invokevirtual 131, 3) := by decide +kernel
theorem dX10_hangs_46 : decode cX10_hangs 46 = .ok (.goto 4, 3) := by decide +kernel
theorem dX10_hangs_49 : decode cX10_hangs 49 = .ok (.iload_n 3, 1) := by decide +kernel
theorem dX10_hangs_50 : decode cX10_hangs 50 = .ok (.ireturn, 1) := by decide +kernel
theorem dX10_place_0 : decode cX10_place 0 = .ok (.iload_n 1, 1) := by decide +kernel
theorem dX10_place_1 : decode cX10_place 1 = .ok (.invokestatic 191, 3) := by decide +kernel
theorem dX10_place_4 : decode cX10_place 4 = .ok (.ifCond .eq 13, 3) := by decide +kernel
theorem dX10_place_7 : decode cX10_place 7 = .ok (.iload_n 2, 1) := by decide +kernel
theorem dX10_place_8 : decode cX10_place 8 = .ok (.i2l, 1) := by decide +kernel
theorem dX10_place_9 : decode cX10_place 9 = .ok (.lconst 0, 1) := by decide +kernel
theorem dX10_place_10 : decode cX10_place 10 = .ok (.lconst 1, 1) := by decide +kernel
theorem dX10_place_11 : decode cX10_place 11 = .ok (.invokestatic 66, 3) := by decide +kernel
theorem dX10_place_14 : decode cX10_place 14 = .ok (.ifCond .ne 9, 3) := by decide +kernel
theorem dX10_place_17 : decode cX10_place 17 = .ok (.aload_n 0, 1) := by decide +kernel
theorem dX10_place_18 : decode cX10_place 18 = .ok (.iconst 1, 1) := by decide +kernel
theorem dX10_place_19 : decode cX10_place 19 = .ok (.invokevirtual 131, 3) := by decide +kernel
theorem dX10_place_22 : decode cX10_place 22 = .ok (.ireturn, 1) := by decide +kernel
theorem dX10_place_23 : decode cX10_place 23 = .ok (.aload_n 0, 1) := by decide +kernel
theorem dX10_place_24 : decode cX10_place 24 = .ok (.iload_n 1, 1) := by decide +kernel
theorem dX10_place_25 : decode cX10_place 25 = .ok (.invokevirtual 238, 3) := by decide +kernel
theorem dX10_place_28 : decode cX10_place 28 = .ok (.iconst 0, 1) := by decide +kernel
theorem dX10_place_29 : decode cX10_place 29 = .ok (.istore_n 3, 1) := by decide +kernel
theorem dX10_place_30 : decode cX10_place 30 = .ok (.iconst (-1), 1) := by decide +kernel
theorem dX10_place_31 : decode cX10_place 31 = .ok (.istore 4, 2) := by decide +kernel
theorem dX10_place_33 : decode cX10_place 33 = .ok (.iconst 0, 1) := by decide +kernel
theorem dX10_place_34 : decode cX10_place 34 = .ok (.istore 5, 2) := by decide +kernel
theorem dX10_place_36 : decode cX10_place 36 = .ok (.iload 5, 2) := by decide +kernel
theorem dX10_place_38 : decode cX10_place 38 = .ok (.bipush 100, 2) := by decide +kernel
theorem dX10_place_40 : decode cX10_place 40 = .ok (.if_icmp .ge 48, 3) := by decide +kernel
theorem dX10_place_43 : decode cX10_place 43 = .ok (.aload_n 0, 1) := by decide +kernel
theorem dX10_place_44 : decode cX10_place 44 = .ok (.iload 5, 2) := by decide +kernel
theorem dX10_place_46 : decode cX10_place 46 = .ok (.iload_n 1, 1) := by decide +kernel
theorem dX10_place_47 : decode cX10_place 47 = .ok (.invokevirtual 277, 3) := by decide +kernel
theorem dX10_place_50 : decode cX10_place 50 = .ok (.istore 6, 2) := by decide +kernel
theorem dX10_place_52 : decode cX10_place 52 = .ok (.iload 6, 2) := by decide +kernel
theorem dX10_place_54 : decode cX10_place 54 = .ok (.iload 4, 2) := by decide +kernel
theorem dX10_place_56 : decode cX10_place 56 = .ok (.if_icmp .le 8, 3) := by decide +kernel
theorem dX10_place_59 : decode cX10_place 59 = .ok (.iload 5, 2) := by decide +kernel
theorem dX10_place_61 : decode cX10_place 61 = .ok (.goto 4, 3) := by decide +kernel
theorem dX10_place_64 : decode cX10_place 64 = .ok (.iload_n 3, 1) := by decide +kernel
theorem dX10_place_65 : decode cX10_place 65 = .ok (.istore_n 3, 1) := by decide +kernel
theorem dX10_place_66 : decode cX10_place 66 = .ok (.iload 6, 2) := by decide +kernel
theorem dX10_place_68 : decode cX10_place 68 = .ok (.iload 4, 2) := by decide +kernel
theorem dX10_place_70 : decode cX10_place 70 = .ok (.if_icmp .le 8, 3) := by decide +kernel
theorem dX10_place_73 : decode cX10_place 73 = .ok (.iload 6, 2) := by decide +kernel
theorem dX10_place_75 : decode cX10_place 75 = .ok (.goto 5, 3) := by decide +kernel
theorem dX10_place_78 : decode cX10_place 78 = .ok (.iload 4, 2) := by decide +kernel
theorem dX10_place_80 : decode cX10_place 80 = .ok (.istore 4, 2) := by decide +kernel
theorem dX10_place_82 : decode cX10_place 82 = .ok (.iinc 5 5, 3) := by decide +kernel
theorem dX10_place_85 : decode cX10_place 85 = .ok (.goto (-49), 3) := by decide +kernel
theorem dX10_place_88 : decode cX10_place 88 = .ok (.iload 4, 2) := by decide +kernel
theorem dX10_place_90 : decode cX10_place 90 = .ok (.ifCond .ge 11, 3) := by decide +kernel
theorem dX10_place_93 : decode cX10_place 93 = .ok (.aload_n 0, 1) := by decide +kernel
theorem dX10_place_94 : decode cX10_place 94 = .ok (.iconst 2, 1) := by decide +kernel
theorem dX10_place_95 : decode cX10_place 95 = .ok (.invokevirtual 131, 3) := by decide +kernel
theorem dX10_place_98 : decode cX10_place 98 = .ok (.goto 13, 3) := by decide +kernel
theorem dX10_place_101 : decode cX10_place 101 = .ok (.iload_n 2, 1) := by decide +kernel
theorem dX10_place_102 : decode cX10_place 102 = .ok (.ifCond .ne 7, 3) := by decide +kernel
theorem dX10_place_105 : decode cX10_place 105 = .ok (.iload_n 3, 1) := by decide +kernel
theorem dX10_place_106 : decode cX10_place 106 = .ok (.goto 5, 3) := by decide +kernel
theorem dX10_place_109 : decode cX10_place 109 = .ok (.iload 4, 2) := by decide +kernel
theorem dX10_place_111 : decode cX10_place 111 = .ok (.ireturn, 1) := by decide +kernel
theorem dX10_goesBy_0 : decode cX10_goesBy 0 = .ok (.iconst 0, 1) := by decide +kernel
theorem dX10_goesBy_1 : decode cX10_goesBy 1 = .ok (.istore_n 1, 1) := by decide +kernel
theorem dX10_goesBy_2 : decode cX10_goesBy 2 = .ok (.iload_n 1, 1) := by decide +kernel
theorem dX10_goesBy_3 : decode cX10_goesBy 3 = .ok (.aload_n 0, 1) := by decide +kernel
theorem dX10_goesBy_4 : decode cX10_goesBy 4 = .ok (.getfield 7, 3) := by decide +kernel
theorem dX10_goesBy_7 : decode cX10_goesBy 7 = .ok (.bipush 103, 2) := by decide +kernel
theorem dX10_goesBy_9 : decode cX10_goesBy 9 = .ok (.iaload, 1) := by decide +kernel
theorem dX10_goesBy_10 : decode cX10_goesBy 10 = .ok (.if_icmp .ge 79, 3) := by decide +kernel
theorem dX10_goesBy_13 : decode cX10_goesBy 13 = .ok (.aload_n 0, 1) := by decide +kernel
theorem dX10_goesBy_14 : decode cX10_goesBy 14 = .ok (.iload_n 1, 1) := by decide +kernel
theorem dX10_goesBy_15 : decode cX10_goesBy 15 = .ok (.iconst 0, 1) := by decide +kernel
theorem dX10_goesBy_16 : decode cX10_goesBy 16 = .ok (.invokevirtual 175, 3) := by decide +kernel
theorem dX10_goesBy_19 : decode cX10_goesBy 19 = .ok (.iconst 3, 1) := by decide +kernel
theorem dX10_goesBy_20 : decode cX10_goesBy 20 = .ok (.invokestatic 185, 3) := by decide +kernel
theorem dX10_goesBy_23 : decode cX10_goesBy 23 = .ok (.ifCond .eq 60, 3) := by decide +kernel
theorem dX10_goesBy_26 : decode cX10_goesBy 26 = .ok (.aload_n 0, 1) := by decide +kernel
theorem dX10_goesBy_27 : decode cX10_goesBy 27 = .ok (.getfield 7, 3) := by decide +kernel
theorem dX10_goesBy_30 : decode cX10_goesBy 30 = .ok (.bipush 105, 2) := by decide +kernel
theorem dX10_goesBy_32 : decode cX10_goesBy 32 = .ok (.aload_n 0, 1) := by decide +kernel
theorem dX10_goesBy_33 : decode cX10_goesBy 33 = .ok (.getfield 7, 3) := by decide +kernel
theorem dX10_goesBy_36 : decode cX10_goesBy 36 = .ok (.bipush 105, 2) := by decide +kernel
theorem dX10_goesBy_38 : decode cX10_goesBy 38 = .ok (.iaload, 1) := by decide +kernel
theorem dX10_goesBy_39 : decode cX10_goesBy 39 = .ok (.ldc_w 280, 3) := by decide +kernel
theorem dX10_goesBy_42 : decode cX10_goesBy 42 = .ok (.imul, 1) := by decide +kernel
theorem dX10_goesBy_43 : decode cX10_goesBy 43 = .ok (.sipush 12345, 3) := by decide +kernel
theorem dX10_goesBy_46 : decode cX10_goesBy 46 = .ok (.iadd, 1) := by decide +kernel
theorem dX10_goesBy_47 : decode cX10_goesBy 47 = .ok (.iastore, 1) := by decide +kernel
theorem dX10_goesBy_48 : decode cX10_goesBy 48 = .ok (.aload_n 0, 1) := by decide +kernel
theorem dX10_goesBy_49 : decode cX10_goesBy 49 = .ok (.iload_n 1, 1) := by decide +kernel
theorem dX10_goesBy_50 : decode cX10_goesBy 50 = .ok (.iconst 2, 1) := by decide +kernel
theorem dX10_goesBy_51 : decode cX10_goesBy 51 = .ok (.aload_n 0, 1) := by decide +kernel
theorem dX10_goesBy_52 : decode cX10_goesBy 52 = .ok (.aload_n 0, 1) := by decide +kernel
theorem dX10_goesBy_53 : decode cX10_goesBy 53 = .ok (.iload_n 1, 1) := by decide +kernel
theorem dX10_goesBy_54 : decode cX10_goesBy 54 = .ok (.iconst 2, 1) := by decide +kernel
theorem dX10_goesBy_55 : decode cX10_goesBy 55 = .ok (.invokevirtual 175, 3) := by decide +kernel
theorem dX10_goesBy_58 : decode cX10_goesBy 58 = .ok (.aload_n 0, 1) := by decide +kernel
theorem dX10_goesBy_59 : decode cX10_goesBy 59 = .ok (.getfield 7, 3) := by decide +kernel
theorem dX10_goesBy_62 : decode cX10_goesBy 62 = .ok (.bipush 105, 2) := by decide +kernel
theorem dX10_goesBy_64 : decode cX10_goesBy 64 = .ok (.iaload, 1) := by decide +kernel
theorem dX10_goesBy_65 : decode cX10_goesBy 65 = .ok (.bipush 8, 2) := by decide +kernel
theorem dX10_goesBy_67 : decode cX10_goesBy 67 = .ok (.iushr, 1) := by decide +kernel
theorem dX10_goesBy_68 : decode cX10_goesBy 68 = .ok (.bipush 7, 2) := by decide +kernel
theorem dX10_goesBy_70 : decode cX10_goesBy 70 = .ok (.irem, 1) := by decide +kernel
theorem dX10_goesBy_71 : decode cX10_goesBy 71 = .ok (.aload_n 0, 1) := by decide +kernel
theorem dX10_goesBy_72 : decode cX10_goesBy 72 = .ok (.iload_n 1, 1) := by decide +kernel
theorem dX10_goesBy_73 : decode cX10_goesBy 73 = .ok (.iconst 1, 1) := by decide +kernel
theorem dX10_goesBy_74 : decode cX10_goesBy 74 = .ok (.invokevirtual 175, 3) := by decide +kernel
theorem dX10_goesBy_77 : decode cX10_goesBy 77 = .ok (.invokevirtual 147, 3) := by decide +kernel
theorem dX10_goesBy_80 : decode cX10_goesBy 80 = .ok (.invokevirtual 162, 3) := by decide +kernel
theorem dX10_goesBy_83 : decode cX10_goesBy 83 = .ok (.iinc 1 1, 3) := by decide +kernel
theorem dX10_goesBy_86 : decode cX10_goesBy 86 = .ok (.goto (-84), 3) := by decide +kernel
theorem dX10_goesBy_89 : decode cX10_goesBy 89 = .ok (.return_, 1) := by decide +kernel
theorem dX10_days_0 : decode cX10_days 0 = .ok (.iload_n 1, 1) := by decide +kernel
theorem dX10_days_1 : decode cX10_days 1 = .ok (.i2l, 1) := by decide +kernel
theorem dX10_days_2 : decode cX10_days 2 = .ok (.lconst 1, 1) := by decide +kernel
theorem dX10_days_3 : decode cX10_days 3 = .ok (.ldc2_w 281, 3) := by decide +kernel
theorem dX10_days_6 : decode cX10_days 6 = .ok (.invokestatic 66, 3) := by decide +kernel
theorem dX10_days_9 : decode cX10_days 9 = .ok (.ifCond .ne 9, 3) := by decide +kernel
theorem dX10_days_12 : decode cX10_days 12 = .ok (.aload_n 0, 1) := by decide +kernel
theorem dX10_days_13 : decode cX10_days 13 = .ok (.iconst 1, 1) := by decide +kernel
theorem dX10_days_14 : decode cX10_days 14 = .ok (.invokevirtual 131, 3) := by decide +kernel
theorem dX10_days_17 : decode cX10_days 17 = .ok (.ireturn, 1) := by decide +kernel
theorem dX10_days_18 : decode cX10_days 18 = .ok (.iconst 0, 1) := by decide +kernel
theorem dX10_days_19 : decode cX10_days 19 = .ok (.istore_n 2, 1) := by decide +kernel
theorem dX10_days_20 : decode cX10_days 20 = .ok (.iload_n 2, 1) := by decide +kernel
theorem dX10_days_21 : decode cX10_days 21 = .ok (.iload_n 1, 1) := by decide +kernel
theorem dX10_days_22 : decode cX10_days 22 = .ok (.if_icmp .ge 13, 3) := by decide +kernel
theorem dX10_days_25 : decode cX10_days 25 = .ok (.aload_n 0, 1) := by decide +kernel
theorem dX10_days_26 : decode cX10_days 26 = .ok (.invokevirtual 283, 3) := by decide +kernel
theorem dX10_days_29 : decode cX10_days 29 = .ok (.iinc 2 1, 3) := by decide +kernel
theorem dX10_days_32 : decode cX10_days 32 = .ok (.goto (-12), 3) := by decide +kernel
theorem dX10_days_35 : decode cX10_days 35 = .ok (.iconst 0, 1) := by decide +kernel
theorem dX10_days_36 : decode cX10_days 36 = .ok (.istore_n 2, 1) := by decide +kernel
theorem dX10_days_37 : decode cX10_days 37 = .ok (.iconst 0, 1) := by decide +kernel
theorem dX10_days_38 : decode cX10_days 38 = .ok (.istore_n 3, 1) := by decide +kernel
theorem dX10_days_39 : decode cX10_days 39 = .ok (.iload_n 3, 1) := by decide +kernel
theorem dX10_days_40 : decode cX10_days 40 = .ok (.aload_n 0, 1) := by decide +kernel
theorem dX10_days_41 : decode cX10_days 41 = .ok (.getfield 7, 3) := by decide +kernel
theorem dX10_days_44 : decode cX10_days 44 = .ok (.bipush 103, 2) := by decide +kernel
theorem dX10_days_46 : decode cX10_days 46 = .ok (.iaload, 1) := by decide +kernel
theorem dX10_days_47 : decode cX10_days 47 = .ok (.if_icmp .ge 18, 3) := by decide +kernel
theorem dX10_days_50 : decode cX10_days 50 = .ok (.iload_n 2, 1) := by decide +kernel
theorem dX10_days_51 : decode cX10_days 51 = .ok (.aload_n 0, 1) := by decide +kernel
theorem dX10_days_52 : decode cX10_days 52 = .ok (.iload_n 3, 1) := by decide +kernel
theorem dX10_days_53 : decode cX10_days 53 = .ok (.iconst 2, 1) := by decide +kernel
theorem dX10_days_54 : decode cX10_days 54 = .ok (.invokevirtual 175, 3) := by decide +kernel
theorem dX10_days_57 : decode cX10_days 57 = .ok (.iadd, 1) := by decide +kernel
theorem dX10_days_58 : decode cX10_days 58 = .ok (.istore_n 2, 1) := by decide +kernel
theorem dX10_days_59 : decode cX10_days 59 = .ok (.iinc 3 1, 3) := by decide +kernel
theorem dX10_days_62 : decode cX10_days 62 = .ok (.goto (-23), 3) := by decide +kernel
theorem dX10_days_65 : decode cX10_days 65 = .ok (.iload_n 2, 1) := by decide +kernel
theorem dX10_days_66 : decode cX10_days 66 = .ok (.ireturn, 1) := by decide +kernel
theorem dX10_then_0 : decode cX10_then 0 = .ok (.iload_n 1, 1) := by decide +kernel
theorem dX10_then_1 : decode cX10_then 1 = .ok (.i2l, 1) := by decide +kernel
theorem dX10_then_2 : decode cX10_then 2 = .ok (.lconst 0, 1) := by decide +kernel
theorem dX10_then_3 : decode cX10_then 3 = .ok (.ldc2_w 281, 3) := by decide +kernel
theorem dX10_then_6 : decode cX10_then 6 = .ok (.invokestatic 66, 3) := by decide +kernel
theorem dX10_then_9 : decode cX10_then 9 = .ok (.ifCond .eq 11, 3) := by decide +kernel
theorem dX10_then_12 : decode cX10_then 12 = .ok (.aload_n 0, 1) := by decide +kernel
theorem dX10_then_13 : decode cX10_then 13 = .ok (.iload_n 2, 1) := by decide +kernel
theorem dX10_then_14 : decode cX10_then 14 = .ok (.invokevirtual 170, 3) := by decide +kernel
theorem dX10_then_17 : decode cX10_then 17 = .ok (.ifCond .ne 9, 3) := by decide +kernel
theorem dX10_then_20 : decode cX10_then 20 = .ok (.aload_n 0, 1) := by decide +kernel
theorem dX10_then_21 : decode cX10_then 21 = .ok (.iconst 1, 1) := by decide +kernel
theorem dX10_then_22 : decode cX10_then 22 = .ok (.invokevirtual 131, 3) := by decide +kernel
theorem dX10_then_25 : decode cX10_then 25 = .ok (.ireturn, 1) := by decide +kernel
theorem dX10_then_26 : decode cX10_then 26 = .ok (.aload_n 0, 1) := by decide +kernel
theorem dX10_then_27 : decode cX10_then 27 = .ok (.getfield 7, 3) := by decide +kernel
theorem dX10_then_30 : decode cX10_then 30 = .ok (.aload_n 0, 1) := by decide +kernel
theorem dX10_then_31 : decode cX10_then 31 = .ok (.getfield 13, 3) := by decide +kernel
theorem dX10_then_34 : decode cX10_then 34 = .ok (.invokestatic 286, 3) := by decide +kernel
theorem dX10_then_37 : decode cX10_then 37 = .ok (.iconst 0, 1) := by decide +kernel
theorem dX10_then_38 : decode cX10_then 38 = .ok (.istore_n 3, 1) := by decide +kernel
theorem dX10_then_39 : decode cX10_then 39 = .ok (.iload_n 3, 1) := by decide +kernel
theorem dX10_then_40 : decode cX10_then 40 = .ok (.iload_n 1, 1) := by decide +kernel
theorem dX10_then_41 : decode cX10_then 41 = .ok (.if_icmp .ge 13, 3) := by decide +kernel
theorem dX10_then_44 : decode cX10_then 44 = .ok (.aload_n 0, 1) := by decide +kernel
theorem dX10_then_45 : decode cX10_then 45 = .ok (.invokevirtual 283, 3) := by decide +kernel
theorem dX10_then_48 : decode cX10_then 48 = .ok (.iinc 3 1, 3) := by decide +kernel
theorem dX10_then_51 : decode cX10_then 51 = .ok (.goto (-12), 3) := by decide +kernel
theorem dX10_then_54 : decode cX10_then 54 = .ok (.aload_n 0, 1) := by decide +kernel
theorem dX10_then_55 : decode cX10_then 55 = .ok (.iload_n 2, 1) := by decide +kernel
theorem dX10_then_56 : decode cX10_then 56 = .ok (.iconst 2, 1) := by decide +kernel
theorem dX10_then_57 : decode cX10_then 57 = .ok (.invokevirtual 175, 3) := by decide +kernel
theorem dX10_then_60 : decode cX10_then 60 = .ok (.istore_n 3, 1) := by decide +kernel
theorem dX10_then_61 : decode cX10_then 61 = .ok (.aload_n 0, 1) := by decide +kernel
theorem dX10_then_62 : decode cX10_then 62 = .ok (.getfield 13, 3) := by decide +kernel
theorem dX10_then_65 : decode cX10_then 65 = .ok (.aload_n 0, 1) := by decide +kernel
theorem dX10_then_66 : decode cX10_then 66 = .ok (.getfield 7, 3) := by decide +kernel
theorem dX10_then_69 : decode cX10_then 69 = .ok (.invokestatic 286, 3) := by decide +kernel
theorem dX10_then_72 : decode cX10_then 72 = .ok (.iload_n 3, 1) := by decide +kernel
theorem dX10_then_73 : decode cX10_then 73 = .ok (.ireturn, 1) := by decide +kernel
theorem dX10_seed_0 : decode cX10_seed 0 = .ok (.aload_n 0, 1) := by decide +kernel
theorem dX10_seed_1 : decode cX10_seed 1 = .ok (.getfield 7, 3) := by decide +kernel
theorem dX10_seed_4 : decode cX10_seed 4 = .ok (.bipush 105, 2) := by decide +kernel
theorem dX10_seed_6 : decode cX10_seed 6 = .ok (.iaload, 1) := by decide +kernel
theorem dX10_seed_7 : decode cX10_seed 7 = .ok (.istore_n 2, 1) := by decide +kernel
theorem dX10_seed_8 : decode cX10_seed 8 = .ok (.aload_n 0, 1) := by decide +kernel
theorem dX10_seed_9 : decode cX10_seed 9 = .ok (.getfield 7, 3) := by decide +kernel
theorem dX10_seed_12 : decode cX10_seed 12 = .ok (.bipush 105, 2) := by decide +kernel
theorem dX10_seed_14 : decode cX10_seed 14 = .ok (.iload_n 1, 1) := by decide +kernel
theorem dX10_seed_15 : decode cX10_seed 15 = .ok (.iastore, 1) := by decide +kernel
theorem dX10_seed_16 : decode cX10_seed 16 = .ok (.iload_n 2, 1) := by decide +kernel
theorem dX10_seed_17 : decode cX10_seed 17 = .ok (.ireturn, 1) := by decide +kernel
theorem dX10_ran_0 : decode cX10_ran 0 = .ok (.aload_n 0, 1) := by decide +kernel
theorem dX10_ran_1 : decode cX10_ran 1 = .ok (.getfield 290, 3) := by decide +kernel
theorem dX10_ran_4 : decode cX10_ran 4 = .ok (.bipush 40, 2) := by decide +kernel
theorem dX10_ran_6 : decode cX10_ran 6 = .ok (.if_icmp .ge 23, 3) := by decide +kernel
theorem dX10_ran_9 : decode cX10_ran 9 = .ok (.aload_n 0, 1) := by decide +kernel
theorem dX10_ran_10 : decode cX10_ran 10 = .ok (.getfield 50, 3) := by decide +kernel
theorem dX10_ran_13 : decode cX10_ran 13 = .ok (.aload_n 0, 1) := by decide +kernel
theorem dX10_ran_14 : decode cX10_ran 14 = .ok (.getfield 290, 3) := by decide +kernel
theorem dX10_ran_17 : decode cX10_ran 17 = .ok (.iload_n 1, 1) := by decide +kernel
theorem dX10_ran_18 : decode cX10_ran 18 = .ok (.iastore, 1) := by decide +kernel
theorem dX10_ran_19 : decode cX10_ran 19 = .ok (.aload_n 0, 1) := by decide +kernel
theorem dX10_ran_20 : decode cX10_ran 20 = .ok (.dup, 1) := by decide +kernel
theorem dX10_ran_21 : decode cX10_ran 21 = .ok (.getfield 290, 3) := by decide +kernel
theorem dX10_ran_24 : decode cX10_ran 24 = .ok (.iconst 1, 1) := by decide +kernel
theorem dX10_ran_25 : decode cX10_ran 25 = .ok (.iadd, 1) := by decide +kernel
theorem dX10_ran_26 : decode cX10_ran 26 = .ok (.putfield 290, 3) := by decide +kernel
theorem dX10_ran_29 : decode cX10_ran 29 = .ok (.return_, 1) := by decide +kernel
theorem dX10_above_0 : decode cX10_above 0 = .ok (.iload_n 0, 1) := by decide +kernel
theorem dX10_above_1 : decode cX10_above 1 = .ok (.iconst 4, 1) := by decide +kernel
theorem dX10_above_2 : decode cX10_above 2 = .ok (.if_icmp .eq 8, 3) := by decide +kernel
theorem dX10_above_5 : decode cX10_above 5 = .ok (.iload_n 0, 1) := by decide +kernel
theorem dX10_above_6 : decode cX10_above 6 = .ok (.iconst 5, 1) := by decide +kernel
theorem dX10_above_7 : decode cX10_above 7 = .ok (.if_icmp .ne 7, 3) := by decide +kernel
theorem dX10_above_10 : decode cX10_above 10 = .ok (.iconst 1, 1) := by decide +kernel
theorem dX10_above_11 : decode cX10_above 11 = .ok (.goto 14, 3) := by decide +kernel
theorem dX10_above_14 : decode cX10_above 14 = .ok (.iload_n 0, 1) := by decide +kernel
theorem dX10_above_15 : decode cX10_above 15 = .ok (.bipush 6, 2) := by decide +kernel
theorem dX10_above_17 : decode cX10_above 17 = .ok (.if_icmp .ne 7, 3) := by decide +kernel
theorem dX10_above_20 : decode cX10_above 20 = .ok (.iconst 3, 1) := by decide +kernel
theorem dX10_above_21 : decode cX10_above 21 = .ok (.goto 4, 3) := by decide +kernel
theorem dX10_above_24 : decode cX10_above 24 = .ok (.iconst 0, 1) := by decide +kernel
theorem dX10_above_25 : decode cX10_above 25 = .ok (.ireturn, 1) := by decide +kernel
theorem dX10_own_0 : decode cX10_own 0 = .ok (.aload_n 0, 1) := by decide +kernel
theorem dX10_own_1 : decode cX10_own 1 = .ok (.aload_n 0, 1) := by decide +kernel
theorem dX10_own_2 : decode cX10_own 2 = .ok (.getfield 293, 3) := by decide +kernel
theorem dX10_own_5 : decode cX10_own 5 = .ok (.iconst 0, 1) := by decide +kernel
theorem dX10_own_6 : decode cX10_own 6 = .ok (.invokevirtual 175, 3) := by decide +kernel
theorem dX10_own_9 : decode cX10_own 9 = .ok (.ireturn, 1) := by decide +kernel
theorem dX10_rings_0 : decode cX10_rings 0 = .ok (.iload_n 1, 1) := by decide +kernel
theorem dX10_rings_1 : decode cX10_rings 1 = .ok (.lookupswitch 58 #[(0, 27), (2, 40)], 27) := by decide +kernel
theorem dX10_rings_28 : decode cX10_rings 28 = .ok (.aload_n 0, 1) := by decide +kernel
theorem dX10_rings_29 : decode cX10_rings 29 = .ok (.bipush 10, 2) := by decide +kernel
theorem dX10_rings_31 : decode cX10_rings 31 = .ok (.invokevirtual 296, 3) := by decide +kernel
theorem dX10_rings_34 : decode cX10_rings 34 = .ok (.iload_n 2, 1) := by decide +kernel
theorem dX10_rings_35 : decode cX10_rings 35 = .ok (.aload_n 0, 1) := by decide +kernel
theorem dX10_rings_36 : decode cX10_rings 36 = .ok (.getfield 293, 3) := by decide +kernel
theorem dX10_rings_39 : decode cX10_rings 39 = .ok (.iadd, 1) := by decide +kernel
theorem dX10_rings_40 : decode cX10_rings 40 = .ok (.ireturn, 1) := by decide +kernel
theorem dX10_rings_41 : decode cX10_rings 41 = .ok (.aload_n 0, 1) := by decide +kernel
theorem dX10_rings_42 : decode cX10_rings 42 = .ok (.bipush 30, 2) := by decide +kernel
theorem dX10_rings_44 : decode cX10_rings 44 = .ok (.invokevirtual 296, 3) := by decide +kernel
theorem dX10_rings_47 : decode cX10_rings 47 = .ok (.aload_n 0, 1) := by decide +kernel
theorem dX10_rings_48 : decode cX10_rings 48 = .ok (.iconst 2, 1) := by decide +kernel
theorem dX10_rings_49 : decode cX10_rings 49 = .ok (.invokestatic 299, 3) := by decide +kernel
theorem dX10_rings_52 : decode cX10_rings 52 = .ok (.iload_n 2, 1) := by decide +kernel
theorem dX10_rings_53 : decode cX10_rings 53 = .ok (.invokevirtual 302, 3) := by decide +kernel
theorem dX10_rings_56 : decode cX10_rings 56 = .ok (.iconst 3, 1) := by decide +kernel
theorem dX10_rings_57 : decode cX10_rings 57 = .ok (.imul, 1) := by decide +kernel
theorem dX10_rings_58 : decode cX10_rings 58 = .ok (.ireturn, 1) := by decide +kernel
theorem dX10_rings_59 : decode cX10_rings 59 = .ok (.aload_n 0, 1) := by decide +kernel
theorem dX10_rings_60 : decode cX10_rings 60 = .ok (.iload_n 1, 1) := by decide +kernel
theorem dX10_rings_61 : decode cX10_rings 61 = .ok (.invokestatic 299, 3) := by decide +kernel
theorem dX10_rings_64 : decode cX10_rings 64 = .ok (.iload_n 2, 1) := by decide +kernel
theorem dX10_rings_65 : decode cX10_rings 65 = .ok (.invokevirtual 302, 3) := by decide +kernel
theorem dX10_rings_68 : decode cX10_rings 68 = .ok (.ireturn, 1) := by decide +kernel
theorem dX10_swings_0 : decode cX10_swings 0 = .ok (.iload_n 1, 1) := by decide +kernel
theorem dX10_swings_1 : decode cX10_swings 1 = .ok (.tableswitch 99 0 4 #[35, 53, 99, 99, 81], 35) := by decide +kernel
theorem dX10_swings_36 : decode cX10_swings 36 = .ok (.aload_n 0, 1) := by decide +kernel
theorem dX10_swings_37 : decode cX10_swings 37 = .ok (.bipush 11, 2) := by decide +kernel
theorem dX10_swings_39 : decode cX10_swings 39 = .ok (.invokevirtual 296, 3) := by decide +kernel
theorem dX10_swings_42 : decode cX10_swings 42 = .ok (.aload_n 0, 1) := by decide +kernel
theorem dX10_swings_43 : decode cX10_swings 43 = .ok (.aload_n 0, 1) := by decide +kernel
theorem dX10_swings_44 : decode cX10_swings 44 = .ok (.invokevirtual 305, 3) := by decide +kernel
theorem dX10_swings_47 : decode cX10_swings 47 = .ok (.iload_n 2, 1) := by decide +kernel
theorem dX10_swings_48 : decode cX10_swings 48 = .ok (.invokevirtual 302, 3) := by decide +kernel
theorem dX10_swings_51 : decode cX10_swings 51 = .ok (.iconst 2, 1) := by decide +kernel
theorem dX10_swings_52 : decode cX10_swings 52 = .ok (.imul, 1) := by decide +kernel
theorem dX10_swings_53 : decode cX10_swings 53 = .ok (.ireturn, 1) := by decide +kernel
theorem dX10_swings_54 : decode cX10_swings 54 = .ok (.aload_n 0, 1) := by decide +kernel
theorem dX10_swings_55 : decode cX10_swings 55 = .ok (.bipush 20, 2) := by decide +kernel
theorem dX10_swings_57 : decode cX10_swings 57 = .ok (.invokevirtual 296, 3) := by decide +kernel
theorem dX10_swings_60 : decode cX10_swings 60 = .ok (.aload_n 0, 1) := by decide +kernel
theorem dX10_swings_61 : decode cX10_swings 61 = .ok (.iconst 1, 1) := by decide +kernel
theorem dX10_swings_62 : decode cX10_swings 62 = .ok (.invokestatic 299, 3) := by decide +kernel
theorem dX10_swings_65 : decode cX10_swings 65 = .ok (.iload_n 2, 1) := by decide +kernel
theorem dX10_swings_66 : decode cX10_swings 66 = .ok (.invokevirtual 308, 3) := by decide +kernel
theorem dX10_swings_69 : decode cX10_swings 69 = .ok (.istore_n 3, 1) := by decide +kernel
theorem dX10_swings_70 : decode cX10_swings 70 = .ok (.iload_n 3, 1) := by decide +kernel
theorem dX10_swings_71 : decode cX10_swings 71 = .ok (.aload_n 0, 1) := by decide +kernel
theorem dX10_swings_72 : decode cX10_swings 72 = .ok (.aload_n 0, 1) := by decide +kernel
theorem dX10_swings_73 : decode cX10_swings 73 = .ok (.invokevirtual 305, 3) := by decide +kernel
theorem dX10_swings_76 : decode cX10_swings 76 = .ok (.iconst 1, 1) := by decide +kernel
theorem dX10_swings_77 : decode cX10_swings 77 = .ok (.invokevirtual 311, 3) := by decide +kernel
theorem dX10_swings_80 : decode cX10_swings 80 = .ok (.isub, 1) := by decide +kernel
theorem dX10_swings_81 : decode cX10_swings 81 = .ok (.ireturn, 1) := by decide +kernel
theorem dX10_swings_82 : decode cX10_swings 82 = .ok (.aload_n 0, 1) := by decide +kernel
theorem dX10_swings_83 : decode cX10_swings 83 = .ok (.bipush 50, 2) := by decide +kernel
theorem dX10_swings_85 : decode cX10_swings 85 = .ok (.invokevirtual 296, 3) := by decide +kernel
theorem dX10_swings_88 : decode cX10_swings 88 = .ok (.aload_n 0, 1) := by decide +kernel
theorem dX10_swings_89 : decode cX10_swings 89 = .ok (.iconst 4, 1) := by decide +kernel
theorem dX10_swings_90 : decode cX10_swings 90 = .ok (.invokestatic 299, 3) := by decide +kernel
theorem dX10_swings_93 : decode cX10_swings 93 = .ok (.iload_n 2, 1) := by decide +kernel
theorem dX10_swings_94 : decode cX10_swings 94 = .ok (.iconst 1, 1) := by decide +kernel
theorem dX10_swings_95 : decode cX10_swings 95 = .ok (.iadd, 1) := by decide +kernel
theorem dX10_swings_96 : decode cX10_swings 96 = .ok (.invokevirtual 308, 3) := by decide +kernel
theorem dX10_swings_99 : decode cX10_swings 99 = .ok (.ireturn, 1) := by decide +kernel
theorem dX10_swings_100 : decode cX10_swings 100 = .ok (.aload_n 0, 1) := by decide +kernel
theorem dX10_swings_101 : decode cX10_swings 101 = .ok (.iload_n 1, 1) := by decide +kernel
theorem dX10_swings_102 : decode cX10_swings 102 = .ok (.invokestatic 299, 3) := by decide +kernel
theorem dX10_swings_105 : decode cX10_swings 105 = .ok (.iload_n 2, 1) := by decide +kernel
theorem dX10_swings_106 : decode cX10_swings 106 = .ok (.invokevirtual 308, 3) := by decide +kernel
theorem dX10_swings_109 : decode cX10_swings 109 = .ok (.ireturn, 1) := by decide +kernel
theorem dX10_hums_0 : decode cX10_hums 0 = .ok (.iload_n 1, 1) := by decide +kernel
theorem dX10_hums_1 : decode cX10_hums 1 = .ok (.lookupswitch 92 #[(0, 35), (3, 53), (6, 70)], 35) := by decide +kernel
theorem dX10_hums_36 : decode cX10_hums 36 = .ok (.aload_n 0, 1) := by decide +kernel
theorem dX10_hums_37 : decode cX10_hums 37 = .ok (.bipush 12, 2) := by decide +kernel
theorem dX10_hums_39 : decode cX10_hums 39 = .ok (.invokevirtual 296, 3) := by decide +kernel
theorem dX10_hums_42 : decode cX10_hums 42 = .ok (.iload_n 2, 1) := by decide +kernel
theorem dX10_hums_43 : decode cX10_hums 43 = .ok (.aload_n 0, 1) := by decide +kernel
theorem dX10_hums_44 : decode cX10_hums 44 = .ok (.aload_n 0, 1) := by decide +kernel
theorem dX10_hums_45 : decode cX10_hums 45 = .ok (.getfield 293, 3) := by decide +kernel
theorem dX10_hums_48 : decode cX10_hums 48 = .ok (.iconst 1, 1) := by decide +kernel
theorem dX10_hums_49 : decode cX10_hums 49 = .ok (.invokevirtual 175, 3) := by decide +kernel
theorem dX10_hums_52 : decode cX10_hums 52 = .ok (.isub, 1) := by decide +kernel
theorem dX10_hums_53 : decode cX10_hums 53 = .ok (.ireturn, 1) := by decide +kernel
theorem dX10_hums_54 : decode cX10_hums 54 = .ok (.aload_n 0, 1) := by decide +kernel
theorem dX10_hums_55 : decode cX10_hums 55 = .ok (.bipush 40, 2) := by decide +kernel
theorem dX10_hums_57 : decode cX10_hums 57 = .ok (.invokevirtual 296, 3) := by decide +kernel
theorem dX10_hums_60 : decode cX10_hums 60 = .ok (.aload_n 0, 1) := by decide +kernel
theorem dX10_hums_61 : decode cX10_hums 61 = .ok (.iconst 3, 1) := by decide +kernel
theorem dX10_hums_62 : decode cX10_hums 62 = .ok (.invokestatic 299, 3) := by decide +kernel
theorem dX10_hums_65 : decode cX10_hums 65 = .ok (.iload_n 2, 1) := by decide +kernel
theorem dX10_hums_66 : decode cX10_hums 66 = .ok (.invokevirtual 311, 3) := by decide +kernel
theorem dX10_hums_69 : decode cX10_hums 69 = .ok (.ineg, 1) := by decide +kernel
theorem dX10_hums_70 : decode cX10_hums 70 = .ok (.ireturn, 1) := by decide +kernel
theorem dX10_hums_71 : decode cX10_hums 71 = .ok (.aload_n 0, 1) := by decide +kernel
theorem dX10_hums_72 : decode cX10_hums 72 = .ok (.bipush 70, 2) := by decide +kernel
theorem dX10_hums_74 : decode cX10_hums 74 = .ok (.invokevirtual 296, 3) := by decide +kernel
theorem dX10_hums_77 : decode cX10_hums 77 = .ok (.aload_n 0, 1) := by decide +kernel
theorem dX10_hums_78 : decode cX10_hums 78 = .ok (.bipush 6, 2) := by decide +kernel
theorem dX10_hums_80 : decode cX10_hums 80 = .ok (.invokestatic 299, 3) := by decide +kernel
theorem dX10_hums_83 : decode cX10_hums 83 = .ok (.iload_n 2, 1) := by decide +kernel
theorem dX10_hums_84 : decode cX10_hums 84 = .ok (.invokevirtual 311, 3) := by decide +kernel
theorem dX10_hums_87 : decode cX10_hums 87 = .ok (.aload_n 0, 1) := by decide +kernel
theorem dX10_hums_88 : decode cX10_hums 88 = .ok (.getfield 293, 3) := by decide +kernel
theorem dX10_hums_91 : decode cX10_hums 91 = .ok (.ixor, 1) := by decide +kernel
theorem dX10_hums_92 : decode cX10_hums 92 = .ok (.ireturn, 1) := by decide +kernel
theorem dX10_hums_93 : decode cX10_hums 93 = .ok (.aload_n 0, 1) := by decide +kernel
theorem dX10_hums_94 : decode cX10_hums 94 = .ok (.iload_n 1, 1) := by decide +kernel
theorem dX10_hums_95 : decode cX10_hums 95 = .ok (.invokestatic 299, 3) := by decide +kernel
theorem dX10_hums_98 : decode cX10_hums 98 = .ok (.iload_n 2, 1) := by decide +kernel
theorem dX10_hums_99 : decode cX10_hums 99 = .ok (.invokevirtual 311, 3) := by decide +kernel
theorem dX10_hums_102 : decode cX10_hums 102 = .ok (.ireturn, 1) := by decide +kernel
theorem dX10_tells_0 : decode cX10_tells 0 = .ok (.iload_n 1, 1) := by decide +kernel
theorem dX10_tells_1 : decode cX10_tells 1 = .ok (.lookupswitch 120 #[(0, 35), (5, 63), (6, 91)], 35) := by decide +kernel
theorem dX10_tells_36 : decode cX10_tells 36 = .ok (.aload_n 0, 1) := by decide +kernel
theorem dX10_tells_37 : decode cX10_tells 37 = .ok (.bipush 13, 2) := by decide +kernel
theorem dX10_tells_39 : decode cX10_tells 39 = .ok (.invokevirtual 296, 3) := by decide +kernel
theorem dX10_tells_42 : decode cX10_tells 42 = .ok (.aload_n 0, 1) := by decide +kernel
theorem dX10_tells_43 : decode cX10_tells 43 = .ok (.aload_n 0, 1) := by decide +kernel
theorem dX10_tells_44 : decode cX10_tells 44 = .ok (.invokevirtual 305, 3) := by decide +kernel
theorem dX10_tells_47 : decode cX10_tells 47 = .ok (.iload_n 2, 1) := by decide +kernel
theorem dX10_tells_48 : decode cX10_tells 48 = .ok (.invokevirtual 308, 3) := by decide +kernel
theorem dX10_tells_51 : decode cX10_tells 51 = .ok (.istore_n 3, 1) := by decide +kernel
theorem dX10_tells_52 : decode cX10_tells 52 = .ok (.iload_n 3, 1) := by decide +kernel
theorem dX10_tells_53 : decode cX10_tells 53 = .ok (.aload_n 0, 1) := by decide +kernel
theorem dX10_tells_54 : decode cX10_tells 54 = .ok (.aload_n 0, 1) := by decide +kernel
theorem dX10_tells_55 : decode cX10_tells 55 = .ok (.invokevirtual 305, 3) := by decide +kernel
theorem dX10_tells_58 : decode cX10_tells 58 = .ok (.iload_n 2, 1) := by decide +kernel
theorem dX10_tells_59 : decode cX10_tells 59 = .ok (.invokevirtual 311, 3) := by decide +kernel
theorem dX10_tells_62 : decode cX10_tells 62 = .ok (.ixor, 1) := by decide +kernel
theorem dX10_tells_63 : decode cX10_tells 63 = .ok (.ireturn, 1) := by decide +kernel
theorem dX10_tells_64 : decode cX10_tells 64 = .ok (.aload_n 0, 1) := by decide +kernel
theorem dX10_tells_65 : decode cX10_tells 65 = .ok (.bipush 60, 2) := by decide +kernel
theorem dX10_tells_67 : decode cX10_tells 67 = .ok (.invokevirtual 296, 3) := by decide +kernel
theorem dX10_tells_70 : decode cX10_tells 70 = .ok (.aload_n 0, 1) := by decide +kernel
theorem dX10_tells_71 : decode cX10_tells 71 = .ok (.iconst 5, 1) := by decide +kernel
theorem dX10_tells_72 : decode cX10_tells 72 = .ok (.invokestatic 299, 3) := by decide +kernel
theorem dX10_tells_75 : decode cX10_tells 75 = .ok (.iload_n 2, 1) := by decide +kernel
theorem dX10_tells_76 : decode cX10_tells 76 = .ok (.invokevirtual 314, 3) := by decide +kernel
theorem dX10_tells_79 : decode cX10_tells 79 = .ok (.istore_n 3, 1) := by decide +kernel
theorem dX10_tells_80 : decode cX10_tells 80 = .ok (.iload_n 3, 1) := by decide +kernel
theorem dX10_tells_81 : decode cX10_tells 81 = .ok (.aload_n 0, 1) := by decide +kernel
theorem dX10_tells_82 : decode cX10_tells 82 = .ok (.aload_n 0, 1) := by decide +kernel
theorem dX10_tells_83 : decode cX10_tells 83 = .ok (.invokevirtual 305, 3) := by decide +kernel
theorem dX10_tells_86 : decode cX10_tells 86 = .ok (.iconst 2, 1) := by decide +kernel
theorem dX10_tells_87 : decode cX10_tells 87 = .ok (.invokevirtual 302, 3) := by decide +kernel
theorem dX10_tells_90 : decode cX10_tells 90 = .ok (.isub, 1) := by decide +kernel
theorem dX10_tells_91 : decode cX10_tells 91 = .ok (.ireturn, 1) := by decide +kernel
theorem dX10_tells_92 : decode cX10_tells 92 = .ok (.aload_n 0, 1) := by decide +kernel
theorem dX10_tells_93 : decode cX10_tells 93 = .ok (.bipush 71, 2) := by decide +kernel
theorem dX10_tells_95 : decode cX10_tells 95 = .ok (.invokevirtual 296, 3) := by decide +kernel
theorem dX10_tells_98 : decode cX10_tells 98 = .ok (.aload_n 0, 1) := by decide +kernel
theorem dX10_tells_99 : decode cX10_tells 99 = .ok (.aload_n 0, 1) := by decide +kernel
theorem dX10_tells_100 : decode cX10_tells 100 = .ok (.invokevirtual 305, 3) := by decide +kernel
theorem dX10_tells_103 : decode cX10_tells 103 = .ok (.iload_n 2, 1) := by decide +kernel
theorem dX10_tells_104 : decode cX10_tells 104 = .ok (.invokevirtual 308, 3) := by decide +kernel
theorem dX10_tells_107 : decode cX10_tells 107 = .ok (.istore_n 3, 1) := by decide +kernel
theorem dX10_tells_108 : decode cX10_tells 108 = .ok (.iload_n 3, 1) := by decide +kernel
theorem dX10_tells_109 : decode cX10_tells 109 = .ok (.aload_n 0, 1) := by decide +kernel
theorem dX10_tells_110 : decode cX10_tells 110 = .ok (.bipush 6, 2) := by decide +kernel
theorem dX10_tells_112 : decode cX10_tells 112 = .ok (.invokestatic 299, 3) := by decide +kernel
theorem dX10_tells_115 : decode cX10_tells 115 = .ok (.iload_n 2, 1) := by decide +kernel
theorem dX10_tells_116 : decode cX10_tells 116 = .ok (.invokevirtual 314, 3) := by decide +kernel
theorem dX10_tells_119 : decode cX10_tells 119 = .ok (.isub, 1) := by decide +kernel
theorem dX10_tells_120 : decode cX10_tells 120 = .ok (.ireturn, 1) := by decide +kernel
theorem dX10_tells_121 : decode cX10_tells 121 = .ok (.aload_n 0, 1) := by decide +kernel
theorem dX10_tells_122 : decode cX10_tells 122 = .ok (.iload_n 1, 1) := by decide +kernel
theorem dX10_tells_123 : decode cX10_tells 123 = .ok (.invokestatic 299, 3) := by decide +kernel
theorem dX10_tells_126 : decode cX10_tells 126 = .ok (.iload_n 2, 1) := by decide +kernel
theorem dX10_tells_127 : decode cX10_tells 127 = .ok (.invokevirtual 314, 3) := by decide +kernel
theorem dX10_tells_130 : decode cX10_tells 130 = .ok (.ireturn, 1) := by decide +kernel
theorem dX10_voice_0 : decode cX10_voice 0 = .ok (.aload_n 0, 1) := by decide +kernel
theorem dX10_voice_1 : decode cX10_voice 1 = .ok (.iload_n 1, 1) := by decide +kernel
theorem dX10_voice_2 : decode cX10_voice 2 = .ok (.invokevirtual 170, 3) := by decide +kernel
theorem dX10_voice_5 : decode cX10_voice 5 = .ok (.ifCond .eq 15, 3) := by decide +kernel
theorem dX10_voice_8 : decode cX10_voice 8 = .ok (.iload_n 2, 1) := by decide +kernel
theorem dX10_voice_9 : decode cX10_voice 9 = .ok (.i2l, 1) := by decide +kernel
theorem dX10_voice_10 : decode cX10_voice 10 = .ok (.lconst 0, 1) := by decide +kernel
theorem dX10_voice_11 : decode cX10_voice 11 = .ok (.ldc2_w 317, 3) := by decide +kernel
theorem dX10_voice_14 : decode cX10_voice 14 = .ok (.invokestatic 66, 3) := by decide +kernel
theorem dX10_voice_17 : decode cX10_voice 17 = .ok (.ifCond .ne 9, 3) := by decide +kernel
theorem dX10_voice_20 : decode cX10_voice 20 = .ok (.aload_n 0, 1) := by decide +kernel
theorem dX10_voice_21 : decode cX10_voice 21 = .ok (.iconst 1, 1) := by decide +kernel
theorem dX10_voice_22 : decode cX10_voice 22 = .ok (.invokevirtual 131, 3) := by decide +kernel
theorem dX10_voice_25 : decode cX10_voice 25 = .ok (.ireturn, 1) := by decide +kernel
theorem dX10_voice_26 : decode cX10_voice 26 = .ok (.aload_n 0, 1) := by decide +kernel
theorem dX10_voice_27 : decode cX10_voice 27 = .ok (.iconst 0, 1) := by decide +kernel
theorem dX10_voice_28 : decode cX10_voice 28 = .ok (.putfield 290, 3) := by decide +kernel
theorem dX10_voice_31 : decode cX10_voice 31 = .ok (.aload_n 0, 1) := by decide +kernel
theorem dX10_voice_32 : decode cX10_voice 32 = .ok (.iload_n 1, 1) := by decide +kernel
theorem dX10_voice_33 : decode cX10_voice 33 = .ok (.putfield 293, 3) := by decide +kernel
theorem dX10_voice_36 : decode cX10_voice 36 = .ok (.aload_n 0, 1) := by decide +kernel
theorem dX10_voice_37 : decode cX10_voice 37 = .ok (.invokevirtual 305, 3) := by decide +kernel
theorem dX10_voice_40 : decode cX10_voice 40 = .ok (.istore 4, 2) := by decide +kernel
theorem dX10_voice_42 : decode cX10_voice 42 = .ok (.iload_n 2, 1) := by decide +kernel
theorem dX10_voice_43 : decode cX10_voice 43 = .ok (.ifCond .ne 13, 3) := by decide +kernel
theorem dX10_voice_46 : decode cX10_voice 46 = .ok (.aload_n 0, 1) := by decide +kernel
theorem dX10_voice_47 : decode cX10_voice 47 = .ok (.iload 4, 2) := by decide +kernel
theorem dX10_voice_49 : decode cX10_voice 49 = .ok (.iload_n 3, 1) := by decide +kernel
theorem dX10_voice_50 : decode cX10_voice 50 = .ok (.invokevirtual 302, 3) := by decide +kernel
theorem dX10_voice_53 : decode cX10_voice 53 = .ok (.goto 40, 3) := by decide +kernel
theorem dX10_voice_56 : decode cX10_voice 56 = .ok (.iload_n 2, 1) := by decide +kernel
theorem dX10_voice_57 : decode cX10_voice 57 = .ok (.iconst 1, 1) := by decide +kernel
theorem dX10_voice_58 : decode cX10_voice 58 = .ok (.if_icmp .ne 13, 3) := by decide +kernel
theorem dX10_voice_61 : decode cX10_voice 61 = .ok (.aload_n 0, 1) := by decide +kernel
theorem dX10_voice_62 : decode cX10_voice 62 = .ok (.iload 4, 2) := by decide +kernel
theorem dX10_voice_64 : decode cX10_voice 64 = .ok (.iload_n 3, 1) := by decide +kernel
theorem dX10_voice_65 : decode cX10_voice 65 = .ok (.invokevirtual 308, 3) := by decide +kernel
theorem dX10_voice_68 : decode cX10_voice 68 = .ok (.goto 25, 3) := by decide +kernel
theorem dX10_voice_71 : decode cX10_voice 71 = .ok (.iload_n 2, 1) := by decide +kernel
theorem dX10_voice_72 : decode cX10_voice 72 = .ok (.iconst 2, 1) := by decide +kernel
theorem dX10_voice_73 : decode cX10_voice 73 = .ok (.if_icmp .ne 13, 3) := by decide +kernel
theorem dX10_voice_76 : decode cX10_voice 76 = .ok (.aload_n 0, 1) := by decide +kernel
theorem dX10_voice_77 : decode cX10_voice 77 = .ok (.iload 4, 2) := by decide +kernel
theorem dX10_voice_79 : decode cX10_voice 79 = .ok (.iload_n 3, 1) := by decide +kernel
theorem dX10_voice_80 : decode cX10_voice 80 = .ok (.invokevirtual 311, 3) := by decide +kernel
theorem dX10_voice_83 : decode cX10_voice 83 = .ok (.goto 10, 3) := by decide +kernel
theorem dX10_voice_86 : decode cX10_voice 86 = .ok (.aload_n 0, 1) := by decide +kernel
theorem dX10_voice_87 : decode cX10_voice 87 = .ok (.iload 4, 2) := by decide +kernel
theorem dX10_voice_89 : decode cX10_voice 89 = .ok (.iload_n 3, 1) := by decide +kernel
theorem dX10_voice_90 : decode cX10_voice 90 = .ok (.invokevirtual 314, 3) := by decide +kernel
theorem dX10_voice_93 : decode cX10_voice 93 = .ok (.ireturn, 1) := by decide +kernel
theorem dX10_trace_0 : decode cX10_trace 0 = .ok (.iload_n 1, 1) := by decide +kernel
theorem dX10_trace_1 : decode cX10_trace 1 = .ok (.i2l, 1) := by decide +kernel
theorem dX10_trace_2 : decode cX10_trace 2 = .ok (.lconst 0, 1) := by decide +kernel
theorem dX10_trace_3 : decode cX10_trace 3 = .ok (.aload_n 0, 1) := by decide +kernel
theorem dX10_trace_4 : decode cX10_trace 4 = .ok (.getfield 290, 3) := by decide +kernel
theorem dX10_trace_7 : decode cX10_trace 7 = .ok (.iconst 1, 1) := by decide +kernel
theorem dX10_trace_8 : decode cX10_trace 8 = .ok (.isub, 1) := by decide +kernel
theorem dX10_trace_9 : decode cX10_trace 9 = .ok (.i2l, 1) := by decide +kernel
theorem dX10_trace_10 : decode cX10_trace 10 = .ok (.invokestatic 66, 3) := by decide +kernel
theorem dX10_trace_13 : decode cX10_trace 13 = .ok (.ifCond .eq 12, 3) := by decide +kernel
theorem dX10_trace_16 : decode cX10_trace 16 = .ok (.aload_n 0, 1) := by decide +kernel
theorem dX10_trace_17 : decode cX10_trace 17 = .ok (.getfield 50, 3) := by decide +kernel
theorem dX10_trace_20 : decode cX10_trace 20 = .ok (.iload_n 1, 1) := by decide +kernel
theorem dX10_trace_21 : decode cX10_trace 21 = .ok (.iaload, 1) := by decide +kernel
theorem dX10_trace_22 : decode cX10_trace 22 = .ok (.goto 8, 3) := by decide +kernel
theorem dX10_trace_25 : decode cX10_trace 25 = .ok (.aload_n 0, 1) := by decide +kernel
theorem dX10_trace_26 : decode cX10_trace 26 = .ok (.iconst 2, 1) := by decide +kernel
theorem dX10_trace_27 : decode cX10_trace 27 = .ok (.invokevirtual 131, 3) := by decide +kernel
theorem dX10_trace_30 : decode cX10_trace 30 = .ok (.ireturn, 1) := by decide +kernel
theorem dX10_isSheet_0 : decode cX10_isSheet 0 = .ok (.iload_n 0, 1) := by decide +kernel
theorem dX10_isSheet_1 : decode cX10_isSheet 1 = .ok (.i2l, 1) := by decide +kernel
theorem dX10_isSheet_2 : decode cX10_isSheet 2 = .ok (.lconst 0, 1) := by decide +kernel
theorem dX10_isSheet_3 : decode cX10_isSheet 3 = .ok (.ldc2_w 317, 3) := by decide +kernel
theorem dX10_isSheet_6 : decode cX10_isSheet 6 = .ok (.invokestatic 66, 3) := by decide +kernel
theorem dX10_isSheet_9 : decode cX10_isSheet 9 = .ok (.ireturn, 1) := by decide +kernel
theorem dX10_sheet_0 : decode cX10_sheet 0 = .ok (.iload_n 1, 1) := by decide +kernel
theorem dX10_sheet_1 : decode cX10_sheet 1 = .ok (.invokestatic 197, 3) := by decide +kernel
theorem dX10_sheet_4 : decode cX10_sheet 4 = .ok (.ifCond .eq 25, 3) := by decide +kernel
theorem dX10_sheet_7 : decode cX10_sheet 7 = .ok (.iload_n 2, 1) := by decide +kernel
theorem dX10_sheet_8 : decode cX10_sheet 8 = .ok (.ifCond .eq 27, 3) := by decide +kernel
theorem dX10_sheet_11 : decode cX10_sheet 11 = .ok (.iload_n 2, 1) := by decide +kernel
theorem dX10_sheet_12 : decode cX10_sheet 12 = .ok (.bipush 8, 2) := by decide +kernel
theorem dX10_sheet_14 : decode cX10_sheet 14 = .ok (.if_icmp .eq 21, 3) := by decide +kernel
theorem dX10_sheet_17 : decode cX10_sheet 17 = .ok (.iload_n 2, 1) := by decide +kernel
theorem dX10_sheet_18 : decode cX10_sheet 18 = .ok (.bipush 16, 2) := by decide +kernel
theorem dX10_sheet_20 : decode cX10_sheet 20 = .ok (.if_icmp .eq 15, 3) := by decide +kernel
theorem dX10_sheet_23 : decode cX10_sheet 23 = .ok (.iload_n 2, 1) := by decide +kernel
theorem dX10_sheet_24 : decode cX10_sheet 24 = .ok (.bipush 32, 2) := by decide +kernel
theorem dX10_sheet_26 : decode cX10_sheet 26 = .ok (.if_icmp .eq 9, 3) := by decide +kernel
theorem dX10_sheet_29 : decode cX10_sheet 29 = .ok (.aload_n 0, 1) := by decide +kernel
theorem dX10_sheet_30 : decode cX10_sheet 30 = .ok (.iconst 1, 1) := by decide +kernel
theorem dX10_sheet_31 : decode cX10_sheet 31 = .ok (.invokevirtual 131, 3) := by decide +kernel
theorem dX10_sheet_34 : decode cX10_sheet 34 = .ok (.ireturn, 1) := by decide +kernel
theorem dX10_sheet_35 : decode cX10_sheet 35 = .ok (.iload_n 2, 1) := by decide +kernel
theorem dX10_sheet_36 : decode cX10_sheet 36 = .ok (.ifCond .eq 13, 3) := by decide +kernel
theorem dX10_sheet_39 : decode cX10_sheet 39 = .ok (.iload_n 3, 1) := by decide +kernel
theorem dX10_sheet_40 : decode cX10_sheet 40 = .ok (.ifCond .ge 9, 3) := by decide +kernel
theorem dX10_sheet_43 : decode cX10_sheet 43 = .ok (.aload_n 0, 1) := by decide +kernel
theorem dX10_sheet_44 : decode cX10_sheet 44 = .ok (.iconst 3, 1) := by decide +kernel
theorem dX10_sheet_45 : decode cX10_sheet 45 = .ok (.invokevirtual 131, 3) := by decide +kernel
theorem dX10_sheet_48 : decode cX10_sheet 48 = .ok (.ireturn, 1) := by decide +kernel
theorem dX10_sheet_49 : decode cX10_sheet 49 = .ok (.iload_n 2, 1) := by decide +kernel
theorem dX10_sheet_50 : decode cX10_sheet 50 = .ok (.ifCond .eq 15, 3) := by decide +kernel
theorem dX10_sheet_53 : decode cX10_sheet 53 = .ok (.iload_n 3, 1) := by decide +kernel
theorem dX10_sheet_54 : decode cX10_sheet 54 = .ok (.bipush 40, 2) := by decide +kernel
theorem dX10_sheet_56 : decode cX10_sheet 56 = .ok (.if_icmp .le 9, 3) := by decide +kernel
theorem dX10_sheet_59 : decode cX10_sheet 59 = .ok (.aload_n 0, 1) := by decide +kernel
theorem dX10_sheet_60 : decode cX10_sheet 60 = .ok (.iconst 1, 1) := by decide +kernel
theorem dX10_sheet_61 : decode cX10_sheet 61 = .ok (.invokevirtual 131, 3) := by decide +kernel
theorem dX10_sheet_64 : decode cX10_sheet 64 = .ok (.ireturn, 1) := by decide +kernel
theorem dX10_sheet_65 : decode cX10_sheet 65 = .ok (.aload_n 0, 1) := by decide +kernel
theorem dX10_sheet_66 : decode cX10_sheet 66 = .ok (.getfield 53, 3) := by decide +kernel
theorem dX10_sheet_69 : decode cX10_sheet 69 = .ok (.iload_n 1, 1) := by decide +kernel
theorem dX10_sheet_70 : decode cX10_sheet 70 = .ok (.iload_n 2, 1) := by decide +kernel
theorem dX10_sheet_71 : decode cX10_sheet 71 = .ok (.iastore, 1) := by decide +kernel
theorem dX10_sheet_72 : decode cX10_sheet 72 = .ok (.aload_n 0, 1) := by decide +kernel
theorem dX10_sheet_73 : decode cX10_sheet 73 = .ok (.getfield 56, 3) := by decide +kernel
theorem dX10_sheet_76 : decode cX10_sheet 76 = .ok (.iload_n 1, 1) := by decide +kernel
theorem dX10_sheet_77 : decode cX10_sheet 77 = .ok (.iload_n 2, 1) := by decide +kernel
theorem dX10_sheet_78 : decode cX10_sheet 78 = .ok (.ifCond .ne 7, 3) := by decide +kernel
theorem dX10_sheet_81 : decode cX10_sheet 81 = .ok (.iconst 0, 1) := by decide +kernel
theorem dX10_sheet_82 : decode cX10_sheet 82 = .ok (.goto 4, 3) := by decide +kernel
theorem dX10_sheet_85 : decode cX10_sheet 85 = .ok (.iload_n 3, 1) := by decide +kernel
theorem dX10_sheet_86 : decode cX10_sheet 86 = .ok (.iastore, 1) := by decide +kernel
theorem dX10_sheet_87 : decode cX10_sheet 87 = .ok (.iconst 0, 1) := by decide +kernel
theorem dX10_sheet_88 : decode cX10_sheet 88 = .ok (.istore 4, 2) := by decide +kernel
theorem dX10_sheet_90 : decode cX10_sheet 90 = .ok (.iload 4, 2) := by decide +kernel
theorem dX10_sheet_92 : decode cX10_sheet 92 = .ok (.bipush 40, 2) := by decide +kernel
theorem dX10_sheet_94 : decode cX10_sheet 94 = .ok (.if_icmp .ge 22, 3) := by decide +kernel
theorem dX10_sheet_97 : decode cX10_sheet 97 = .ok (.aload_n 0, 1) := by decide +kernel
theorem dX10_sheet_98 : decode cX10_sheet 98 = .ok (.getfield 59, 3) := by decide +kernel
theorem dX10_sheet_101 : decode cX10_sheet 101 = .ok (.bipush 40, 2) := by decide +kernel
theorem dX10_sheet_103 : decode cX10_sheet 103 = .ok (.iload_n 1, 1) := by decide +kernel
theorem dX10_sheet_104 : decode cX10_sheet 104 = .ok (.imul, 1) := by decide +kernel
theorem dX10_sheet_105 : decode cX10_sheet 105 = .ok (.iload 4, 2) := by decide +kernel
theorem dX10_sheet_107 : decode cX10_sheet 107 = .ok (.iadd, 1) := by decide +kernel
theorem dX10_sheet_108 : decode cX10_sheet 108 = .ok (.iconst 0, 1) := by decide +kernel
theorem dX10_sheet_109 : decode cX10_sheet 109 = .ok (.iastore, 1) := by decide +kernel
theorem dX10_sheet_110 : decode cX10_sheet 110 = .ok (.iinc 4 1, 3) := by decide +kernel
theorem dX10_sheet_113 : decode cX10_sheet 113 = .ok (.goto (-23), 3) := by decide +kernel
theorem dX10_sheet_116 : decode cX10_sheet 116 = .ok (.iconst 1, 1) := by decide +kernel
theorem dX10_sheet_117 : decode cX10_sheet 117 = .ok (.ireturn, 1) := by decide +kernel
theorem dX10_put_0 : decode cX10_put 0 = .ok (.iload_n 1, 1) := by decide +kernel
theorem dX10_put_1 : decode cX10_put 1 = .ok (.invokestatic 197, 3) := by decide +kernel
theorem dX10_put_4 : decode cX10_put 4 = .ok (.ifCond .ne 9, 3) := by decide +kernel
theorem dX10_put_7 : decode cX10_put 7 = .ok (.aload_n 0, 1) := by decide +kernel
theorem dX10_put_8 : decode cX10_put 8 = .ok (.iconst 1, 1) := by decide +kernel
theorem dX10_put_9 : decode cX10_put 9 = .ok (.invokevirtual 131, 3) := by decide +kernel
theorem dX10_put_12 : decode cX10_put 12 = .ok (.ireturn, 1) := by decide +kernel
theorem dX10_put_13 : decode cX10_put 13 = .ok (.aload_n 0, 1) := by decide +kernel
theorem dX10_put_14 : decode cX10_put 14 = .ok (.getfield 53, 3) := by decide +kernel
theorem dX10_put_17 : decode cX10_put 17 = .ok (.iload_n 1, 1) := by decide +kernel
theorem dX10_put_18 : decode cX10_put 18 = .ok (.iaload, 1) := by decide +kernel
theorem dX10_put_19 : decode cX10_put 19 = .ok (.ifCond .ne 9, 3) := by decide +kernel
theorem dX10_put_22 : decode cX10_put 22 = .ok (.aload_n 0, 1) := by decide +kernel
theorem dX10_put_23 : decode cX10_put 23 = .ok (.iconst 2, 1) := by decide +kernel
theorem dX10_put_24 : decode cX10_put 24 = .ok (.invokevirtual 131, 3) := by decide +kernel
theorem dX10_put_27 : decode cX10_put 27 = .ok (.ireturn, 1) := by decide +kernel
theorem dX10_put_28 : decode cX10_put 28 = .ok (.iload_n 2, 1) := by decide +kernel
theorem dX10_put_29 : decode cX10_put 29 = .ok (.i2l, 1) := by decide +kernel
theorem dX10_put_30 : decode cX10_put 30 = .ok (.lconst 0, 1) := by decide +kernel
theorem dX10_put_31 : decode cX10_put 31 = .ok (.aload_n 0, 1) := by decide +kernel
theorem dX10_put_32 : decode cX10_put 32 = .ok (.getfield 56, 3) := by decide +kernel
theorem dX10_put_35 : decode cX10_put 35 = .ok (.iload_n 1, 1) := by decide +kernel
theorem dX10_put_36 : decode cX10_put 36 = .ok (.iaload, 1) := by decide +kernel
theorem dX10_put_37 : decode cX10_put 37 = .ok (.iconst 1, 1) := by decide +kernel
theorem dX10_put_38 : decode cX10_put 38 = .ok (.isub, 1) := by decide +kernel
theorem dX10_put_39 : decode cX10_put 39 = .ok (.i2l, 1) := by decide +kernel
theorem dX10_put_40 : decode cX10_put 40 = .ok (.invokestatic 66, 3) := by decide +kernel
theorem dX10_put_43 : decode cX10_put 43 = .ok (.ifCond .ne 9, 3) := by decide +kernel
theorem dX10_put_46 : decode cX10_put 46 = .ok (.aload_n 0, 1) := by decide +kernel
theorem dX10_put_47 : decode cX10_put 47 = .ok (.iconst 1, 1) := by decide +kernel
theorem dX10_put_48 : decode cX10_put 48 = .ok (.invokevirtual 131, 3) := by decide +kernel
theorem dX10_put_51 : decode cX10_put 51 = .ok (.ireturn, 1) := by decide +kernel
theorem dX10_put_52 : decode cX10_put 52 = .ok (.aload_n 0, 1) := by decide +kernel
theorem dX10_put_53 : decode cX10_put 53 = .ok (.getfield 59, 3) := by decide +kernel
theorem dX10_put_56 : decode cX10_put 56 = .ok (.bipush 40, 2) := by decide +kernel
theorem dX10_put_58 : decode cX10_put 58 = .ok (.iload_n 1, 1) := by decide +kernel
theorem dX10_put_59 : decode cX10_put 59 = .ok (.imul, 1) := by decide +kernel
theorem dX10_put_60 : decode cX10_put 60 = .ok (.iload_n 2, 1) := by decide +kernel
theorem dX10_put_61 : decode cX10_put 61 = .ok (.iadd, 1) := by decide +kernel
theorem dX10_put_62 : decode cX10_put 62 = .ok (.aload_n 0, 1) := by decide +kernel
theorem dX10_put_63 : decode cX10_put 63 = .ok (.getfield 53, 3) := by decide +kernel
theorem dX10_put_66 : decode cX10_put 66 = .ok (.iload_n 1, 1) := by decide +kernel
theorem dX10_put_67 : decode cX10_put 67 = .ok (.iaload, 1) := by decide +kernel
theorem dX10_put_68 : decode cX10_put 68 = .ok (.bipush 8, 2) := by decide +kernel
theorem dX10_put_70 : decode cX10_put 70 = .ok (.if_icmp .ne 8, 3) := by decide +kernel
theorem dX10_put_73 : decode cX10_put 73 = .ok (.iload_n 3, 1) := by decide +kernel
theorem dX10_put_74 : decode cX10_put 74 = .ok (.i2b, 1) := by decide +kernel
theorem dX10_put_75 : decode cX10_put 75 = .ok (.goto 20, 3) := by decide +kernel
theorem dX10_put_78 : decode cX10_put 78 = .ok (.aload_n 0, 1) := by decide +kernel
theorem dX10_put_79 : decode cX10_put 79 = .ok (.getfield 53, 3) := by decide +kernel
theorem dX10_put_82 : decode cX10_put 82 = .ok (.iload_n 1, 1) := by decide +kernel
theorem dX10_put_83 : decode cX10_put 83 = .ok (.iaload, 1) := by decide +kernel
theorem dX10_put_84 : decode cX10_put 84 = .ok (.bipush 16, 2) := by decide +kernel
theorem dX10_put_86 : decode cX10_put 86 = .ok (.if_icmp .ne 8, 3) := by decide +kernel
theorem dX10_put_89 : decode cX10_put 89 = .ok (.iload_n 3, 1) := by decide +kernel
theorem dX10_put_90 : decode cX10_put 90 = .ok (.i2s, 1) := by decide +kernel
theorem dX10_put_91 : decode cX10_put 91 = .ok (.goto 4, 3) := by decide +kernel
theorem dX10_put_94 : decode cX10_put 94 = .ok (.iload_n 3, 1) := by decide +kernel
theorem dX10_put_95 : decode cX10_put 95 = .ok (.iastore, 1) := by decide +kernel
theorem dX10_put_96 : decode cX10_put 96 = .ok (.iconst 1, 1) := by decide +kernel
theorem dX10_put_97 : decode cX10_put 97 = .ok (.ireturn, 1) := by decide +kernel
theorem dX10_move_0 : decode cX10_move 0 = .ok (.iload_n 1, 1) := by decide +kernel
theorem dX10_move_1 : decode cX10_move 1 = .ok (.invokestatic 197, 3) := by decide +kernel
theorem dX10_move_4 : decode cX10_move 4 = .ok (.ifCond .eq 10, 3) := by decide +kernel
theorem dX10_move_7 : decode cX10_move 7 = .ok (.iload_n 3, 1) := by decide +kernel
theorem dX10_move_8 : decode cX10_move 8 = .ok (.invokestatic 197, 3) := by decide +kernel
theorem dX10_move_11 : decode cX10_move 11 = .ok (.ifCond .ne 9, 3) := by decide +kernel
theorem dX10_move_14 : decode cX10_move 14 = .ok (.aload_n 0, 1) := by decide +kernel
theorem dX10_move_15 : decode cX10_move 15 = .ok (.iconst 1, 1) := by decide +kernel
theorem dX10_move_16 : decode cX10_move 16 = .ok (.invokevirtual 131, 3) := by decide +kernel
theorem dX10_move_19 : decode cX10_move 19 = .ok (.ireturn, 1) := by decide +kernel
theorem dX10_move_20 : decode cX10_move 20 = .ok (.aload_n 0, 1) := by decide +kernel
theorem dX10_move_21 : decode cX10_move 21 = .ok (.getfield 53, 3) := by decide +kernel
theorem dX10_move_24 : decode cX10_move 24 = .ok (.iload_n 1, 1) := by decide +kernel
theorem dX10_move_25 : decode cX10_move 25 = .ok (.iaload, 1) := by decide +kernel
theorem dX10_move_26 : decode cX10_move 26 = .ok (.ifCond .eq 12, 3) := by decide +kernel
theorem dX10_move_29 : decode cX10_move 29 = .ok (.aload_n 0, 1) := by decide +kernel
theorem dX10_move_30 : decode cX10_move 30 = .ok (.getfield 53, 3) := by decide +kernel
theorem dX10_move_33 : decode cX10_move 33 = .ok (.iload_n 3, 1) := by decide +kernel
theorem dX10_move_34 : decode cX10_move 34 = .ok (.iaload, 1) := by decide +kernel
theorem dX10_move_35 : decode cX10_move 35 = .ok (.ifCond .ne 9, 3) := by decide +kernel
theorem dX10_move_38 : decode cX10_move 38 = .ok (.aload_n 0, 1) := by decide +kernel
theorem dX10_move_39 : decode cX10_move 39 = .ok (.iconst 2, 1) := by decide +kernel
theorem dX10_move_40 : decode cX10_move 40 = .ok (.invokevirtual 131, 3) := by decide +kernel
theorem dX10_move_43 : decode cX10_move 43 = .ok (.ireturn, 1) := by decide +kernel
theorem dX10_move_44 : decode cX10_move 44 = .ok (.aload_n 0, 1) := by decide +kernel
theorem dX10_move_45 : decode cX10_move 45 = .ok (.getfield 53, 3) := by decide +kernel
theorem dX10_move_48 : decode cX10_move 48 = .ok (.iload_n 1, 1) := by decide +kernel
theorem dX10_move_49 : decode cX10_move 49 = .ok (.iaload, 1) := by decide +kernel
theorem dX10_move_50 : decode cX10_move 50 = .ok (.aload_n 0, 1) := by decide +kernel
theorem dX10_move_51 : decode cX10_move 51 = .ok (.getfield 53, 3) := by decide +kernel
theorem dX10_move_54 : decode cX10_move 54 = .ok (.iload_n 3, 1) := by decide +kernel
theorem dX10_move_55 : decode cX10_move 55 = .ok (.iaload, 1) := by decide +kernel
theorem dX10_move_56 : decode cX10_move 56 = .ok (.if_icmp .eq 9, 3) := by decide +kernel
theorem dX10_move_59 : decode cX10_move 59 = .ok (.aload_n 0, 1) := by decide +kernel
theorem dX10_move_60 : decode cX10_move 60 = .ok (.iconst 5, 1) := by decide +kernel
theorem dX10_move_61 : decode cX10_move 61 = .ok (.invokevirtual 131, 3) := by decide +kernel
theorem dX10_move_64 : decode cX10_move 64 = .ok (.ireturn, 1) := by decide +kernel
theorem dX10_move_65 : decode cX10_move 65 = .ok (.iload 5, 2) := by decide +kernel
theorem dX10_move_67 : decode cX10_move 67 = .ok (.ifCond .lt 39, 3) := by decide +kernel
theorem dX10_move_70 : decode cX10_move 70 = .ok (.iload_n 2, 1) := by decide +kernel
theorem dX10_move_71 : decode cX10_move 71 = .ok (.ifCond .lt 35, 3) := by decide +kernel
theorem dX10_move_74 : decode cX10_move 74 = .ok (.iload 4, 2) := by decide +kernel
theorem dX10_move_76 : decode cX10_move 76 = .ok (.ifCond .lt 30, 3) := by decide +kernel
theorem dX10_move_79 : decode cX10_move 79 = .ok (.iload 5, 2) := by decide +kernel
theorem dX10_move_81 : decode cX10_move 81 = .ok (.aload_n 0, 1) := by decide +kernel
theorem dX10_move_82 : decode cX10_move 82 = .ok (.getfield 56, 3) := by decide +kernel
theorem dX10_move_85 : decode cX10_move 85 = .ok (.iload_n 1, 1) := by decide +kernel
theorem dX10_move_86 : decode cX10_move 86 = .ok (.iaload, 1) := by decide +kernel
theorem dX10_move_87 : decode cX10_move 87 = .ok (.iload_n 2, 1) := by decide +kernel
theorem dX10_move_88 : decode cX10_move 88 = .ok (.isub, 1) := by decide +kernel
theorem dX10_move_89 : decode cX10_move 89 = .ok (.if_icmp .gt 17, 3) := by decide +kernel
theorem dX10_move_92 : decode cX10_move 92 = .ok (.iload 5, 2) := by decide +kernel
theorem dX10_move_94 : decode cX10_move 94 = .ok (.aload_n 0, 1) := by decide +kernel
theorem dX10_move_95 : decode cX10_move 95 = .ok (.getfield 56, 3) := by decide +kernel
theorem dX10_move_98 : decode cX10_move 98 = .ok (.iload_n 3, 1) := by decide +kernel
theorem dX10_move_99 : decode cX10_move 99 = .ok (.iaload, 1) := by decide +kernel
theorem dX10_move_100 : decode cX10_move 100 = .ok (.iload 4, 2) := by decide +kernel
theorem dX10_move_102 : decode cX10_move 102 = .ok (.isub, 1) := by decide +kernel
theorem dX10_move_103 : decode cX10_move 103 = .ok (.if_icmp .le 9, 3) := by decide +kernel
theorem dX10_move_106 : decode cX10_move 106 = .ok (.aload_n 0, 1) := by decide +kernel
theorem dX10_move_107 : decode cX10_move 107 = .ok (.iconst 1, 1) := by decide +kernel
theorem dX10_move_108 : decode cX10_move 108 = .ok (.invokevirtual 131, 3) := by decide +kernel
theorem dX10_move_111 : decode cX10_move 111 = .ok (.ireturn, 1) := by decide +kernel
theorem dX10_move_112 : decode cX10_move 112 = .ok (.iconst 0, 1) := by decide +kernel
theorem dX10_move_113 : decode cX10_move 113 = .ok (.istore 6, 2) := by decide +kernel
theorem dX10_move_115 : decode cX10_move 115 = .ok (.iload 6, 2) := by decide +kernel
theorem dX10_move_117 : decode cX10_move 117 = .ok (.iload 5, 2) := by decide +kernel
theorem dX10_move_119 : decode cX10_move 119 = .ok (.if_icmp .ge 30, 3) := by decide +kernel
theorem dX10_move_122 : decode cX10_move 122 = .ok (.aload_n 0, 1) := by decide +kernel
theorem dX10_move_123 : decode cX10_move 123 = .ok (.getfield 62, 3) := by decide +kernel
theorem dX10_move_126 : decode cX10_move 126 = .ok (.iload 6, 2) := by decide +kernel
theorem dX10_move_128 : decode cX10_move 128 = .ok (.aload_n 0, 1) := by decide +kernel
theorem dX10_move_129 : decode cX10_move 129 = .ok (.getfield 59, 3) := by decide +kernel
theorem dX10_move_132 : decode cX10_move 132 = .ok (.bipush 40, 2) := by decide +kernel
theorem dX10_move_134 : decode cX10_move 134 = .ok (.iload_n 1, 1) := by decide +kernel
theorem dX10_move_135 : decode cX10_move 135 = .ok (.imul, 1) := by decide +kernel
theorem dX10_move_136 : decode cX10_move 136 = .ok (.iload_n 2, 1) := by decide +kernel
theorem dX10_move_137 : decode cX10_move 137 = .ok (.iadd, 1) := by decide +kernel
theorem dX10_move_138 : decode cX10_move 138 = .ok (.iload 6, 2) := by decide +kernel
theorem dX10_move_140 : decode cX10_move 140 = .ok (.iadd, 1) := by decide +kernel
theorem dX10_move_141 : decode cX10_move 141 = .ok (.iaload, 1) := by decide +kernel
theorem dX10_move_142 : decode cX10_move 142 = .ok (.iastore, 1) := by decide +kernel
theorem dX10_move_143 : decode cX10_move 143 = .ok (.iinc 6 1, 3) := by decide +kernel
theorem dX10_move_146 : decode cX10_move 146 = .ok (.goto (-31), 3) := by decide +kernel
theorem dX10_move_149 : decode cX10_move 149 = .ok (.iconst 0, 1) := by decide +kernel
theorem dX10_move_150 : decode cX10_move 150 = .ok (.istore 6, 2) := by decide +kernel
theorem dX10_move_152 : decode cX10_move 152 = .ok (.iload 6, 2) := by decide +kernel
theorem dX10_move_154 : decode cX10_move 154 = .ok (.iload 5, 2) := by decide +kernel
theorem dX10_move_156 : decode cX10_move 156 = .ok (.if_icmp .ge 31, 3) := by decide +kernel
theorem dX10_move_159 : decode cX10_move 159 = .ok (.aload_n 0, 1) := by decide +kernel
theorem dX10_move_160 : decode cX10_move 160 = .ok (.getfield 59, 3) := by decide +kernel
theorem dX10_move_163 : decode cX10_move 163 = .ok (.bipush 40, 2) := by decide +kernel
theorem dX10_move_165 : decode cX10_move 165 = .ok (.iload_n 3, 1) := by decide +kernel
theorem dX10_move_166 : decode cX10_move 166 = .ok (.imul, 1) := by decide +kernel
theorem dX10_move_167 : decode cX10_move 167 = .ok (.iload 4, 2) := by decide +kernel
theorem dX10_move_169 : decode cX10_move 169 = .ok (.iadd, 1) := by decide +kernel
theorem dX10_move_170 : decode cX10_move 170 = .ok (.iload 6, 2) := by decide +kernel
theorem dX10_move_172 : decode cX10_move 172 = .ok (.iadd, 1) := by decide +kernel
theorem dX10_move_173 : decode cX10_move 173 = .ok (.aload_n 0, 1) := by decide +kernel
theorem dX10_move_174 : decode cX10_move 174 = .ok (.getfield 62, 3) := by decide +kernel
theorem dX10_move_177 : decode cX10_move 177 = .ok (.iload 6, 2) := by decide +kernel
theorem dX10_move_179 : decode cX10_move 179 = .ok (.iaload, 1) := by decide +kernel
theorem dX10_move_180 : decode cX10_move 180 = .ok (.iastore, 1) := by decide +kernel
theorem dX10_move_181 : decode cX10_move 181 = .ok (.iinc 6 1, 3) := by decide +kernel
theorem dX10_move_184 : decode cX10_move 184 = .ok (.goto (-32), 3) := by decide +kernel
theorem dX10_move_187 : decode cX10_move 187 = .ok (.iload 5, 2) := by decide +kernel
theorem dX10_move_189 : decode cX10_move 189 = .ok (.ireturn, 1) := by decide +kernel
theorem dX10_image_0 : decode cX10_image 0 = .ok (.aload_n 0, 1) := by decide +kernel
theorem dX10_image_1 : decode cX10_image 1 = .ok (.getfield 7, 3) := by decide +kernel
theorem dX10_image_4 : decode cX10_image 4 = .ok (.aload_n 0, 1) := by decide +kernel
theorem dX10_image_5 : decode cX10_image 5 = .ok (.getfield 16, 3) := by decide +kernel
theorem dX10_image_8 : decode cX10_image 8 = .ok (.invokestatic 286, 3) := by decide +kernel
theorem dX10_image_11 : decode cX10_image 11 = .ok (.aload_n 0, 1) := by decide +kernel
theorem dX10_image_12 : decode cX10_image 12 = .ok (.dup, 1) := by decide +kernel
theorem dX10_image_13 : decode cX10_image 13 = .ok (.getfield 319, 3) := by decide +kernel
theorem dX10_image_16 : decode cX10_image 16 = .ok (.iconst 1, 1) := by decide +kernel
theorem dX10_image_17 : decode cX10_image 17 = .ok (.iadd, 1) := by decide +kernel
theorem dX10_image_18 : decode cX10_image 18 = .ok (.putfield 319, 3) := by decide +kernel
theorem dX10_image_21 : decode cX10_image 21 = .ok (.aload_n 0, 1) := by decide +kernel
theorem dX10_image_22 : decode cX10_image 22 = .ok (.getfield 319, 3) := by decide +kernel
theorem dX10_image_25 : decode cX10_image 25 = .ok (.ireturn, 1) := by decide +kernel
theorem dX10_restore_0 : decode cX10_restore 0 = .ok (.aload_n 0, 1) := by decide +kernel
theorem dX10_restore_1 : decode cX10_restore 1 = .ok (.getfield 319, 3) := by decide +kernel
theorem dX10_restore_4 : decode cX10_restore 4 = .ok (.ifCond .ne 9, 3) := by decide +kernel
theorem dX10_restore_7 : decode cX10_restore 7 = .ok (.aload_n 0, 1) := by decide +kernel
theorem dX10_restore_8 : decode cX10_restore 8 = .ok (.iconst 2, 1) := by decide +kernel
theorem dX10_restore_9 : decode cX10_restore 9 = .ok (.invokevirtual 131, 3) := by decide +kernel
theorem dX10_restore_12 : decode cX10_restore 12 = .ok (.ireturn, 1) := by decide +kernel
theorem dX10_restore_13 : decode cX10_restore 13 = .ok (.aload_n 0, 1) := by decide +kernel
theorem dX10_restore_14 : decode cX10_restore 14 = .ok (.getfield 16, 3) := by decide +kernel
theorem dX10_restore_17 : decode cX10_restore 17 = .ok (.aload_n 0, 1) := by decide +kernel
theorem dX10_restore_18 : decode cX10_restore 18 = .ok (.getfield 7, 3) := by decide +kernel
theorem dX10_restore_21 : decode cX10_restore 21 = .ok (.invokestatic 286, 3) := by decide +kernel
theorem dX10_restore_24 : decode cX10_restore 24 = .ok (.aload_n 0, 1) := by decide +kernel
theorem dX10_restore_25 : decode cX10_restore 25 = .ok (.getfield 7, 3) := by decide +kernel
theorem dX10_restore_28 : decode cX10_restore 28 = .ok (.bipush 103, 2) := by decide +kernel
theorem dX10_restore_30 : decode cX10_restore 30 = .ok (.iaload, 1) := by decide +kernel
theorem dX10_restore_31 : decode cX10_restore 31 = .ok (.ireturn, 1) := by decide +kernel
theorem dX10_tell_0 : decode cX10_tell 0 = .ok (.aload_n 0, 1) := by decide +kernel
theorem dX10_tell_1 : decode cX10_tell 1 = .ok (.getfield 7, 3) := by decide +kernel
theorem dX10_tell_4 : decode cX10_tell 4 = .ok (.bipush 107, 2) := by decide +kernel
theorem dX10_tell_6 : decode cX10_tell 6 = .ok (.iaload, 1) := by decide +kernel
theorem dX10_tell_7 : decode cX10_tell 7 = .ok (.bipush 20, 2) := by decide +kernel
theorem dX10_tell_9 : decode cX10_tell 9 = .ok (.if_icmp .ne 9, 3) := by decide +kernel
theorem dX10_tell_12 : decode cX10_tell 12 = .ok (.aload_n 0, 1) := by decide +kernel
theorem dX10_tell_13 : decode cX10_tell 13 = .ok (.iconst 4, 1) := by decide +kernel
theorem dX10_tell_14 : decode cX10_tell 14 = .ok (.invokevirtual 131, 3) := by decide +kernel
theorem dX10_tell_17 : decode cX10_tell 17 = .ok (.ireturn, 1) := by decide +kernel
theorem dX10_tell_18 : decode cX10_tell 18 = .ok (.aload_n 0, 1) := by decide +kernel
theorem dX10_tell_19 : decode cX10_tell 19 = .ok (.getfield 7, 3) := by decide +kernel
theorem dX10_tell_22 : decode cX10_tell 22 = .ok (.sipush 183, 3) := by decide +kernel
theorem dX10_tell_25 : decode cX10_tell 25 = .ok (.aload_n 0, 1) := by decide +kernel
theorem dX10_tell_26 : decode cX10_tell 26 = .ok (.getfield 7, 3) := by decide +kernel
theorem dX10_tell_29 : decode cX10_tell 29 = .ok (.bipush 107, 2) := by decide +kernel
theorem dX10_tell_31 : decode cX10_tell 31 = .ok (.iaload, 1) := by decide +kernel
theorem dX10_tell_32 : decode cX10_tell 32 = .ok (.iadd, 1) := by decide +kernel
theorem dX10_tell_33 : decode cX10_tell 33 = .ok (.iload_n 1, 1) := by decide +kernel
theorem dX10_tell_34 : decode cX10_tell 34 = .ok (.iastore, 1) := by decide +kernel
theorem dX10_tell_35 : decode cX10_tell 35 = .ok (.aload_n 0, 1) := by decide +kernel
theorem dX10_tell_36 : decode cX10_tell 36 = .ok (.getfield 7, 3) := by decide +kernel
theorem dX10_tell_39 : decode cX10_tell 39 = .ok (.bipush 107, 2) := by decide +kernel
theorem dX10_tell_41 : decode cX10_tell 41 = .ok (.dup2, 1) := by decide +kernel
theorem dX10_tell_42 : decode cX10_tell 42 = .ok (.iaload, 1) := by decide +kernel
theorem dX10_tell_43 : decode cX10_tell 43 = .ok (.iconst 1, 1) := by decide +kernel
theorem dX10_tell_44 : decode cX10_tell 44 = .ok (.iadd, 1) := by decide +kernel
theorem dX10_tell_45 : decode cX10_tell 45 = .ok (.iastore, 1) := by decide +kernel
theorem dX10_tell_46 : decode cX10_tell 46 = .ok (.aload_n 0, 1) := by decide +kernel
theorem dX10_tell_47 : decode cX10_tell 47 = .ok (.getfield 7, 3) := by decide +kernel
theorem dX10_tell_50 : decode cX10_tell 50 = .ok (.bipush 107, 2) := by decide +kernel
theorem dX10_tell_52 : decode cX10_tell 52 = .ok (.iaload, 1) := by decide +kernel
theorem dX10_tell_53 : decode cX10_tell 53 = .ok (.ireturn, 1) := by decide +kernel
theorem dX10_clashesAhead_0 : decode cX10_clashesAhead 0 = .ok (.iconst 0, 1) := by decide +kernel
theorem dX10_clashesAhead_1 : decode cX10_clashesAhead 1 = .ok (.istore_n 2, 1) := by decide +kernel
theorem dX10_clashesAhead_2 : decode cX10_clashesAhead 2 = .ok (.iload_n 2, 1) := by decide +kernel
theorem dX10_clashesAhead_3 : decode cX10_clashesAhead 3 = .ok (.iload_n 1, 1) := by decide +kernel
theorem dX10_clashesAhead_4 : decode cX10_clashesAhead 4 = .ok (.if_icmp .ge 21, 3) := by decide +kernel
theorem dX10_clashesAhead_7 : decode cX10_clashesAhead 7 = .ok (.aload_n 0, 1) := by decide +kernel
theorem dX10_clashesAhead_8 : decode cX10_clashesAhead 8 = .ok (.iload_n 2, 1) := by decide +kernel
theorem dX10_clashesAhead_9 : decode cX10_clashesAhead 9 = .ok (.iload_n 1, 1) := by decide +kernel
theorem dX10_clashesAhead_10 : decode cX10_clashesAhead 10 = .ok (.iconst 0, 1) := by decide +kernel
theorem dX10_clashesAhead_11 : decode cX10_clashesAhead 11 = .ok (.invokevirtual 235, 3) := by decide +kernel
theorem dX10_clashesAhead_14 : decode cX10_clashesAhead 14 = .ok (.ifCond .le 5, 3) := by decide +kernel
theorem dX10_clashesAhead_17 : decode cX10_clashesAhead 17 = .ok (.iconst 1, 1) := by decide +kernel
theorem dX10_clashesAhead_18 : decode cX10_clashesAhead 18 = .ok (.ireturn, 1) := by decide +kernel
theorem dX10_clashesAhead_19 : decode cX10_clashesAhead 19 = .ok (.iinc 2 1, 3) := by decide +kernel
theorem dX10_clashesAhead_22 : decode cX10_clashesAhead 22 = .ok (.goto (-20), 3) := by decide +kernel
theorem dX10_clashesAhead_25 : decode cX10_clashesAhead 25 = .ok (.iconst 0, 1) := by decide +kernel
theorem dX10_clashesAhead_26 : decode cX10_clashesAhead 26 = .ok (.ireturn, 1) := by decide +kernel
theorem dX10_wrong__0 : decode cX10_wrong_ 0 = .ok (.iconst 0, 1) := by decide +kernel
theorem dX10_wrong__1 : decode cX10_wrong_ 1 = .ok (.istore_n 2, 1) := by decide +kernel
theorem dX10_wrong__2 : decode cX10_wrong_ 2 = .ok (.iload_n 2, 1) := by decide +kernel
theorem dX10_wrong__3 : decode cX10_wrong_ 3 = .ok (.iload_n 1, 1) := by decide +kernel
theorem dX10_wrong__4 : decode cX10_wrong_ 4 = .ok (.if_icmp .ge 75, 3) := by decide +kernel
theorem dX10_wrong__7 : decode cX10_wrong_ 7 = .ok (.iload_n 2, 1) := by decide +kernel
theorem dX10_wrong__8 : decode cX10_wrong_ 8 = .ok (.aload_n 0, 1) := by decide +kernel
theorem dX10_wrong__9 : decode cX10_wrong_ 9 = .ok (.getfield 7, 3) := by decide +kernel
theorem dX10_wrong__12 : decode cX10_wrong_ 12 = .ok (.bipush 103, 2) := by decide +kernel
theorem dX10_wrong__14 : decode cX10_wrong_ 14 = .ok (.iaload, 1) := by decide +kernel
theorem dX10_wrong__15 : decode cX10_wrong_ 15 = .ok (.if_icmp .eq 26, 3) := by decide +kernel
theorem dX10_wrong__18 : decode cX10_wrong_ 18 = .ok (.aload_n 0, 1) := by decide +kernel
theorem dX10_wrong__19 : decode cX10_wrong_ 19 = .ok (.getfield 7, 3) := by decide +kernel
theorem dX10_wrong__22 : decode cX10_wrong_ 22 = .ok (.sipush 183, 3) := by decide +kernel
theorem dX10_wrong__25 : decode cX10_wrong_ 25 = .ok (.iload_n 2, 1) := by decide +kernel
theorem dX10_wrong__26 : decode cX10_wrong_ 26 = .ok (.iadd, 1) := by decide +kernel
theorem dX10_wrong__27 : decode cX10_wrong_ 27 = .ok (.iaload, 1) := by decide +kernel
theorem dX10_wrong__28 : decode cX10_wrong_ 28 = .ok (.i2l, 1) := by decide +kernel
theorem dX10_wrong__29 : decode cX10_wrong_ 29 = .ok (.ldc2_w 179, 3) := by decide +kernel
theorem dX10_wrong__32 : decode cX10_wrong_ 32 = .ok (.ldc2_w 181, 3) := by decide +kernel
theorem dX10_wrong__35 : decode cX10_wrong_ 35 = .ok (.invokestatic 66, 3) := by decide +kernel
theorem dX10_wrong__38 : decode cX10_wrong_ 38 = .ok (.ifCond .ne 7, 3) := by decide +kernel
theorem dX10_wrong__41 : decode cX10_wrong_ 41 = .ok (.iconst 1, 1) := by decide +kernel
theorem dX10_wrong__42 : decode cX10_wrong_ 42 = .ok (.iload_n 2, 1) := by decide +kernel
theorem dX10_wrong__43 : decode cX10_wrong_ 43 = .ok (.iadd, 1) := by decide +kernel
theorem dX10_wrong__44 : decode cX10_wrong_ 44 = .ok (.ireturn, 1) := by decide +kernel
theorem dX10_wrong__45 : decode cX10_wrong_ 45 = .ok (.aload_n 0, 1) := by decide +kernel
theorem dX10_wrong__46 : decode cX10_wrong_ 46 = .ok (.iload_n 2, 1) := by decide +kernel
theorem dX10_wrong__47 : decode cX10_wrong_ 47 = .ok (.iconst 4, 1) := by decide +kernel
theorem dX10_wrong__48 : decode cX10_wrong_ 48 = .ok (.aload_n 0, 1) := by decide +kernel
theorem dX10_wrong__49 : decode cX10_wrong_ 49 = .ok (.getfield 7, 3) := by decide +kernel
theorem dX10_wrong__52 : decode cX10_wrong_ 52 = .ok (.sipush 183, 3) := by decide +kernel
theorem dX10_wrong__55 : decode cX10_wrong_ 55 = .ok (.iload_n 2, 1) := by decide +kernel
theorem dX10_wrong__56 : decode cX10_wrong_ 56 = .ok (.iadd, 1) := by decide +kernel
theorem dX10_wrong__57 : decode cX10_wrong_ 57 = .ok (.iaload, 1) := by decide +kernel
theorem dX10_wrong__58 : decode cX10_wrong_ 58 = .ok (.invokevirtual 162, 3) := by decide +kernel
theorem dX10_wrong__61 : decode cX10_wrong_ 61 = .ok (.aload_n 0, 1) := by decide +kernel
theorem dX10_wrong__62 : decode cX10_wrong_ 62 = .ok (.iload_n 2, 1) := by decide +kernel
theorem dX10_wrong__63 : decode cX10_wrong_ 63 = .ok (.invokevirtual 322, 3) := by decide +kernel
theorem dX10_wrong__66 : decode cX10_wrong_ 66 = .ok (.ifCond .eq 7, 3) := by decide +kernel
theorem dX10_wrong__69 : decode cX10_wrong_ 69 = .ok (.iconst 1, 1) := by decide +kernel
theorem dX10_wrong__70 : decode cX10_wrong_ 70 = .ok (.iload_n 2, 1) := by decide +kernel
theorem dX10_wrong__71 : decode cX10_wrong_ 71 = .ok (.iadd, 1) := by decide +kernel
theorem dX10_wrong__72 : decode cX10_wrong_ 72 = .ok (.ireturn, 1) := by decide +kernel
theorem dX10_wrong__73 : decode cX10_wrong_ 73 = .ok (.iinc 2 1, 3) := by decide +kernel
theorem dX10_wrong__76 : decode cX10_wrong_ 76 = .ok (.goto (-74), 3) := by decide +kernel
theorem dX10_wrong__79 : decode cX10_wrong_ 79 = .ok (.iload_n 1, 1) := by decide +kernel
theorem dX10_wrong__80 : decode cX10_wrong_ 80 = .ok (.aload_n 0, 1) := by decide +kernel
theorem dX10_wrong__81 : decode cX10_wrong_ 81 = .ok (.getfield 7, 3) := by decide +kernel
theorem dX10_wrong__84 : decode cX10_wrong_ 84 = .ok (.bipush 103, 2) := by decide +kernel
theorem dX10_wrong__86 : decode cX10_wrong_ 86 = .ok (.iaload, 1) := by decide +kernel
theorem dX10_wrong__87 : decode cX10_wrong_ 87 = .ok (.if_icmp .ge 9, 3) := by decide +kernel
theorem dX10_wrong__90 : decode cX10_wrong_ 90 = .ok (.iconst 1, 1) := by decide +kernel
theorem dX10_wrong__91 : decode cX10_wrong_ 91 = .ok (.iload_n 1, 1) := by decide +kernel
theorem dX10_wrong__92 : decode cX10_wrong_ 92 = .ok (.iadd, 1) := by decide +kernel
theorem dX10_wrong__93 : decode cX10_wrong_ 93 = .ok (.goto 4, 3) := by decide +kernel
theorem dX10_wrong__96 : decode cX10_wrong_ 96 = .ok (.iconst 0, 1) := by decide +kernel
theorem dX10_wrong__97 : decode cX10_wrong_ 97 = .ok (.ireturn, 1) := by decide +kernel
theorem dX10_check_0 : decode cX10_check 0 = .ok (.aload_n 0, 1) := by decide +kernel
theorem dX10_check_1 : decode cX10_check 1 = .ok (.getfield 7, 3) := by decide +kernel
theorem dX10_check_4 : decode cX10_check 4 = .ok (.bipush 107, 2) := by decide +kernel
theorem dX10_check_6 : decode cX10_check 6 = .ok (.iaload, 1) := by decide +kernel
theorem dX10_check_7 : decode cX10_check 7 = .ok (.istore_n 2, 1) := by decide +kernel
theorem dX10_check_8 : decode cX10_check 8 = .ok (.aload_n 0, 1) := by decide +kernel
theorem dX10_check_9 : decode cX10_check 9 = .ok (.getfield 7, 3) := by decide +kernel
theorem dX10_check_12 : decode cX10_check 12 = .ok (.bipush 107, 2) := by decide +kernel
theorem dX10_check_14 : decode cX10_check 14 = .ok (.iconst 0, 1) := by decide +kernel
theorem dX10_check_15 : decode cX10_check 15 = .ok (.iastore, 1) := by decide +kernel
theorem dX10_check_16 : decode cX10_check 16 = .ok (.iload_n 1, 1) := by decide +kernel
theorem dX10_check_17 : decode cX10_check 17 = .ok (.invokestatic 191, 3) := by decide +kernel
theorem dX10_check_20 : decode cX10_check 20 = .ok (.ifCond .ne 9, 3) := by decide +kernel
theorem dX10_check_23 : decode cX10_check 23 = .ok (.aload_n 0, 1) := by decide +kernel
theorem dX10_check_24 : decode cX10_check 24 = .ok (.iconst 1, 1) := by decide +kernel
theorem dX10_check_25 : decode cX10_check 25 = .ok (.invokevirtual 131, 3) := by decide +kernel
theorem dX10_check_28 : decode cX10_check 28 = .ok (.ireturn, 1) := by decide +kernel
theorem dX10_check_29 : decode cX10_check 29 = .ok (.aload_n 0, 1) := by decide +kernel
theorem dX10_check_30 : decode cX10_check 30 = .ok (.iload_n 1, 1) := by decide +kernel
theorem dX10_check_31 : decode cX10_check 31 = .ok (.invokevirtual 238, 3) := by decide +kernel
theorem dX10_check_34 : decode cX10_check 34 = .ok (.aload_n 0, 1) := by decide +kernel
theorem dX10_check_35 : decode cX10_check 35 = .ok (.getfield 7, 3) := by decide +kernel
theorem dX10_check_38 : decode cX10_check 38 = .ok (.aload_n 0, 1) := by decide +kernel
theorem dX10_check_39 : decode cX10_check 39 = .ok (.getfield 13, 3) := by decide +kernel
theorem dX10_check_42 : decode cX10_check 42 = .ok (.invokestatic 286, 3) := by decide +kernel
theorem dX10_check_45 : decode cX10_check 45 = .ok (.aload_n 0, 1) := by decide +kernel
theorem dX10_check_46 : decode cX10_check 46 = .ok (.iload_n 2, 1) := by decide +kernel
theorem dX10_check_47 : decode cX10_check 47 = .ok (.invokevirtual 325, 3) := by decide +kernel
theorem dX10_check_50 : decode cX10_check 50 = .ok (.istore_n 3, 1) := by decide +kernel
theorem dX10_check_51 : decode cX10_check 51 = .ok (.aload_n 0, 1) := by decide +kernel
theorem dX10_check_52 : decode cX10_check 52 = .ok (.getfield 13, 3) := by decide +kernel
theorem dX10_check_55 : decode cX10_check 55 = .ok (.aload_n 0, 1) := by decide +kernel
theorem dX10_check_56 : decode cX10_check 56 = .ok (.getfield 7, 3) := by decide +kernel
theorem dX10_check_59 : decode cX10_check 59 = .ok (.invokestatic 286, 3) := by decide +kernel
theorem dX10_check_62 : decode cX10_check 62 = .ok (.iload_n 3, 1) := by decide +kernel
theorem dX10_check_63 : decode cX10_check 63 = .ok (.ireturn, 1) := by decide +kernel
theorem dX10_manySilent_0 : decode cX10_manySilent 0 = .ok (.iconst 0, 1) := by decide +kernel
theorem dX10_manySilent_1 : decode cX10_manySilent 1 = .ok (.istore_n 1, 1) := by decide +kernel
theorem dX10_manySilent_2 : decode cX10_manySilent 2 = .ok (.iconst 0, 1) := by decide +kernel
theorem dX10_manySilent_3 : decode cX10_manySilent 3 = .ok (.istore_n 2, 1) := by decide +kernel
theorem dX10_manySilent_4 : decode cX10_manySilent 4 = .ok (.iload_n 2, 1) := by decide +kernel
theorem dX10_manySilent_5 : decode cX10_manySilent 5 = .ok (.aload_n 0, 1) := by decide +kernel
theorem dX10_manySilent_6 : decode cX10_manySilent 6 = .ok (.getfield 7, 3) := by decide +kernel
theorem dX10_manySilent_9 : decode cX10_manySilent 9 = .ok (.bipush 103, 2) := by decide +kernel
theorem dX10_manySilent_11 : decode cX10_manySilent 11 = .ok (.iaload, 1) := by decide +kernel
theorem dX10_manySilent_12 : decode cX10_manySilent 12 = .ok (.if_icmp .ge 19, 3) := by decide +kernel
theorem dX10_manySilent_15 : decode cX10_manySilent 15 = .ok (.iload_n 1, 1) := by decide +kernel
theorem dX10_manySilent_16 : decode cX10_manySilent 16 = .ok (.aload_n 0, 1) := by decide +kernel
theorem dX10_manySilent_17 : decode cX10_manySilent 17 = .ok (.iload_n 2, 1) := by decide +kernel
theorem dX10_manySilent_18 : decode cX10_manySilent 18 = .ok (.bipush 6, 2) := by decide +kernel
theorem dX10_manySilent_20 : decode cX10_manySilent 20 = .ok (.invokevirtual 175, 3) := by decide +kernel
theorem dX10_manySilent_23 : decode cX10_manySilent 23 = .ok (.iadd, 1) := by decide +kernel
theorem dX10_manySilent_24 : decode cX10_manySilent 24 = .ok (.istore_n 1, 1) := by decide +kernel
theorem dX10_manySilent_25 : decode cX10_manySilent 25 = .ok (.iinc 2 1, 3) := by decide +kernel
theorem dX10_manySilent_28 : decode cX10_manySilent 28 = .ok (.goto (-24), 3) := by decide +kernel
theorem dX10_manySilent_31 : decode cX10_manySilent 31 = .ok (.iload_n 1, 1) := by decide +kernel
theorem dX10_manySilent_32 : decode cX10_manySilent 32 = .ok (.ireturn, 1) := by decide +kernel
theorem dX10_count_0 : decode cX10_count 0 = .ok (.iload_n 1, 1) := by decide +kernel
theorem dX10_count_1 : decode cX10_count 1 = .ok (.tableswitch 105 0 7 #[47, 55, 63, 68, 76, 84, 92, 97], 47) := by decide +kernel
theorem dX10_count_48 : decode cX10_count 48 = .ok (.aload_n 0, 1) := by decide +kernel
theorem dX10_count_49 : decode cX10_count 49 = .ok (.getfield 7, 3) := by decide +kernel
theorem dX10_count_52 : decode cX10_count 52 = .ok (.bipush 103, 2) := by decide +kernel
theorem dX10_count_54 : decode cX10_count 54 = .ok (.iaload, 1) := by decide +kernel
theorem dX10_count_55 : decode cX10_count 55 = .ok (.ireturn, 1) := by decide +kernel
theorem dX10_count_56 : decode cX10_count 56 = .ok (.aload_n 0, 1) := by decide +kernel
theorem dX10_count_57 : decode cX10_count 57 = .ok (.getfield 7, 3) := by decide +kernel
theorem dX10_count_60 : decode cX10_count 60 = .ok (.bipush 104, 2) := by decide +kernel
theorem dX10_count_62 : decode cX10_count 62 = .ok (.iaload, 1) := by decide +kernel
theorem dX10_count_63 : decode cX10_count 63 = .ok (.ireturn, 1) := by decide +kernel
theorem dX10_count_64 : decode cX10_count 64 = .ok (.aload_n 0, 1) := by decide +kernel
theorem dX10_count_65 : decode cX10_count 65 = .ok (.invokevirtual 327, 3) := by decide +kernel
theorem dX10_count_68 : decode cX10_count 68 = .ok (.ireturn, 1) := by decide +kernel
theorem dX10_count_69 : decode cX10_count 69 = .ok (.aload_n 0, 1) := by decide +kernel
theorem dX10_count_70 : decode cX10_count 70 = .ok (.getfield 7, 3) := by decide +kernel
theorem dX10_count_73 : decode cX10_count 73 = .ok (.bipush 100, 2) := by decide +kernel
theorem dX10_count_75 : decode cX10_count 75 = .ok (.iaload, 1) := by decide +kernel
theorem dX10_count_76 : decode cX10_count 76 = .ok (.ireturn, 1) := by decide +kernel
theorem dX10_count_77 : decode cX10_count 77 = .ok (.aload_n 0, 1) := by decide +kernel
theorem dX10_count_78 : decode cX10_count 78 = .ok (.getfield 7, 3) := by decide +kernel
theorem dX10_count_81 : decode cX10_count 81 = .ok (.bipush 106, 2) := by decide +kernel
theorem dX10_count_83 : decode cX10_count 83 = .ok (.iaload, 1) := by decide +kernel
theorem dX10_count_84 : decode cX10_count 84 = .ok (.ireturn, 1) := by decide +kernel
theorem dX10_count_85 : decode cX10_count 85 = .ok (.aload_n 0, 1) := by decide +kernel
theorem dX10_count_86 : decode cX10_count 86 = .ok (.getfield 7, 3) := by decide +kernel
theorem dX10_count_89 : decode cX10_count 89 = .ok (.bipush 107, 2) := by decide +kernel
theorem dX10_count_91 : decode cX10_count 91 = .ok (.iaload, 1) := by decide +kernel
theorem dX10_count_92 : decode cX10_count 92 = .ok (.ireturn, 1) := by decide +kernel
theorem dX10_count_93 : decode cX10_count 93 = .ok (.aload_n 0, 1) := by decide +kernel
theorem dX10_count_94 : decode cX10_count 94 = .ok (.getfield 290, 3) := by decide +kernel
theorem dX10_count_97 : decode cX10_count 97 = .ok (.ireturn, 1) := by decide +kernel
theorem dX10_count_98 : decode cX10_count 98 = .ok (.aload_n 0, 1) := by decide +kernel
theorem dX10_count_99 : decode cX10_count 99 = .ok (.getfield 7, 3) := by decide +kernel
theorem dX10_count_102 : decode cX10_count 102 = .ok (.bipush 105, 2) := by decide +kernel
theorem dX10_count_104 : decode cX10_count 104 = .ok (.iaload, 1) := by decide +kernel
theorem dX10_count_105 : decode cX10_count 105 = .ok (.ireturn, 1) := by decide +kernel
theorem dX10_count_106 : decode cX10_count 106 = .ok (.aload_n 0, 1) := by decide +kernel
theorem dX10_count_107 : decode cX10_count 107 = .ok (.iconst 1, 1) := by decide +kernel
theorem dX10_count_108 : decode cX10_count 108 = .ok (.invokevirtual 131, 3) := by decide +kernel
theorem dX10_count_111 : decode cX10_count 111 = .ok (.ireturn, 1) := by decide +kernel
theorem dX10_told_0 : decode cX10_told 0 = .ok (.iload_n 1, 1) := by decide +kernel
theorem dX10_told_1 : decode cX10_told 1 = .ok (.i2l, 1) := by decide +kernel
theorem dX10_told_2 : decode cX10_told 2 = .ok (.lconst 1, 1) := by decide +kernel
theorem dX10_told_3 : decode cX10_told 3 = .ok (.ldc2_w 156, 3) := by decide +kernel
theorem dX10_told_6 : decode cX10_told 6 = .ok (.invokestatic 66, 3) := by decide +kernel
theorem dX10_told_9 : decode cX10_told 9 = .ok (.ifCond .eq 12, 3) := by decide +kernel
theorem dX10_told_12 : decode cX10_told 12 = .ok (.aload_n 0, 1) := by decide +kernel
theorem dX10_told_13 : decode cX10_told 13 = .ok (.getfield 19, 3) := by decide +kernel
theorem dX10_told_16 : decode cX10_told 16 = .ok (.iload_n 1, 1) := by decide +kernel
theorem dX10_told_17 : decode cX10_told 17 = .ok (.iaload, 1) := by decide +kernel
theorem dX10_told_18 : decode cX10_told 18 = .ok (.goto 8, 3) := by decide +kernel
theorem dX10_told_21 : decode cX10_told 21 = .ok (.aload_n 0, 1) := by decide +kernel
theorem dX10_told_22 : decode cX10_told 22 = .ok (.iconst 1, 1) := by decide +kernel
theorem dX10_told_23 : decode cX10_told 23 = .ok (.invokevirtual 131, 3) := by decide +kernel
theorem dX10_told_26 : decode cX10_told 26 = .ok (.ireturn, 1) := by decide +kernel
