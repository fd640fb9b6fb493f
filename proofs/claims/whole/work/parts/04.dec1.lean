theorem dX0_init_0 : decode cX0_init 0 = .ok (.aload_n 0, 1) := by decide +kernel
theorem dX0_init_1 : decode cX0_init 1 = .ok (.invokespecial 3, 3) := by decide +kernel
theorem dX0_init_4 : decode cX0_init 4 = .ok (.return_, 1) := by decide +kernel
theorem dX0_mayBecome_0 : decode cX0_mayBecome 0 = .ok (.iload_n 0, 1) := by decide +kernel
theorem dX0_mayBecome_1 : decode cX0_mayBecome 1 = .ok (.iconst 2, 1) := by decide +kernel
theorem dX0_mayBecome_2 : decode cX0_mayBecome 2 = .ok (.if_icmp .lt 31, 3) := by decide +kernel
theorem dX0_mayBecome_5 : decode cX0_mayBecome 5 = .ok (.iload_n 0, 1) := by decide +kernel
theorem dX0_mayBecome_6 : decode cX0_mayBecome 6 = .ok (.bipush 7, 2) := by decide +kernel
theorem dX0_mayBecome_8 : decode cX0_mayBecome 8 = .ok (.if_icmp .ge 25, 3) := by decide +kernel
theorem dX0_mayBecome_11 : decode cX0_mayBecome 11 = .ok (.iload_n 1, 1) := by decide +kernel
theorem dX0_mayBecome_12 : decode cX0_mayBecome 12 = .ok (.getstatic 11, 3) := by decide +kernel
theorem dX0_mayBecome_15 : decode cX0_mayBecome 15 = .ok (.iload_n 0, 1) := by decide +kernel
theorem dX0_mayBecome_16 : decode cX0_mayBecome 16 = .ok (.iaload, 1) := by decide +kernel
theorem dX0_mayBecome_17 : decode cX0_mayBecome 17 = .ok (.if_icmp .lt 16, 3) := by decide +kernel
theorem dX0_mayBecome_20 : decode cX0_mayBecome 20 = .ok (.iload_n 1, 1) := by decide +kernel
theorem dX0_mayBecome_21 : decode cX0_mayBecome 21 = .ok (.getstatic 15, 3) := by decide +kernel
theorem dX0_mayBecome_24 : decode cX0_mayBecome 24 = .ok (.iload_n 0, 1) := by decide +kernel
theorem dX0_mayBecome_25 : decode cX0_mayBecome 25 = .ok (.iaload, 1) := by decide +kernel
theorem dX0_mayBecome_26 : decode cX0_mayBecome 26 = .ok (.if_icmp .gt 7, 3) := by decide +kernel
theorem dX0_mayBecome_29 : decode cX0_mayBecome 29 = .ok (.iconst 1, 1) := by decide +kernel
theorem dX0_mayBecome_30 : decode cX0_mayBecome 30 = .ok (.goto 4, 3) := by decide +kernel
theorem dX0_mayBecome_33 : decode cX0_mayBecome 33 = .ok (.iconst 0, 1) := by decide +kernel
theorem dX0_mayBecome_34 : decode cX0_mayBecome 34 = .ok (.ireturn, 1) := by decide +kernel
theorem dX0_begin_0 : decode cX0_begin 0 = .ok (.aload_n 0, 1) := by decide +kernel
theorem dX0_begin_1 : decode cX0_begin 1 = .ok (.iload_n 1, 1) := by decide +kernel
theorem dX0_begin_2 : decode cX0_begin 2 = .ok (.putfield 18, 3) := by decide +kernel
theorem dX0_begin_5 : decode cX0_begin 5 = .ok (.aload_n 0, 1) := by decide +kernel
theorem dX0_begin_6 : decode cX0_begin 6 = .ok (.iload_n 2, 1) := by decide +kernel
theorem dX0_begin_7 : decode cX0_begin 7 = .ok (.putfield 22, 3) := by decide +kernel
theorem dX0_begin_10 : decode cX0_begin 10 = .ok (.aload_n 0, 1) := by decide +kernel
theorem dX0_begin_11 : decode cX0_begin 11 = .ok (.iload_n 3, 1) := by decide +kernel
theorem dX0_begin_12 : decode cX0_begin 12 = .ok (.putfield 25, 3) := by decide +kernel
theorem dX0_begin_15 : decode cX0_begin 15 = .ok (.aload_n 0, 1) := by decide +kernel
theorem dX0_begin_16 : decode cX0_begin 16 = .ok (.iload 4, 2) := by decide +kernel
theorem dX0_begin_18 : decode cX0_begin 18 = .ok (.putfield 28, 3) := by decide +kernel
theorem dX0_begin_21 : decode cX0_begin 21 = .ok (.aload_n 0, 1) := by decide +kernel
theorem dX0_begin_22 : decode cX0_begin 22 = .ok (.iconst 0, 1) := by decide +kernel
theorem dX0_begin_23 : decode cX0_begin 23 = .ok (.putfield 31, 3) := by decide +kernel
theorem dX0_begin_26 : decode cX0_begin 26 = .ok (.aload_n 0, 1) := by decide +kernel
theorem dX0_begin_27 : decode cX0_begin 27 = .ok (.iconst 1, 1) := by decide +kernel
theorem dX0_begin_28 : decode cX0_begin 28 = .ok (.putfield 34, 3) := by decide +kernel
theorem dX0_begin_31 : decode cX0_begin 31 = .ok (.aload_n 0, 1) := by decide +kernel
theorem dX0_begin_32 : decode cX0_begin 32 = .ok (.iconst 0, 1) := by decide +kernel
theorem dX0_begin_33 : decode cX0_begin 33 = .ok (.putfield 37, 3) := by decide +kernel
theorem dX0_begin_36 : decode cX0_begin 36 = .ok (.return_, 1) := by decide +kernel
theorem dX0_become_0 : decode cX0_become 0 = .ok (.aload_n 0, 1) := by decide +kernel
theorem dX0_become_1 : decode cX0_become 1 = .ok (.aload_n 1, 1) := by decide +kernel
theorem dX0_become_2 : decode cX0_become 2 = .ok (.getfield 18, 3) := by decide +kernel
theorem dX0_become_5 : decode cX0_become 5 = .ok (.aload_n 1, 1) := by decide +kernel
theorem dX0_become_6 : decode cX0_become 6 = .ok (.getfield 22, 3) := by decide +kernel
theorem dX0_become_9 : decode cX0_become 9 = .ok (.aload_n 1, 1) := by decide +kernel
theorem dX0_become_10 : decode cX0_become 10 = .ok (.getfield 25, 3) := by decide +kernel
theorem dX0_become_13 : decode cX0_become 13 = .ok (.aload_n 1, 1) := by decide +kernel
theorem dX0_become_14 : decode cX0_become 14 = .ok (.getfield 28, 3) := by decide +kernel
theorem dX0_become_17 : decode cX0_become 17 = .ok (.invokevirtual 40, 3) := by decide +kernel
theorem dX0_become_20 : decode cX0_become 20 = .ok (.aload_n 0, 1) := by decide +kernel
theorem dX0_become_21 : decode cX0_become 21 = .ok (.aload_n 1, 1) := by decide +kernel
theorem dX0_become_22 : decode cX0_become 22 = .ok (.getfield 31, 3) := by decide +kernel
theorem dX0_become_25 : decode cX0_become 25 = .ok (.putfield 31, 3) := by decide +kernel
theorem dX0_become_28 : decode cX0_become 28 = .ok (.aload_n 0, 1) := by decide +kernel
theorem dX0_become_29 : decode cX0_become 29 = .ok (.aload_n 1, 1) := by decide +kernel
theorem dX0_become_30 : decode cX0_become 30 = .ok (.getfield 34, 3) := by decide +kernel
theorem dX0_become_33 : decode cX0_become 33 = .ok (.putfield 34, 3) := by decide +kernel
theorem dX0_become_36 : decode cX0_become 36 = .ok (.aload_n 0, 1) := by decide +kernel
theorem dX0_become_37 : decode cX0_become 37 = .ok (.aload_n 1, 1) := by decide +kernel
theorem dX0_become_38 : decode cX0_become 38 = .ok (.getfield 37, 3) := by decide +kernel
theorem dX0_become_41 : decode cX0_become 41 = .ok (.putfield 37, 3) := by decide +kernel
theorem dX0_become_44 : decode cX0_become 44 = .ok (.return_, 1) := by decide +kernel
theorem dX0_part_0 : decode cX0_part 0 = .ok (.iload_n 1, 1) := by decide +kernel
theorem dX0_part_1 : decode cX0_part 1 = .ok (.tableswitch 69 0 5 #[39, 44, 49, 54, 59, 64], 39) := by decide +kernel
theorem dX0_part_40 : decode cX0_part 40 = .ok (.aload_n 0, 1) := by decide +kernel
theorem dX0_part_41 : decode cX0_part 41 = .ok (.getfield 18, 3) := by decide +kernel
theorem dX0_part_44 : decode cX0_part 44 = .ok (.ireturn, 1) := by decide +kernel
theorem dX0_part_45 : decode cX0_part 45 = .ok (.aload_n 0, 1) := by decide +kernel
theorem dX0_part_46 : decode cX0_part 46 = .ok (.getfield 22, 3) := by decide +kernel
theorem dX0_part_49 : decode cX0_part 49 = .ok (.ireturn, 1) := by decide +kernel
theorem dX0_part_50 : decode cX0_part 50 = .ok (.aload_n 0, 1) := by decide +kernel
theorem dX0_part_51 : decode cX0_part 51 = .ok (.getfield 25, 3) := by decide +kernel
theorem dX0_part_54 : decode cX0_part 54 = .ok (.ireturn, 1) := by decide +kernel
theorem dX0_part_55 : decode cX0_part 55 = .ok (.aload_n 0, 1) := by decide +kernel
theorem dX0_part_56 : decode cX0_part 56 = .ok (.getfield 28, 3) := by decide +kernel
theorem dX0_part_59 : decode cX0_part 59 = .ok (.ireturn, 1) := by decide +kernel
theorem dX0_part_60 : decode cX0_part 60 = .ok (.aload_n 0, 1) := by decide +kernel
theorem dX0_part_61 : decode cX0_part 61 = .ok (.getfield 31, 3) := by decide +kernel
theorem dX0_part_64 : decode cX0_part 64 = .ok (.ireturn, 1) := by decide +kernel
theorem dX0_part_65 : decode cX0_part 65 = .ok (.aload_n 0, 1) := by decide +kernel
theorem dX0_part_66 : decode cX0_part 66 = .ok (.getfield 34, 3) := by decide +kernel
theorem dX0_part_69 : decode cX0_part 69 = .ok (.ireturn, 1) := by decide +kernel
theorem dX0_part_70 : decode cX0_part 70 = .ok (.aload_n 0, 1) := by decide +kernel
theorem dX0_part_71 : decode cX0_part 71 = .ok (.getfield 37, 3) := by decide +kernel
theorem dX0_part_74 : decode cX0_part 74 = .ok (.ireturn, 1) := by decide +kernel
theorem dX0_changePart_0 : decode cX0_changePart 0 = .ok (.iload_n 1, 1) := by decide +kernel
theorem dX0_changePart_1 : decode cX0_changePart 1 = .ok (.tableswitch 63 2 5 #[31, 39, 47, 55], 31) := by decide +kernel
theorem dX0_changePart_32 : decode cX0_changePart 32 = .ok (.aload_n 0, 1) := by decide +kernel
theorem dX0_changePart_33 : decode cX0_changePart 33 = .ok (.iload_n 2, 1) := by decide +kernel
theorem dX0_changePart_34 : decode cX0_changePart 34 = .ok (.putfield 25, 3) := by decide +kernel
theorem dX0_changePart_37 : decode cX0_changePart 37 = .ok (.goto 32, 3) := by decide +kernel
theorem dX0_changePart_40 : decode cX0_changePart 40 = .ok (.aload_n 0, 1) := by decide +kernel
theorem dX0_changePart_41 : decode cX0_changePart 41 = .ok (.iload_n 2, 1) := by decide +kernel
theorem dX0_changePart_42 : decode cX0_changePart 42 = .ok (.putfield 28, 3) := by decide +kernel
theorem dX0_changePart_45 : decode cX0_changePart 45 = .ok (.goto 24, 3) := by decide +kernel
theorem dX0_changePart_48 : decode cX0_changePart 48 = .ok (.aload_n 0, 1) := by decide +kernel
theorem dX0_changePart_49 : decode cX0_changePart 49 = .ok (.iload_n 2, 1) := by decide +kernel
theorem dX0_changePart_50 : decode cX0_changePart 50 = .ok (.putfield 31, 3) := by decide +kernel
theorem dX0_changePart_53 : decode cX0_changePart 53 = .ok (.goto 16, 3) := by decide +kernel
theorem dX0_changePart_56 : decode cX0_changePart 56 = .ok (.aload_n 0, 1) := by decide +kernel
theorem dX0_changePart_57 : decode cX0_changePart 57 = .ok (.iload_n 2, 1) := by decide +kernel
theorem dX0_changePart_58 : decode cX0_changePart 58 = .ok (.putfield 34, 3) := by decide +kernel
theorem dX0_changePart_61 : decode cX0_changePart 61 = .ok (.goto 8, 3) := by decide +kernel
theorem dX0_changePart_64 : decode cX0_changePart 64 = .ok (.aload_n 0, 1) := by decide +kernel
theorem dX0_changePart_65 : decode cX0_changePart 65 = .ok (.iload_n 2, 1) := by decide +kernel
theorem dX0_changePart_66 : decode cX0_changePart 66 = .ok (.putfield 37, 3) := by decide +kernel
theorem dX0_changePart_69 : decode cX0_changePart 69 = .ok (.return_, 1) := by decide +kernel
theorem dX0_isOf_0 : decode cX0_isOf 0 = .ok (.aload_n 0, 1) := by decide +kernel
theorem dX0_isOf_1 : decode cX0_isOf 1 = .ok (.getfield 18, 3) := by decide +kernel
theorem dX0_isOf_4 : decode cX0_isOf 4 = .ok (.istore_n 2, 1) := by decide +kernel
theorem dX0_isOf_5 : decode cX0_isOf 5 = .ok (.iconst 0, 1) := by decide +kernel
theorem dX0_isOf_6 : decode cX0_isOf 6 = .ok (.istore_n 3, 1) := by decide +kernel
theorem dX0_isOf_7 : decode cX0_isOf 7 = .ok (.iload_n 3, 1) := by decide +kernel
theorem dX0_isOf_8 : decode cX0_isOf 8 = .ok (.bipush 7, 2) := by decide +kernel
theorem dX0_isOf_10 : decode cX0_isOf 10 = .ok (.if_icmp .ge 32, 3) := by decide +kernel
theorem dX0_isOf_13 : decode cX0_isOf 13 = .ok (.iload_n 2, 1) := by decide +kernel
theorem dX0_isOf_14 : decode cX0_isOf 14 = .ok (.ifCond .lt 28, 3) := by decide +kernel
theorem dX0_isOf_17 : decode cX0_isOf 17 = .ok (.iload_n 2, 1) := by decide +kernel
theorem dX0_isOf_18 : decode cX0_isOf 18 = .ok (.bipush 7, 2) := by decide +kernel
theorem dX0_isOf_20 : decode cX0_isOf 20 = .ok (.if_icmp .ge 22, 3) := by decide +kernel
theorem dX0_isOf_23 : decode cX0_isOf 23 = .ok (.iload_n 2, 1) := by decide +kernel
theorem dX0_isOf_24 : decode cX0_isOf 24 = .ok (.iload_n 1, 1) := by decide +kernel
theorem dX0_isOf_25 : decode cX0_isOf 25 = .ok (.if_icmp .ne 5, 3) := by decide +kernel
theorem dX0_isOf_28 : decode cX0_isOf 28 = .ok (.iconst 1, 1) := by decide +kernel
theorem dX0_isOf_29 : decode cX0_isOf 29 = .ok (.ireturn, 1) := by decide +kernel
theorem dX0_isOf_30 : decode cX0_isOf 30 = .ok (.getstatic 44, 3) := by decide +kernel
theorem dX0_isOf_33 : decode cX0_isOf 33 = .ok (.iload_n 2, 1) := by decide +kernel
theorem dX0_isOf_34 : decode cX0_isOf 34 = .ok (.iaload, 1) := by decide +kernel
theorem dX0_isOf_35 : decode cX0_isOf 35 = .ok (.istore_n 2, 1) := by decide +kernel
theorem dX0_isOf_36 : decode cX0_isOf 36 = .ok (.iinc 3 1, 3) := by decide +kernel
theorem dX0_isOf_39 : decode cX0_isOf 39 = .ok (.goto (-32), 3) := by decide +kernel
theorem dX0_isOf_42 : decode cX0_isOf 42 = .ok (.iconst 0, 1) := by decide +kernel
theorem dX0_isOf_43 : decode cX0_isOf 43 = .ok (.ireturn, 1) := by decide +kernel
theorem dX0_ringsAt_0 : decode cX0_ringsAt 0 = .ok (.aload_n 0, 1) := by decide +kernel
theorem dX0_ringsAt_1 : decode cX0_ringsAt 1 = .ok (.getfield 37, 3) := by decide +kernel
theorem dX0_ringsAt_4 : decode cX0_ringsAt 4 = .ok (.ifCond .eq 5, 3) := by decide +kernel
theorem dX0_ringsAt_7 : decode cX0_ringsAt 7 = .ok (.iconst 0, 1) := by decide +kernel
theorem dX0_ringsAt_8 : decode cX0_ringsAt 8 = .ok (.ireturn, 1) := by decide +kernel
theorem dX0_ringsAt_9 : decode cX0_ringsAt 9 = .ok (.iload_n 1, 1) := by decide +kernel
theorem dX0_ringsAt_10 : decode cX0_ringsAt 10 = .ok (.bipush 6, 2) := by decide +kernel
theorem dX0_ringsAt_12 : decode cX0_ringsAt 12 = .ok (.if_icmp .lt 13, 3) := by decide +kernel
theorem dX0_ringsAt_15 : decode cX0_ringsAt 15 = .ok (.iload_n 1, 1) := by decide +kernel
theorem dX0_ringsAt_16 : decode cX0_ringsAt 16 = .ok (.bipush 22, 2) := by decide +kernel
theorem dX0_ringsAt_18 : decode cX0_ringsAt 18 = .ok (.if_icmp .gt 7, 3) := by decide +kernel
theorem dX0_ringsAt_21 : decode cX0_ringsAt 21 = .ok (.iconst 1, 1) := by decide +kernel
theorem dX0_ringsAt_22 : decode cX0_ringsAt 22 = .ok (.goto 4, 3) := by decide +kernel
theorem dX0_ringsAt_25 : decode cX0_ringsAt 25 = .ok (.iconst 0, 1) := by decide +kernel
theorem dX0_ringsAt_26 : decode cX0_ringsAt 26 = .ok (.istore_n 2, 1) := by decide +kernel
theorem dX0_ringsAt_27 : decode cX0_ringsAt 27 = .ok (.aload_n 0, 1) := by decide +kernel
theorem dX0_ringsAt_28 : decode cX0_ringsAt 28 = .ok (.getfield 18, 3) := by decide +kernel
theorem dX0_ringsAt_31 : decode cX0_ringsAt 31 = .ok (.tableswitch 109 1 6 #[37, 39, 109, 63, 77, 95], 37) := by decide +kernel
theorem dX0_ringsAt_68 : decode cX0_ringsAt 68 = .ok (.iload_n 2, 1) := by decide +kernel
theorem dX0_ringsAt_69 : decode cX0_ringsAt 69 = .ok (.ireturn, 1) := by decide +kernel
theorem dX0_ringsAt_70 : decode cX0_ringsAt 70 = .ok (.iload_n 1, 1) := by decide +kernel
theorem dX0_ringsAt_71 : decode cX0_ringsAt 71 = .ok (.bipush 8, 2) := by decide +kernel
theorem dX0_ringsAt_73 : decode cX0_ringsAt 73 = .ok (.if_icmp .eq 15, 3) := by decide +kernel
theorem dX0_ringsAt_76 : decode cX0_ringsAt 76 = .ok (.iload_n 1, 1) := by decide +kernel
theorem dX0_ringsAt_77 : decode cX0_ringsAt 77 = .ok (.bipush 12, 2) := by decide +kernel
theorem dX0_ringsAt_79 : decode cX0_ringsAt 79 = .ok (.if_icmp .eq 9, 3) := by decide +kernel
theorem dX0_ringsAt_82 : decode cX0_ringsAt 82 = .ok (.iload_n 1, 1) := by decide +kernel
theorem dX0_ringsAt_83 : decode cX0_ringsAt 83 = .ok (.bipush 16, 2) := by decide +kernel
theorem dX0_ringsAt_85 : decode cX0_ringsAt 85 = .ok (.if_icmp .ne 7, 3) := by decide +kernel
theorem dX0_ringsAt_88 : decode cX0_ringsAt 88 = .ok (.iconst 1, 1) := by decide +kernel
theorem dX0_ringsAt_89 : decode cX0_ringsAt 89 = .ok (.goto 4, 3) := by decide +kernel
theorem dX0_ringsAt_92 : decode cX0_ringsAt 92 = .ok (.iconst 0, 1) := by decide +kernel
theorem dX0_ringsAt_93 : decode cX0_ringsAt 93 = .ok (.ireturn, 1) := by decide +kernel
theorem dX0_ringsAt_94 : decode cX0_ringsAt 94 = .ok (.iload_n 2, 1) := by decide +kernel
theorem dX0_ringsAt_95 : decode cX0_ringsAt 95 = .ok (.ifCond .ne 7, 3) := by decide +kernel
theorem dX0_ringsAt_98 : decode cX0_ringsAt 98 = .ok (.iload_n 1, 1) := by decide +kernel
theorem dX0_ringsAt_99 : decode cX0_ringsAt 99 = .ok (.ifCond .ne 7, 3) := by decide +kernel
theorem dX0_ringsAt_102 : decode cX0_ringsAt 102 = .ok (.iconst 1, 1) := by decide +kernel
theorem dX0_ringsAt_103 : decode cX0_ringsAt 103 = .ok (.goto 4, 3) := by decide +kernel
theorem dX0_ringsAt_106 : decode cX0_ringsAt 106 = .ok (.iconst 0, 1) := by decide +kernel
theorem dX0_ringsAt_107 : decode cX0_ringsAt 107 = .ok (.ireturn, 1) := by decide +kernel
theorem dX0_ringsAt_108 : decode cX0_ringsAt 108 = .ok (.iload_n 2, 1) := by decide +kernel
theorem dX0_ringsAt_109 : decode cX0_ringsAt 109 = .ok (.ifCond .eq 15, 3) := by decide +kernel
theorem dX0_ringsAt_112 : decode cX0_ringsAt 112 = .ok (.iload_n 1, 1) := by decide +kernel
theorem dX0_ringsAt_113 : decode cX0_ringsAt 113 = .ok (.aload_n 0, 1) := by decide +kernel
theorem dX0_ringsAt_114 : decode cX0_ringsAt 114 = .ok (.getfield 22, 3) := by decide +kernel
theorem dX0_ringsAt_117 : decode cX0_ringsAt 117 = .ok (.if_icmp .ne 7, 3) := by decide +kernel
theorem dX0_ringsAt_120 : decode cX0_ringsAt 120 = .ok (.iconst 1, 1) := by decide +kernel
theorem dX0_ringsAt_121 : decode cX0_ringsAt 121 = .ok (.goto 4, 3) := by decide +kernel
theorem dX0_ringsAt_124 : decode cX0_ringsAt 124 = .ok (.iconst 0, 1) := by decide +kernel
theorem dX0_ringsAt_125 : decode cX0_ringsAt 125 = .ok (.ireturn, 1) := by decide +kernel
theorem dX0_ringsAt_126 : decode cX0_ringsAt 126 = .ok (.iload_n 1, 1) := by decide +kernel
theorem dX0_ringsAt_127 : decode cX0_ringsAt 127 = .ok (.aload_n 0, 1) := by decide +kernel
theorem dX0_ringsAt_128 : decode cX0_ringsAt 128 = .ok (.getfield 22, 3) := by decide +kernel
theorem dX0_ringsAt_131 : decode cX0_ringsAt 131 = .ok (.if_icmp .eq 7, 3) := by decide +kernel
theorem dX0_ringsAt_134 : decode cX0_ringsAt 134 = .ok (.iconst 1, 1) := by decide +kernel
theorem dX0_ringsAt_135 : decode cX0_ringsAt 135 = .ok (.goto 4, 3) := by decide +kernel
theorem dX0_ringsAt_138 : decode cX0_ringsAt 138 = .ok (.iconst 0, 1) := by decide +kernel
theorem dX0_ringsAt_139 : decode cX0_ringsAt 139 = .ok (.ireturn, 1) := by decide +kernel
theorem dX0_ringsAt_140 : decode cX0_ringsAt 140 = .ok (.iconst 1, 1) := by decide +kernel
theorem dX0_ringsAt_141 : decode cX0_ringsAt 141 = .ok (.ireturn, 1) := by decide +kernel
theorem dX2_init_0 : decode cX2_init 0 = .ok (.aload_n 0, 1) := by decide +kernel
theorem dX2_init_1 : decode cX2_init 1 = .ok (.invokespecial 3, 3) := by decide +kernel
theorem dX2_init_4 : decode cX2_init 4 = .ok (.aload_n 0, 1) := by decide +kernel
theorem dX2_init_5 : decode cX2_init 5 = .ok (.bipush 50, 2) := by decide +kernel
theorem dX2_init_7 : decode cX2_init 7 = .ok (.newarray .int, 2) := by decide +kernel
theorem dX2_init_9 : decode cX2_init 9 = .ok (.putfield 9, 3) := by decide +kernel
theorem dX2_init_12 : decode cX2_init 12 = .ok (.aload_n 0, 1) := by decide +kernel
theorem dX2_init_13 : decode cX2_init 13 = .ok (.iconst 5, 1) := by decide +kernel
theorem dX2_init_14 : decode cX2_init 14 = .ok (.newarray .int, 2) := by decide +kernel
theorem dX2_init_16 : decode cX2_init 16 = .ok (.putfield 15, 3) := by decide +kernel
theorem dX2_init_19 : decode cX2_init 19 = .ok (.aload_n 0, 1) := by decide +kernel
theorem dX2_init_20 : decode cX2_init 20 = .ok (.bipush 50, 2) := by decide +kernel
theorem dX2_init_22 : decode cX2_init 22 = .ok (.newarray .int, 2) := by decide +kernel
theorem dX2_init_24 : decode cX2_init 24 = .ok (.putfield 18, 3) := by decide +kernel
theorem dX2_init_27 : decode cX2_init 27 = .ok (.return_, 1) := by decide +kernel
theorem dX2_clear_0 : decode cX2_clear 0 = .ok (.aload_n 0, 1) := by decide +kernel
theorem dX2_clear_1 : decode cX2_clear 1 = .ok (.iconst 0, 1) := by decide +kernel
theorem dX2_clear_2 : decode cX2_clear 2 = .ok (.putfield 21, 3) := by decide +kernel
theorem dX2_clear_5 : decode cX2_clear 5 = .ok (.return_, 1) := by decide +kernel
theorem dX2_become_0 : decode cX2_become 0 = .ok (.aload_n 1, 1) := by decide +kernel
theorem dX2_become_1 : decode cX2_become 1 = .ok (.getfield 9, 3) := by decide +kernel
theorem dX2_become_4 : decode cX2_become 4 = .ok (.iconst 0, 1) := by decide +kernel
theorem dX2_become_5 : decode cX2_become 5 = .ok (.aload_n 0, 1) := by decide +kernel
theorem dX2_become_6 : decode cX2_become 6 = .ok (.getfield 9, 3) := by decide +kernel
theorem dX2_become_9 : decode cX2_become 9 = .ok (.iconst 0, 1) := by decide +kernel
theorem dX2_become_10 : decode cX2_become 10 = .ok (.bipush 50, 2) := by decide +kernel
theorem dX2_become_12 : decode cX2_become 12 = .ok (.invokestatic 25, 3) := by decide +kernel
theorem dX2_become_15 : decode cX2_become 15 = .ok (.aload_n 0, 1) := by decide +kernel
theorem dX2_become_16 : decode cX2_become 16 = .ok (.aload_n 1, 1) := by decide +kernel
theorem dX2_become_17 : decode cX2_become 17 = .ok (.getfield 21, 3) := by decide +kernel
theorem dX2_become_20 : decode cX2_become 20 = .ok (.putfield 21, 3) := by decide +kernel
theorem dX2_become_23 : decode cX2_become 23 = .ok (.return_, 1) := by decide +kernel
theorem dX2_addNumber_0 : decode cX2_addNumber 0 = .ok (.aload_n 0, 1) := by decide +kernel
theorem dX2_addNumber_1 : decode cX2_addNumber 1 = .ok (.iload_n 1, 1) := by decide +kernel
theorem dX2_addNumber_2 : decode cX2_addNumber 2 = .ok (.invokevirtual 31, 3) := by decide +kernel
theorem dX2_addNumber_5 : decode cX2_addNumber 5 = .ok (.return_, 1) := by decide +kernel
theorem dX2_addName_0 : decode cX2_addName 0 = .ok (.aload_n 0, 1) := by decide +kernel
theorem dX2_addName_1 : decode cX2_addName 1 = .ok (.iconst (-1), 1) := by decide +kernel
theorem dX2_addName_2 : decode cX2_addName 2 = .ok (.iload_n 1, 1) := by decide +kernel
theorem dX2_addName_3 : decode cX2_addName 3 = .ok (.isub, 1) := by decide +kernel
theorem dX2_addName_4 : decode cX2_addName 4 = .ok (.invokevirtual 31, 3) := by decide +kernel
theorem dX2_addName_7 : decode cX2_addName 7 = .ok (.return_, 1) := by decide +kernel
theorem dX2_addSign_0 : decode cX2_addSign 0 = .ok (.aload_n 0, 1) := by decide +kernel
theorem dX2_addSign_1 : decode cX2_addSign 1 = .ok (.iload_n 1, 1) := by decide +kernel
theorem dX2_addSign_2 : decode cX2_addSign 2 = .ok (.ineg, 1) := by decide +kernel
theorem dX2_addSign_3 : decode cX2_addSign 3 = .ok (.invokevirtual 31, 3) := by decide +kernel
theorem dX2_addSign_6 : decode cX2_addSign 6 = .ok (.return_, 1) := by decide +kernel
theorem dX2_value_0 : decode cX2_value 0 = .ok (.aload_n 0, 1) := by decide +kernel
theorem dX2_value_1 : decode cX2_value 1 = .ok (.getfield 15, 3) := by decide +kernel
theorem dX2_value_4 : decode cX2_value 4 = .ok (.iconst 0, 1) := by decide +kernel
theorem dX2_value_5 : decode cX2_value 5 = .ok (.iload_n 1, 1) := by decide +kernel
theorem dX2_value_6 : decode cX2_value 6 = .ok (.iastore, 1) := by decide +kernel
theorem dX2_value_7 : decode cX2_value 7 = .ok (.aload_n 0, 1) := by decide +kernel
theorem dX2_value_8 : decode cX2_value 8 = .ok (.getfield 15, 3) := by decide +kernel
theorem dX2_value_11 : decode cX2_value 11 = .ok (.iconst 1, 1) := by decide +kernel
theorem dX2_value_12 : decode cX2_value 12 = .ok (.iload_n 2, 1) := by decide +kernel
theorem dX2_value_13 : decode cX2_value 13 = .ok (.iastore, 1) := by decide +kernel
theorem dX2_value_14 : decode cX2_value 14 = .ok (.aload_n 0, 1) := by decide +kernel
theorem dX2_value_15 : decode cX2_value 15 = .ok (.getfield 15, 3) := by decide +kernel
theorem dX2_value_18 : decode cX2_value 18 = .ok (.iconst 2, 1) := by decide +kernel
theorem dX2_value_19 : decode cX2_value 19 = .ok (.iload_n 3, 1) := by decide +kernel
theorem dX2_value_20 : decode cX2_value 20 = .ok (.iastore, 1) := by decide +kernel
theorem dX2_value_21 : decode cX2_value 21 = .ok (.aload_n 0, 1) := by decide +kernel
theorem dX2_value_22 : decode cX2_value 22 = .ok (.getfield 15, 3) := by decide +kernel
theorem dX2_value_25 : decode cX2_value 25 = .ok (.iconst 3, 1) := by decide +kernel
theorem dX2_value_26 : decode cX2_value 26 = .ok (.iload 4, 2) := by decide +kernel
theorem dX2_value_28 : decode cX2_value 28 = .ok (.iastore, 1) := by decide +kernel
theorem dX2_value_29 : decode cX2_value 29 = .ok (.aload_n 0, 1) := by decide +kernel
theorem dX2_value_30 : decode cX2_value 30 = .ok (.getfield 15, 3) := by decide +kernel
theorem dX2_value_33 : decode cX2_value 33 = .ok (.iconst 4, 1) := by decide +kernel
theorem dX2_value_34 : decode cX2_value 34 = .ok (.iload 5, 2) := by decide +kernel
theorem dX2_value_36 : decode cX2_value 36 = .ok (.iastore, 1) := by decide +kernel
theorem dX2_value_37 : decode cX2_value 37 = .ok (.iconst 0, 1) := by decide +kernel
theorem dX2_value_38 : decode cX2_value 38 = .ok (.istore 6, 2) := by decide +kernel
theorem dX2_value_40 : decode cX2_value 40 = .ok (.iconst 0, 1) := by decide +kernel
theorem dX2_value_41 : decode cX2_value 41 = .ok (.istore 7, 2) := by decide +kernel
theorem dX2_value_43 : decode cX2_value 43 = .ok (.iload 7, 2) := by decide +kernel
theorem dX2_value_45 : decode cX2_value 45 = .ok (.aload_n 0, 1) := by decide +kernel
theorem dX2_value_46 : decode cX2_value 46 = .ok (.getfield 21, 3) := by decide +kernel
theorem dX2_value_49 : decode cX2_value 49 = .ok (.if_icmp .ge 152, 3) := by decide +kernel
theorem dX2_value_52 : decode cX2_value 52 = .ok (.aload_n 0, 1) := by decide +kernel
theorem dX2_value_53 : decode cX2_value 53 = .ok (.getfield 9, 3) := by decide +kernel
theorem dX2_value_56 : decode cX2_value 56 = .ok (.iload 7, 2) := by decide +kernel
theorem dX2_value_58 : decode cX2_value 58 = .ok (.iaload, 1) := by decide +kernel
theorem dX2_value_59 : decode cX2_value 59 = .ok (.istore 8, 2) := by decide +kernel
theorem dX2_value_61 : decode cX2_value 61 = .ok (.iload 8, 2) := by decide +kernel
theorem dX2_value_63 : decode cX2_value 63 = .ok (.bipush (-5), 2) := by decide +kernel
theorem dX2_value_65 : decode cX2_value 65 = .ok (.if_icmp .lt 44, 3) := by decide +kernel
theorem dX2_value_68 : decode cX2_value 68 = .ok (.iload 6, 2) := by decide +kernel
theorem dX2_value_70 : decode cX2_value 70 = .ok (.bipush 50, 2) := by decide +kernel
theorem dX2_value_72 : decode cX2_value 72 = .ok (.if_icmp .lt 5, 3) := by decide +kernel
theorem dX2_value_75 : decode cX2_value 75 = .ok (.iconst 0, 1) := by decide +kernel
theorem dX2_value_76 : decode cX2_value 76 = .ok (.ireturn, 1) := by decide +kernel
theorem dX2_value_77 : decode cX2_value 77 = .ok (.aload_n 0, 1) := by decide +kernel
theorem dX2_value_78 : decode cX2_value 78 = .ok (.getfield 18, 3) := by decide +kernel
theorem dX2_value_81 : decode cX2_value 81 = .ok (.iload 6, 2) := by decide +kernel
theorem dX2_value_83 : decode cX2_value 83 = .ok (.iload 8, 2) := by decide +kernel
theorem dX2_value_85 : decode cX2_value 85 = .ok (.ifCond .lt 8, 3) := by decide +kernel
theorem dX2_value_88 : decode cX2_value 88 = .ok (.iload 8, 2) := by decide +kernel
theorem dX2_value_90 : decode cX2_value 90 = .ok (.goto 12, 3) := by decide +kernel
theorem dX2_value_93 : decode cX2_value 93 = .ok (.aload_n 0, 1) := by decide +kernel
theorem dX2_value_94 : decode cX2_value 94 = .ok (.getfield 15, 3) := by decide +kernel
theorem dX2_value_97 : decode cX2_value 97 = .ok (.iconst (-1), 1) := by decide +kernel
theorem dX2_value_98 : decode cX2_value 98 = .ok (.iload 8, 2) := by decide +kernel
theorem dX2_value_100 : decode cX2_value 100 = .ok (.isub, 1) := by decide +kernel
theorem dX2_value_101 : decode cX2_value 101 = .ok (.iaload, 1) := by decide +kernel
theorem dX2_value_102 : decode cX2_value 102 = .ok (.iastore, 1) := by decide +kernel
theorem dX2_value_103 : decode cX2_value 103 = .ok (.iinc 6 1, 3) := by decide +kernel
theorem dX2_value_106 : decode cX2_value 106 = .ok (.goto 89, 3) := by decide +kernel
theorem dX2_value_109 : decode cX2_value 109 = .ok (.iload 8, 2) := by decide +kernel
theorem dX2_value_111 : decode cX2_value 111 = .ok (.bipush (-33), 2) := by decide +kernel
theorem dX2_value_113 : decode cX2_value 113 = .ok (.if_icmp .ne 40, 3) := by decide +kernel
theorem dX2_value_116 : decode cX2_value 116 = .ok (.iload 6, 2) := by decide +kernel
theorem dX2_value_118 : decode cX2_value 118 = .ok (.iconst 1, 1) := by decide +kernel
theorem dX2_value_119 : decode cX2_value 119 = .ok (.if_icmp .ge 5, 3) := by decide +kernel
theorem dX2_value_122 : decode cX2_value 122 = .ok (.iconst 0, 1) := by decide +kernel
theorem dX2_value_123 : decode cX2_value 123 = .ok (.ireturn, 1) := by decide +kernel
theorem dX2_value_124 : decode cX2_value 124 = .ok (.aload_n 0, 1) := by decide +kernel
theorem dX2_value_125 : decode cX2_value 125 = .ok (.getfield 18, 3) := by decide +kernel
theorem dX2_value_128 : decode cX2_value 128 = .ok (.iload 6, 2) := by decide +kernel
theorem dX2_value_130 : decode cX2_value 130 = .ok (.iconst 1, 1) := by decide +kernel
theorem dX2_value_131 : decode cX2_value 131 = .ok (.isub, 1) := by decide +kernel
theorem dX2_value_132 : decode cX2_value 132 = .ok (.aload_n 0, 1) := by decide +kernel
theorem dX2_value_133 : decode cX2_value 133 = .ok (.getfield 18, 3) := by decide +kernel
theorem dX2_value_136 : decode cX2_value 136 = .ok (.iload 6, 2) := by decide +kernel
theorem dX2_value_138 : decode cX2_value 138 = .ok (.iconst 1, 1) := by decide +kernel
theorem dX2_value_139 : decode cX2_value 139 = .ok (.isub, 1) := by decide +kernel
theorem dX2_value_140 : decode cX2_value 140 = .ok (.iaload, 1) := by decide +kernel
theorem dX2_value_141 : decode cX2_value 141 = .ok (.ifCond .ne 7, 3) := by decide +kernel
theorem dX2_value_144 : decode cX2_value 144 = .ok (.iconst 1, 1) := by decide +kernel
theorem dX2_value_145 : decode cX2_value 145 = .ok (.goto 4, 3) := by decide +kernel
theorem dX2_value_148 : decode cX2_value 148 = .ok (.iconst 0, 1) := by decide +kernel
theorem dX2_value_149 : decode cX2_value 149 = .ok (.iastore, 1) := by decide +kernel
theorem dX2_value_150 : decode cX2_value 150 = .ok (.goto 45, 3) := by decide +kernel
theorem dX2_value_153 : decode cX2_value 153 = .ok (.iload 6, 2) := by decide +kernel
theorem dX2_value_155 : decode cX2_value 155 = .ok (.iconst 2, 1) := by decide +kernel
theorem dX2_value_156 : decode cX2_value 156 = .ok (.if_icmp .ge 5, 3) := by decide +kernel
theorem dX2_value_159 : decode cX2_value 159 = .ok (.iconst 0, 1) := by decide +kernel
theorem dX2_value_160 : decode cX2_value 160 = .ok (.ireturn, 1) := by decide +kernel
theorem dX2_value_161 : decode cX2_value 161 = .ok (.iinc 6 (-1), 3) := by decide +kernel
theorem dX2_value_164 : decode cX2_value 164 = .ok (.aload_n 0, 1) := by decide +kernel
theorem dX2_value_165 : decode cX2_value 165 = .ok (.getfield 18, 3) := by decide +kernel
theorem dX2_value_168 : decode cX2_value 168 = .ok (.iload 6, 2) := by decide +kernel
theorem dX2_value_170 : decode cX2_value 170 = .ok (.iconst 1, 1) := by decide +kernel
theorem dX2_value_171 : decode cX2_value 171 = .ok (.isub, 1) := by decide +kernel
theorem dX2_value_172 : decode cX2_value 172 = .ok (.iload 8, 2) := by decide +kernel
theorem dX2_value_174 : decode cX2_value 174 = .ok (.ineg, 1) := by decide +kernel
theorem dX2_value_175 : decode cX2_value 175 = .ok (.aload_n 0, 1) := by decide +kernel
theorem dX2_value_176 : decode cX2_value 176 = .ok (.getfield 18, 3) := by decide +kernel
theorem dX2_value_179 : decode cX2_value 179 = .ok (.iload 6, 2) := by decide +kernel
theorem dX2_value_181 : decode cX2_value 181 = .ok (.iconst 1, 1) := by decide +kernel
theorem dX2_value_182 : decode cX2_value 182 = .ok (.isub, 1) := by decide +kernel
theorem dX2_value_183 : decode cX2_value 183 = .ok (.iaload, 1) := by decide +kernel
theorem dX2_value_184 : decode cX2_value 184 = .ok (.aload_n 0, 1) := by decide +kernel
theorem dX2_value_185 : decode cX2_value 185 = .ok (.getfield 18, 3) := by decide +kernel
theorem dX2_value_188 : decode cX2_value 188 = .ok (.iload 6, 2) := by decide +kernel
theorem dX2_value_190 : decode cX2_value 190 = .ok (.iaload, 1) := by decide +kernel
theorem dX2_value_191 : decode cX2_value 191 = .ok (.invokestatic 35, 3) := by decide +kernel
theorem dX2_value_194 : decode cX2_value 194 = .ok (.iastore, 1) := by decide +kernel
theorem dX2_value_195 : decode cX2_value 195 = .ok (.iinc 7 1, 3) := by decide +kernel
theorem dX2_value_198 : decode cX2_value 198 = .ok (.goto (-155), 3) := by decide +kernel
theorem dX2_value_201 : decode cX2_value 201 = .ok (.iload 6, 2) := by decide +kernel
theorem dX2_value_203 : decode cX2_value 203 = .ok (.iconst 1, 1) := by decide +kernel
theorem dX2_value_204 : decode cX2_value 204 = .ok (.if_icmp .ne 12, 3) := by decide +kernel
theorem dX2_value_207 : decode cX2_value 207 = .ok (.aload_n 0, 1) := by decide +kernel
theorem dX2_value_208 : decode cX2_value 208 = .ok (.getfield 18, 3) := by decide +kernel
theorem dX2_value_211 : decode cX2_value 211 = .ok (.iconst 0, 1) := by decide +kernel
theorem dX2_value_212 : decode cX2_value 212 = .ok (.iaload, 1) := by decide +kernel
theorem dX2_value_213 : decode cX2_value 213 = .ok (.goto 4, 3) := by decide +kernel
theorem dX2_value_216 : decode cX2_value 216 = .ok (.iconst 0, 1) := by decide +kernel
theorem dX2_value_217 : decode cX2_value 217 = .ok (.ireturn, 1) := by decide +kernel
theorem dX2_add_0 : decode cX2_add 0 = .ok (.aload_n 0, 1) := by decide +kernel
theorem dX2_add_1 : decode cX2_add 1 = .ok (.getfield 21, 3) := by decide +kernel
theorem dX2_add_4 : decode cX2_add 4 = .ok (.bipush 50, 2) := by decide +kernel
theorem dX2_add_6 : decode cX2_add 6 = .ok (.if_icmp .ge 23, 3) := by decide +kernel
theorem dX2_add_9 : decode cX2_add 9 = .ok (.aload_n 0, 1) := by decide +kernel
theorem dX2_add_10 : decode cX2_add 10 = .ok (.getfield 9, 3) := by decide +kernel
theorem dX2_add_13 : decode cX2_add 13 = .ok (.aload_n 0, 1) := by decide +kernel
theorem dX2_add_14 : decode cX2_add 14 = .ok (.getfield 21, 3) := by decide +kernel
theorem dX2_add_17 : decode cX2_add 17 = .ok (.iload_n 1, 1) := by decide +kernel
theorem dX2_add_18 : decode cX2_add 18 = .ok (.iastore, 1) := by decide +kernel
theorem dX2_add_19 : decode cX2_add 19 = .ok (.aload_n 0, 1) := by decide +kernel
theorem dX2_add_20 : decode cX2_add 20 = .ok (.dup, 1) := by decide +kernel
theorem dX2_add_21 : decode cX2_add 21 = .ok (.getfield 21, 3) := by decide +kernel
theorem dX2_add_24 : decode cX2_add 24 = .ok (.iconst 1, 1) := by decide +kernel
theorem dX2_add_25 : decode cX2_add 25 = .ok (.iadd, 1) := by decide +kernel
theorem dX2_add_26 : decode cX2_add 26 = .ok (.putfield 21, 3) := by decide +kernel
theorem dX2_add_29 : decode cX2_add 29 = .ok (.return_, 1) := by decide +kernel
theorem dX2_join_0 : decode cX2_join 0 = .ok (.iload_n 0, 1) := by decide +kernel
theorem dX2_join_1 : decode cX2_join 1 = .ok (.lookupswitch 168 #[(38, 97), (42, 152), (43, 144), (45, 148), (47, 156), (60, 111), (61, 122), (62, 133), (124, 83)], 83) := by decide +kernel
theorem dX2_join_84 : decode cX2_join 84 = .ok (.iload_n 1, 1) := by decide +kernel
theorem dX2_join_85 : decode cX2_join 85 = .ok (.ifCond .ne 7, 3) := by decide +kernel
theorem dX2_join_88 : decode cX2_join 88 = .ok (.iload_n 2, 1) := by decide +kernel
theorem dX2_join_89 : decode cX2_join 89 = .ok (.ifCond .eq 7, 3) := by decide +kernel
theorem dX2_join_92 : decode cX2_join 92 = .ok (.iconst 1, 1) := by decide +kernel
theorem dX2_join_93 : decode cX2_join 93 = .ok (.goto 4, 3) := by decide +kernel
theorem dX2_join_96 : decode cX2_join 96 = .ok (.iconst 0, 1) := by decide +kernel
theorem dX2_join_97 : decode cX2_join 97 = .ok (.ireturn, 1) := by decide +kernel
theorem dX2_join_98 : decode cX2_join 98 = .ok (.iload_n 1, 1) := by decide +kernel
theorem dX2_join_99 : decode cX2_join 99 = .ok (.ifCond .eq 11, 3) := by decide +kernel
theorem dX2_join_102 : decode cX2_join 102 = .ok (.iload_n 2, 1) := by decide +kernel
theorem dX2_join_103 : decode cX2_join 103 = .ok (.ifCond .eq 7, 3) := by decide +kernel
theorem dX2_join_106 : decode cX2_join 106 = .ok (.iconst 1, 1) := by decide +kernel
theorem dX2_join_107 : decode cX2_join 107 = .ok (.goto 4, 3) := by decide +kernel
theorem dX2_join_110 : decode cX2_join 110 = .ok (.iconst 0, 1) := by decide +kernel
theorem dX2_join_111 : decode cX2_join 111 = .ok (.ireturn, 1) := by decide +kernel
theorem dX2_join_112 : decode cX2_join 112 = .ok (.iload_n 1, 1) := by decide +kernel
theorem dX2_join_113 : decode cX2_join 113 = .ok (.iload_n 2, 1) := by decide +kernel
theorem dX2_join_114 : decode cX2_join 114 = .ok (.if_icmp .ge 7, 3) := by decide +kernel
theorem dX2_join_117 : decode cX2_join 117 = .ok (.iconst 1, 1) := by decide +kernel
theorem dX2_join_118 : decode cX2_join 118 = .ok (.goto 4, 3) := by decide +kernel
theorem dX2_join_121 : decode cX2_join 121 = .ok (.iconst 0, 1) := by decide +kernel
theorem dX2_join_122 : decode cX2_join 122 = .ok (.ireturn, 1) := by decide +kernel
theorem dX2_join_123 : decode cX2_join 123 = .ok (.iload_n 1, 1) := by decide +kernel
theorem dX2_join_124 : decode cX2_join 124 = .ok (.iload_n 2, 1) := by decide +kernel
theorem dX2_join_125 : decode cX2_join 125 = .ok (.if_icmp .ne 7, 3) := by decide +kernel
theorem dX2_join_128 : decode cX2_join 128 = .ok (.iconst 1, 1) := by decide +kernel
theorem dX2_join_129 : decode cX2_join 129 = .ok (.goto 4, 3) := by decide +kernel
theorem dX2_join_132 : decode cX2_join 132 = .ok (.iconst 0, 1) := by decide +kernel
theorem dX2_join_133 : decode cX2_join 133 = .ok (.ireturn, 1) := by decide +kernel
theorem dX2_join_134 : decode cX2_join 134 = .ok (.iload_n 1, 1) := by decide +kernel
theorem dX2_join_135 : decode cX2_join 135 = .ok (.iload_n 2, 1) := by decide +kernel
theorem dX2_join_136 : decode cX2_join 136 = .ok (.if_icmp .le 7, 3) := by decide +kernel
theorem dX2_join_139 : decode cX2_join 139 = .ok (.iconst 1, 1) := by decide +kernel
theorem dX2_join_140 : decode cX2_join 140 = .ok (.goto 4, 3) := by decide +kernel
theorem dX2_join_143 : decode cX2_join 143 = .ok (.iconst 0, 1) := by decide +kernel
theorem dX2_join_144 : decode cX2_join 144 = .ok (.ireturn, 1) := by decide +kernel
theorem dX2_join_145 : decode cX2_join 145 = .ok (.iload_n 1, 1) := by decide +kernel
theorem dX2_join_146 : decode cX2_join 146 = .ok (.iload_n 2, 1) := by decide +kernel
theorem dX2_join_147 : decode cX2_join 147 = .ok (.iadd, 1) := by decide +kernel
theorem dX2_join_148 : decode cX2_join 148 = .ok (.ireturn, 1) := by decide +kernel
theorem dX2_join_149 : decode cX2_join 149 = .ok (.iload_n 1, 1) := by decide +kernel
theorem dX2_join_150 : decode cX2_join 150 = .ok (.iload_n 2, 1) := by decide +kernel
theorem dX2_join_151 : decode cX2_join 151 = .ok (.isub, 1) := by decide +kernel
theorem dX2_join_152 : decode cX2_join 152 = .ok (.ireturn, 1) := by decide +kernel
theorem dX2_join_153 : decode cX2_join 153 = .ok (.iload_n 1, 1) := by decide +kernel
theorem dX2_join_154 : decode cX2_join 154 = .ok (.iload_n 2, 1) := by decide +kernel
theorem dX2_join_155 : decode cX2_join 155 = .ok (.imul, 1) := by decide +kernel
theorem dX2_join_156 : decode cX2_join 156 = .ok (.ireturn, 1) := by decide +kernel
theorem dX2_join_157 : decode cX2_join 157 = .ok (.iload_n 2, 1) := by decide +kernel
theorem dX2_join_158 : decode cX2_join 158 = .ok (.ifCond .ne 7, 3) := by decide +kernel
theorem dX2_join_161 : decode cX2_join 161 = .ok (.iconst 0, 1) := by decide +kernel
theorem dX2_join_162 : decode cX2_join 162 = .ok (.goto 6, 3) := by decide +kernel
theorem dX2_join_165 : decode cX2_join 165 = .ok (.iload_n 1, 1) := by decide +kernel
theorem dX2_join_166 : decode cX2_join 166 = .ok (.iload_n 2, 1) := by decide +kernel
theorem dX2_join_167 : decode cX2_join 167 = .ok (.idiv, 1) := by decide +kernel
theorem dX2_join_168 : decode cX2_join 168 = .ok (.ireturn, 1) := by decide +kernel
theorem dX2_join_169 : decode cX2_join 169 = .ok (.iload_n 2, 1) := by decide +kernel
theorem dX2_join_170 : decode cX2_join 170 = .ok (.ifCond .ne 7, 3) := by decide +kernel
theorem dX2_join_173 : decode cX2_join 173 = .ok (.iconst 0, 1) := by decide +kernel
theorem dX2_join_174 : decode cX2_join 174 = .ok (.goto 6, 3) := by decide +kernel
theorem dX2_join_177 : decode cX2_join 177 = .ok (.iload_n 1, 1) := by decide +kernel
theorem dX2_join_178 : decode cX2_join 178 = .ok (.iload_n 2, 1) := by decide +kernel
theorem dX2_join_179 : decode cX2_join 179 = .ok (.irem, 1) := by decide +kernel
theorem dX2_join_180 : decode cX2_join 180 = .ok (.ireturn, 1) := by decide +kernel
theorem dX4_init_0 : decode cX4_init 0 = .ok (.aload_n 0, 1) := by decide +kernel
theorem dX4_init_1 : decode cX4_init 1 = .ok (.invokespecial 1, 3) := by decide +kernel
theorem dX4_init_4 : decode cX4_init 4 = .ok (.aload_n 0, 1) := by decide +kernel
theorem dX4_init_5 : decode cX4_init 5 = .ok (.iconst 4, 1) := by decide +kernel
theorem dX4_init_6 : decode cX4_init 6 = .ok (.bipush 40, 2) := by decide +kernel
theorem dX4_init_8 : decode cX4_init 8 = .ok (.multianewarray 9 2, 4) := by decide +kernel
theorem dX4_init_12 : decode cX4_init 12 = .ok (.putfield 11, 3) := by decide +kernel
theorem dX4_init_15 : decode cX4_init 15 = .ok (.aload_n 0, 1) := by decide +kernel
theorem dX4_init_16 : decode cX4_init 16 = .ok (.iconst 4, 1) := by decide +kernel
theorem dX4_init_17 : decode cX4_init 17 = .ok (.newarray .int, 2) := by decide +kernel
theorem dX4_init_19 : decode cX4_init 19 = .ok (.putfield 14, 3) := by decide +kernel
theorem dX4_init_22 : decode cX4_init 22 = .ok (.aload_n 0, 1) := by decide +kernel
theorem dX4_init_23 : decode cX4_init 23 = .ok (.iconst 4, 1) := by decide +kernel
theorem dX4_init_24 : decode cX4_init 24 = .ok (.newarray .int, 2) := by decide +kernel
theorem dX4_init_26 : decode cX4_init 26 = .ok (.putfield 18, 3) := by decide +kernel
theorem dX4_init_29 : decode cX4_init 29 = .ok (.return_, 1) := by decide +kernel
theorem dX4_canBe_0 : decode cX4_canBe 0 = .ok (.iload_n 0, 1) := by decide +kernel
theorem dX4_canBe_1 : decode cX4_canBe 1 = .ok (.ifCond .lt 12, 3) := by decide +kernel
theorem dX4_canBe_4 : decode cX4_canBe 4 = .ok (.iload_n 0, 1) := by decide +kernel
theorem dX4_canBe_5 : decode cX4_canBe 5 = .ok (.iconst 4, 1) := by decide +kernel
theorem dX4_canBe_6 : decode cX4_canBe 6 = .ok (.if_icmp .ge 7, 3) := by decide +kernel
theorem dX4_canBe_9 : decode cX4_canBe 9 = .ok (.iconst 1, 1) := by decide +kernel
theorem dX4_canBe_10 : decode cX4_canBe 10 = .ok (.goto 4, 3) := by decide +kernel
theorem dX4_canBe_13 : decode cX4_canBe 13 = .ok (.iconst 0, 1) := by decide +kernel
theorem dX4_canBe_14 : decode cX4_canBe 14 = .ok (.ireturn, 1) := by decide +kernel
theorem dX4_canHave_0 : decode cX4_canHave 0 = .ok (.iload_n 0, 1) := by decide +kernel
theorem dX4_canHave_1 : decode cX4_canHave 1 = .ok (.ifCond .eq 21, 3) := by decide +kernel
theorem dX4_canHave_4 : decode cX4_canHave 4 = .ok (.iload_n 0, 1) := by decide +kernel
theorem dX4_canHave_5 : decode cX4_canHave 5 = .ok (.bipush 8, 2) := by decide +kernel
theorem dX4_canHave_7 : decode cX4_canHave 7 = .ok (.if_icmp .eq 15, 3) := by decide +kernel
theorem dX4_canHave_10 : decode cX4_canHave 10 = .ok (.iload_n 0, 1) := by decide +kernel
theorem dX4_canHave_11 : decode cX4_canHave 11 = .ok (.bipush 16, 2) := by decide +kernel
theorem dX4_canHave_13 : decode cX4_canHave 13 = .ok (.if_icmp .eq 9, 3) := by decide +kernel
theorem dX4_canHave_16 : decode cX4_canHave 16 = .ok (.iload_n 0, 1) := by decide +kernel
theorem dX4_canHave_17 : decode cX4_canHave 17 = .ok (.bipush 32, 2) := by decide +kernel
theorem dX4_canHave_19 : decode cX4_canHave 19 = .ok (.if_icmp .ne 7, 3) := by decide +kernel
theorem dX4_canHave_22 : decode cX4_canHave 22 = .ok (.iconst 1, 1) := by decide +kernel
theorem dX4_canHave_23 : decode cX4_canHave 23 = .ok (.goto 4, 3) := by decide +kernel
theorem dX4_canHave_26 : decode cX4_canHave 26 = .ok (.iconst 0, 1) := by decide +kernel
theorem dX4_canHave_27 : decode cX4_canHave 27 = .ok (.ireturn, 1) := by decide +kernel
theorem dX4_begin_0 : decode cX4_begin 0 = .ok (.aload_n 0, 1) := by decide +kernel
theorem dX4_begin_1 : decode cX4_begin 1 = .ok (.getfield 14, 3) := by decide +kernel
theorem dX4_begin_4 : decode cX4_begin 4 = .ok (.iload_n 1, 1) := by decide +kernel
theorem dX4_begin_5 : decode cX4_begin 5 = .ok (.iload_n 2, 1) := by decide +kernel
theorem dX4_begin_6 : decode cX4_begin 6 = .ok (.iastore, 1) := by decide +kernel
theorem dX4_begin_7 : decode cX4_begin 7 = .ok (.aload_n 0, 1) := by decide +kernel
theorem dX4_begin_8 : decode cX4_begin 8 = .ok (.getfield 18, 3) := by decide +kernel
theorem dX4_begin_11 : decode cX4_begin 11 = .ok (.iload_n 1, 1) := by decide +kernel
theorem dX4_begin_12 : decode cX4_begin 12 = .ok (.iload_n 3, 1) := by decide +kernel
theorem dX4_begin_13 : decode cX4_begin 13 = .ok (.iastore, 1) := by decide +kernel
theorem dX4_begin_14 : decode cX4_begin 14 = .ok (.iconst 0, 1) := by decide +kernel
theorem dX4_begin_15 : decode cX4_begin 15 = .ok (.istore 4, 2) := by decide +kernel
theorem dX4_begin_17 : decode cX4_begin 17 = .ok (.iload 4, 2) := by decide +kernel
theorem dX4_begin_19 : decode cX4_begin 19 = .ok (.bipush 40, 2) := by decide +kernel
theorem dX4_begin_21 : decode cX4_begin 21 = .ok (.if_icmp .ge 19, 3) := by decide +kernel
theorem dX4_begin_24 : decode cX4_begin 24 = .ok (.aload_n 0, 1) := by decide +kernel
theorem dX4_begin_25 : decode cX4_begin 25 = .ok (.getfield 11, 3) := by decide +kernel
theorem dX4_begin_28 : decode cX4_begin 28 = .ok (.iload_n 1, 1) := by decide +kernel
theorem dX4_begin_29 : decode cX4_begin 29 = .ok (.aaload, 1) := by decide +kernel
theorem dX4_begin_30 : decode cX4_begin 30 = .ok (.iload 4, 2) := by decide +kernel
theorem dX4_begin_32 : decode cX4_begin 32 = .ok (.iconst 0, 1) := by decide +kernel
theorem dX4_begin_33 : decode cX4_begin 33 = .ok (.iastore, 1) := by decide +kernel
theorem dX4_begin_34 : decode cX4_begin 34 = .ok (.iinc 4 1, 3) := by decide +kernel
theorem dX4_begin_37 : decode cX4_begin 37 = .ok (.goto (-20), 3) := by decide +kernel
theorem dX4_begin_40 : decode cX4_begin 40 = .ok (.return_, 1) := by decide +kernel
theorem dX4_isMissing_0 : decode cX4_isMissing 0 = .ok (.aload_n 0, 1) := by decide +kernel
theorem dX4_isMissing_1 : decode cX4_isMissing 1 = .ok (.getfield 14, 3) := by decide +kernel
theorem dX4_isMissing_4 : decode cX4_isMissing 4 = .ok (.iload_n 1, 1) := by decide +kernel
theorem dX4_isMissing_5 : decode cX4_isMissing 5 = .ok (.iaload, 1) := by decide +kernel
theorem dX4_isMissing_6 : decode cX4_isMissing 6 = .ok (.ifCond .ne 7, 3) := by decide +kernel
theorem dX4_isMissing_9 : decode cX4_isMissing 9 = .ok (.iconst 1, 1) := by decide +kernel
theorem dX4_isMissing_10 : decode cX4_isMissing 10 = .ok (.goto 4, 3) := by decide +kernel
theorem dX4_isMissing_13 : decode cX4_isMissing 13 = .ok (.iconst 0, 1) := by decide +kernel
theorem dX4_isMissing_14 : decode cX4_isMissing 14 = .ok (.ireturn, 1) := by decide +kernel
theorem dX4_areAlike_0 : decode cX4_areAlike 0 = .ok (.aload_n 0, 1) := by decide +kernel
theorem dX4_areAlike_1 : decode cX4_areAlike 1 = .ok (.getfield 14, 3) := by decide +kernel
theorem dX4_areAlike_4 : decode cX4_areAlike 4 = .ok (.iload_n 1, 1) := by decide +kernel
theorem dX4_areAlike_5 : decode cX4_areAlike 5 = .ok (.iaload, 1) := by decide +kernel
theorem dX4_areAlike_6 : decode cX4_areAlike 6 = .ok (.aload_n 0, 1) := by decide +kernel
theorem dX4_areAlike_7 : decode cX4_areAlike 7 = .ok (.getfield 14, 3) := by decide +kernel
theorem dX4_areAlike_10 : decode cX4_areAlike 10 = .ok (.iload_n 2, 1) := by decide +kernel
theorem dX4_areAlike_11 : decode cX4_areAlike 11 = .ok (.iaload, 1) := by decide +kernel
theorem dX4_areAlike_12 : decode cX4_areAlike 12 = .ok (.if_icmp .ne 7, 3) := by decide +kernel
theorem dX4_areAlike_15 : decode cX4_areAlike 15 = .ok (.iconst 1, 1) := by decide +kernel
theorem dX4_areAlike_16 : decode cX4_areAlike 16 = .ok (.goto 4, 3) := by decide +kernel
theorem dX4_areAlike_19 : decode cX4_areAlike 19 = .ok (.iconst 0, 1) := by decide +kernel
theorem dX4_areAlike_20 : decode cX4_areAlike 20 = .ok (.ireturn, 1) := by decide +kernel
theorem dX4_sizeOf_0 : decode cX4_sizeOf 0 = .ok (.aload_n 0, 1) := by decide +kernel
theorem dX4_sizeOf_1 : decode cX4_sizeOf 1 = .ok (.getfield 18, 3) := by decide +kernel
theorem dX4_sizeOf_4 : decode cX4_sizeOf 4 = .ok (.iload_n 1, 1) := by decide +kernel
theorem dX4_sizeOf_5 : decode cX4_sizeOf 5 = .ok (.iaload, 1) := by decide +kernel
theorem dX4_sizeOf_6 : decode cX4_sizeOf 6 = .ok (.ireturn, 1) := by decide +kernel
theorem dX4_number_0 : decode cX4_number 0 = .ok (.aload_n 0, 1) := by decide +kernel
theorem dX4_number_1 : decode cX4_number 1 = .ok (.getfield 11, 3) := by decide +kernel
theorem dX4_number_4 : decode cX4_number 4 = .ok (.iload_n 1, 1) := by decide +kernel
theorem dX4_number_5 : decode cX4_number 5 = .ok (.aaload, 1) := by decide +kernel
theorem dX4_number_6 : decode cX4_number 6 = .ok (.iload_n 2, 1) := by decide +kernel
theorem dX4_number_7 : decode cX4_number 7 = .ok (.iaload, 1) := by decide +kernel
theorem dX4_number_8 : decode cX4_number 8 = .ok (.ireturn, 1) := by decide +kernel
theorem dX4_stand_0 : decode cX4_stand 0 = .ok (.iload_n 3, 1) := by decide +kernel
theorem dX4_stand_1 : decode cX4_stand 1 = .ok (.ifCond .lt 33, 3) := by decide +kernel
theorem dX4_stand_4 : decode cX4_stand 4 = .ok (.iload_n 2, 1) := by decide +kernel
theorem dX4_stand_5 : decode cX4_stand 5 = .ok (.ifCond .lt 29, 3) := by decide +kernel
theorem dX4_stand_8 : decode cX4_stand 8 = .ok (.iload_n 2, 1) := by decide +kernel
theorem dX4_stand_9 : decode cX4_stand 9 = .ok (.aload_n 0, 1) := by decide +kernel
theorem dX4_stand_10 : decode cX4_stand 10 = .ok (.getfield 18, 3) := by decide +kernel
theorem dX4_stand_13 : decode cX4_stand 13 = .ok (.iload_n 1, 1) := by decide +kernel
theorem dX4_stand_14 : decode cX4_stand 14 = .ok (.iaload, 1) := by decide +kernel
theorem dX4_stand_15 : decode cX4_stand 15 = .ok (.if_icmp .gt 19, 3) := by decide +kernel
theorem dX4_stand_18 : decode cX4_stand 18 = .ok (.iload_n 3, 1) := by decide +kernel
theorem dX4_stand_19 : decode cX4_stand 19 = .ok (.aload_n 0, 1) := by decide +kernel
theorem dX4_stand_20 : decode cX4_stand 20 = .ok (.getfield 18, 3) := by decide +kernel
theorem dX4_stand_23 : decode cX4_stand 23 = .ok (.iload_n 1, 1) := by decide +kernel
theorem dX4_stand_24 : decode cX4_stand 24 = .ok (.iaload, 1) := by decide +kernel
theorem dX4_stand_25 : decode cX4_stand 25 = .ok (.iload_n 2, 1) := by decide +kernel
theorem dX4_stand_26 : decode cX4_stand 26 = .ok (.isub, 1) := by decide +kernel
theorem dX4_stand_27 : decode cX4_stand 27 = .ok (.if_icmp .gt 7, 3) := by decide +kernel
theorem dX4_stand_30 : decode cX4_stand 30 = .ok (.iconst 1, 1) := by decide +kernel
theorem dX4_stand_31 : decode cX4_stand 31 = .ok (.goto 4, 3) := by decide +kernel
theorem dX4_stand_34 : decode cX4_stand 34 = .ok (.iconst 0, 1) := by decide +kernel
theorem dX4_stand_35 : decode cX4_stand 35 = .ok (.ireturn, 1) := by decide +kernel
theorem dX4_write_0 : decode cX4_write 0 = .ok (.aload_n 0, 1) := by decide +kernel
theorem dX4_write_1 : decode cX4_write 1 = .ok (.getfield 11, 3) := by decide +kernel
theorem dX4_write_4 : decode cX4_write 4 = .ok (.iload_n 1, 1) := by decide +kernel
theorem dX4_write_5 : decode cX4_write 5 = .ok (.aaload, 1) := by decide +kernel
theorem dX4_write_6 : decode cX4_write 6 = .ok (.iload_n 2, 1) := by decide +kernel
theorem dX4_write_7 : decode cX4_write 7 = .ok (.aload_n 0, 1) := by decide +kernel
theorem dX4_write_8 : decode cX4_write 8 = .ok (.getfield 14, 3) := by decide +kernel
theorem dX4_write_11 : decode cX4_write 11 = .ok (.iload_n 1, 1) := by decide +kernel
theorem dX4_write_12 : decode cX4_write 12 = .ok (.iaload, 1) := by decide +kernel
theorem dX4_write_13 : decode cX4_write 13 = .ok (.bipush 32, 2) := by decide +kernel
theorem dX4_write_15 : decode cX4_write 15 = .ok (.if_icmp .ne 7, 3) := by decide +kernel
theorem dX4_write_18 : decode cX4_write 18 = .ok (.iload_n 3, 1) := by decide +kernel
theorem dX4_write_19 : decode cX4_write 19 = .ok (.goto 15, 3) := by decide +kernel
theorem dX4_write_22 : decode cX4_write 22 = .ok (.iload_n 3, 1) := by decide +kernel
theorem dX4_write_23 : decode cX4_write 23 = .ok (.iconst 1, 1) := by decide +kernel
theorem dX4_write_24 : decode cX4_write 24 = .ok (.aload_n 0, 1) := by decide +kernel
theorem dX4_write_25 : decode cX4_write 25 = .ok (.getfield 14, 3) := by decide +kernel
theorem dX4_write_28 : decode cX4_write 28 = .ok (.iload_n 1, 1) := by decide +kernel
theorem dX4_write_29 : decode cX4_write 29 = .ok (.iaload, 1) := by decide +kernel
theorem dX4_write_30 : decode cX4_write 30 = .ok (.ishl, 1) := by decide +kernel
theorem dX4_write_31 : decode cX4_write 31 = .ok (.iconst 1, 1) := by decide +kernel
theorem dX4_write_32 : decode cX4_write 32 = .ok (.isub, 1) := by decide +kernel
theorem dX4_write_33 : decode cX4_write 33 = .ok (.iand, 1) := by decide +kernel
theorem dX4_write_34 : decode cX4_write 34 = .ok (.iastore, 1) := by decide +kernel
theorem dX4_write_35 : decode cX4_write 35 = .ok (.return_, 1) := by decide +kernel
theorem dX4_carry_0 : decode cX4_carry 0 = .ok (.aload_n 0, 1) := by decide +kernel
theorem dX4_carry_1 : decode cX4_carry 1 = .ok (.getfield 11, 3) := by decide +kernel
theorem dX4_carry_4 : decode cX4_carry 4 = .ok (.iload_n 1, 1) := by decide +kernel
theorem dX4_carry_5 : decode cX4_carry 5 = .ok (.aaload, 1) := by decide +kernel
theorem dX4_carry_6 : decode cX4_carry 6 = .ok (.iload_n 2, 1) := by decide +kernel
theorem dX4_carry_7 : decode cX4_carry 7 = .ok (.aload_n 0, 1) := by decide +kernel
theorem dX4_carry_8 : decode cX4_carry 8 = .ok (.getfield 11, 3) := by decide +kernel
theorem dX4_carry_11 : decode cX4_carry 11 = .ok (.iload_n 3, 1) := by decide +kernel
theorem dX4_carry_12 : decode cX4_carry 12 = .ok (.aaload, 1) := by decide +kernel
theorem dX4_carry_13 : decode cX4_carry 13 = .ok (.iload 4, 2) := by decide +kernel
theorem dX4_carry_15 : decode cX4_carry 15 = .ok (.iload 5, 2) := by decide +kernel
theorem dX4_carry_17 : decode cX4_carry 17 = .ok (.invokestatic 21, 3) := by decide +kernel
theorem dX4_carry_20 : decode cX4_carry 20 = .ok (.return_, 1) := by decide +kernel
theorem dX8_init_0 : decode cX8_init 0 = .ok (.aload_n 0, 1) := by decide +kernel
theorem dX8_init_1 : decode cX8_init 1 = .ok (.invokespecial 3, 3) := by decide +kernel
theorem dX8_init_4 : decode cX8_init 4 = .ok (.aload_n 0, 1) := by decide +kernel
theorem dX8_init_5 : decode cX8_init 5 = .ok (.bipush 40, 2) := by decide +kernel
theorem dX8_init_7 : decode cX8_init 7 = .ok (.newarray .int, 2) := by decide +kernel
theorem dX8_init_9 : decode cX8_init 9 = .ok (.putfield 11, 3) := by decide +kernel
theorem dX8_init_12 : decode cX8_init 12 = .ok (.return_, 1) := by decide +kernel
theorem dX8_speak_0 : decode cX8_speak 0 = .ok (.aload_n 0, 1) := by decide +kernel
theorem dX8_speak_1 : decode cX8_speak 1 = .ok (.iconst 0, 1) := by decide +kernel
theorem dX8_speak_2 : decode cX8_speak 2 = .ok (.putfield 15, 3) := by decide +kernel
theorem dX8_speak_5 : decode cX8_speak 5 = .ok (.aload_n 0, 1) := by decide +kernel
theorem dX8_speak_6 : decode cX8_speak 6 = .ok (.aload_n 1, 1) := by decide +kernel
theorem dX8_speak_7 : decode cX8_speak 7 = .ok (.getfield 19, 3) := by decide +kernel
theorem dX8_speak_10 : decode cX8_speak 10 = .ok (.putfield 24, 3) := by decide +kernel
theorem dX8_speak_13 : decode cX8_speak 13 = .ok (.aload_n 0, 1) := by decide +kernel
theorem dX8_speak_14 : decode cX8_speak 14 = .ok (.iload_n 2, 1) := by decide +kernel
theorem dX8_speak_15 : decode cX8_speak 15 = .ok (.putfield 25, 3) := by decide +kernel
theorem dX8_speak_18 : decode cX8_speak 18 = .ok (.aload_n 0, 1) := by decide +kernel
theorem dX8_speak_19 : decode cX8_speak 19 = .ok (.aload_n 1, 1) := by decide +kernel
theorem dX8_speak_20 : decode cX8_speak 20 = .ok (.getfield 28, 3) := by decide +kernel
theorem dX8_speak_23 : decode cX8_speak 23 = .ok (.putfield 31, 3) := by decide +kernel
theorem dX8_speak_26 : decode cX8_speak 26 = .ok (.aload_n 0, 1) := by decide +kernel
theorem dX8_speak_27 : decode cX8_speak 27 = .ok (.iload_n 3, 1) := by decide +kernel
theorem dX8_speak_28 : decode cX8_speak 28 = .ok (.iload 4, 2) := by decide +kernel
theorem dX8_speak_30 : decode cX8_speak 30 = .ok (.iconst 0, 1) := by decide +kernel
theorem dX8_speak_31 : decode cX8_speak 31 = .ok (.invokevirtual 32, 3) := by decide +kernel
theorem dX8_speak_34 : decode cX8_speak 34 = .ok (.ireturn, 1) := by decide +kernel
theorem dX8_own_0 : decode cX8_own 0 = .ok (.aload_n 0, 1) := by decide +kernel
theorem dX8_own_1 : decode cX8_own 1 = .ok (.aload_n 0, 1) := by decide +kernel
theorem dX8_own_2 : decode cX8_own 2 = .ok (.getfield 24, 3) := by decide +kernel
theorem dX8_own_5 : decode cX8_own 5 = .ok (.iload_n 1, 1) := by decide +kernel
theorem dX8_own_6 : decode cX8_own 6 = .ok (.invokestatic 36, 3) := by decide +kernel
theorem dX8_own_9 : decode cX8_own 9 = .ok (.iload_n 2, 1) := by decide +kernel
theorem dX8_own_10 : decode cX8_own 10 = .ok (.iload_n 3, 1) := by decide +kernel
theorem dX8_own_11 : decode cX8_own 11 = .ok (.iconst 1, 1) := by decide +kernel
theorem dX8_own_12 : decode cX8_own 12 = .ok (.iadd, 1) := by decide +kernel
theorem dX8_own_13 : decode cX8_own 13 = .ok (.invokevirtual 40, 3) := by decide +kernel
theorem dX8_own_16 : decode cX8_own 16 = .ok (.ireturn, 1) := by decide +kernel
theorem dX8_above_0 : decode cX8_above 0 = .ok (.aload_n 0, 1) := by decide +kernel
theorem dX8_above_1 : decode cX8_above 1 = .ok (.getstatic 43, 3) := by decide +kernel
theorem dX8_above_4 : decode cX8_above 4 = .ok (.iload_n 1, 1) := by decide +kernel
theorem dX8_above_5 : decode cX8_above 5 = .ok (.iaload, 1) := by decide +kernel
theorem dX8_above_6 : decode cX8_above 6 = .ok (.iload_n 2, 1) := by decide +kernel
theorem dX8_above_7 : decode cX8_above 7 = .ok (.invokestatic 36, 3) := by decide +kernel
theorem dX8_above_10 : decode cX8_above 10 = .ok (.iload_n 3, 1) := by decide +kernel
theorem dX8_above_11 : decode cX8_above 11 = .ok (.iload 4, 2) := by decide +kernel
theorem dX8_above_13 : decode cX8_above 13 = .ok (.iconst 1, 1) := by decide +kernel
theorem dX8_above_14 : decode cX8_above 14 = .ok (.iadd, 1) := by decide +kernel
theorem dX8_above_15 : decode cX8_above 15 = .ok (.invokevirtual 40, 3) := by decide +kernel
theorem dX8_above_18 : decode cX8_above 18 = .ok (.ireturn, 1) := by decide +kernel
theorem dX8_bodyOf_0 : decode cX8_bodyOf 0 = .ok (.iload_n 0, 1) := by decide +kernel
theorem dX8_bodyOf_1 : decode cX8_bodyOf 1 = .ok (.istore_n 2, 1) := by decide +kernel
theorem dX8_bodyOf_2 : decode cX8_bodyOf 2 = .ok (.iconst 0, 1) := by decide +kernel
theorem dX8_bodyOf_3 : decode cX8_bodyOf 3 = .ok (.istore_n 3, 1) := by decide +kernel
theorem dX8_bodyOf_4 : decode cX8_bodyOf 4 = .ok (.iload_n 3, 1) := by decide +kernel
theorem dX8_bodyOf_5 : decode cX8_bodyOf 5 = .ok (.bipush 7, 2) := by decide +kernel
theorem dX8_bodyOf_7 : decode cX8_bodyOf 7 = .ok (.if_icmp .ge 47, 3) := by decide +kernel
theorem dX8_bodyOf_10 : decode cX8_bodyOf 10 = .ok (.iload_n 2, 1) := by decide +kernel
theorem dX8_bodyOf_11 : decode cX8_bodyOf 11 = .ok (.ifCond .lt 43, 3) := by decide +kernel
theorem dX8_bodyOf_14 : decode cX8_bodyOf 14 = .ok (.iload_n 2, 1) := by decide +kernel
theorem dX8_bodyOf_15 : decode cX8_bodyOf 15 = .ok (.bipush 7, 2) := by decide +kernel
theorem dX8_bodyOf_17 : decode cX8_bodyOf 17 = .ok (.if_icmp .ge 37, 3) := by decide +kernel
theorem dX8_bodyOf_20 : decode cX8_bodyOf 20 = .ok (.getstatic 46, 3) := by decide +kernel
theorem dX8_bodyOf_23 : decode cX8_bodyOf 23 = .ok (.iload_n 2, 1) := by decide +kernel
theorem dX8_bodyOf_24 : decode cX8_bodyOf 24 = .ok (.iconst 4, 1) := by decide +kernel
theorem dX8_bodyOf_25 : decode cX8_bodyOf 25 = .ok (.imul, 1) := by decide +kernel
theorem dX8_bodyOf_26 : decode cX8_bodyOf 26 = .ok (.iload_n 1, 1) := by decide +kernel
theorem dX8_bodyOf_27 : decode cX8_bodyOf 27 = .ok (.iadd, 1) := by decide +kernel
theorem dX8_bodyOf_28 : decode cX8_bodyOf 28 = .ok (.iaload, 1) := by decide +kernel
theorem dX8_bodyOf_29 : decode cX8_bodyOf 29 = .ok (.ifCond .eq 13, 3) := by decide +kernel
theorem dX8_bodyOf_32 : decode cX8_bodyOf 32 = .ok (.getstatic 46, 3) := by decide +kernel
theorem dX8_bodyOf_35 : decode cX8_bodyOf 35 = .ok (.iload_n 2, 1) := by decide +kernel
theorem dX8_bodyOf_36 : decode cX8_bodyOf 36 = .ok (.iconst 4, 1) := by decide +kernel
theorem dX8_bodyOf_37 : decode cX8_bodyOf 37 = .ok (.imul, 1) := by decide +kernel
theorem dX8_bodyOf_38 : decode cX8_bodyOf 38 = .ok (.iload_n 1, 1) := by decide +kernel
theorem dX8_bodyOf_39 : decode cX8_bodyOf 39 = .ok (.iadd, 1) := by decide +kernel
theorem dX8_bodyOf_40 : decode cX8_bodyOf 40 = .ok (.iaload, 1) := by decide +kernel
theorem dX8_bodyOf_41 : decode cX8_bodyOf 41 = .ok (.ireturn, 1) := by decide +kernel
theorem dX8_bodyOf_42 : decode cX8_bodyOf 42 = .ok (.getstatic 43, 3) := by decide +kernel
theorem dX8_bodyOf_45 : decode cX8_bodyOf 45 = .ok (.iload_n 2, 1) := by decide +kernel
theorem dX8_bodyOf_46 : decode cX8_bodyOf 46 = .ok (.iaload, 1) := by decide +kernel
theorem dX8_bodyOf_47 : decode cX8_bodyOf 47 = .ok (.istore_n 2, 1) := by decide +kernel
theorem dX8_bodyOf_48 : decode cX8_bodyOf 48 = .ok (.iinc 3 1, 3) := by decide +kernel
theorem dX8_bodyOf_51 : decode cX8_bodyOf 51 = .ok (.goto (-47), 3) := by decide +kernel
theorem dX8_bodyOf_54 : decode cX8_bodyOf 54 = .ok (.iconst 0, 1) := by decide +kernel
theorem dX8_bodyOf_55 : decode cX8_bodyOf 55 = .ok (.ireturn, 1) := by decide +kernel
theorem dX8_run_0 : decode cX8_run 0 = .ok (.iload_n 3, 1) := by decide +kernel
theorem dX8_run_1 : decode cX8_run 1 = .ok (.bipush 30, 2) := by decide +kernel
theorem dX8_run_3 : decode cX8_run 3 = .ok (.if_icmp .le 5, 3) := by decide +kernel
theorem dX8_run_6 : decode cX8_run 6 = .ok (.iconst 0, 1) := by decide +kernel
theorem dX8_run_7 : decode cX8_run 7 = .ok (.ireturn, 1) := by decide +kernel
theorem dX8_run_8 : decode cX8_run 8 = .ok (.aload_n 0, 1) := by decide +kernel
theorem dX8_run_9 : decode cX8_run 9 = .ok (.getfield 15, 3) := by decide +kernel
theorem dX8_run_12 : decode cX8_run 12 = .ok (.bipush 40, 2) := by decide +kernel
theorem dX8_run_14 : decode cX8_run 14 = .ok (.if_icmp .ge 23, 3) := by decide +kernel
theorem dX8_run_17 : decode cX8_run 17 = .ok (.aload_n 0, 1) := by decide +kernel
theorem dX8_run_18 : decode cX8_run 18 = .ok (.getfield 11, 3) := by decide +kernel
theorem dX8_run_21 : decode cX8_run 21 = .ok (.aload_n 0, 1) := by decide +kernel
theorem dX8_run_22 : decode cX8_run 22 = .ok (.getfield 15, 3) := by decide +kernel
theorem dX8_run_25 : decode cX8_run 25 = .ok (.iload_n 1, 1) := by decide +kernel
theorem dX8_run_26 : decode cX8_run 26 = .ok (.iastore, 1) := by decide +kernel
theorem dX8_run_27 : decode cX8_run 27 = .ok (.aload_n 0, 1) := by decide +kernel
theorem dX8_run_28 : decode cX8_run 28 = .ok (.dup, 1) := by decide +kernel
theorem dX8_run_29 : decode cX8_run 29 = .ok (.getfield 15, 3) := by decide +kernel
theorem dX8_run_32 : decode cX8_run 32 = .ok (.iconst 1, 1) := by decide +kernel
theorem dX8_run_33 : decode cX8_run 33 = .ok (.iadd, 1) := by decide +kernel
theorem dX8_run_34 : decode cX8_run 34 = .ok (.putfield 15, 3) := by decide +kernel
theorem dX8_run_37 : decode cX8_run 37 = .ok (.iload_n 1, 1) := by decide +kernel
theorem dX8_run_38 : decode cX8_run 38 = .ok (.lookupswitch 237 #[(10, 98), (11, 105), (12, 115), (13, 122), (20, 138), (30, 155), (40, 166), (50, 176), (60, 187), (70, 204), (71, 219)], 98) := by decide +kernel
theorem dX8_run_136 : decode cX8_run 136 = .ok (.iload_n 2, 1) := by decide +kernel
theorem dX8_run_137 : decode cX8_run 137 = .ok (.aload_n 0, 1) := by decide +kernel
theorem dX8_run_138 : decode cX8_run 138 = .ok (.getfield 25, 3) := by decide +kernel
theorem dX8_run_141 : decode cX8_run 141 = .ok (.iadd, 1) := by decide +kernel
theorem dX8_run_142 : decode cX8_run 142 = .ok (.ireturn, 1) := by decide +kernel
theorem dX8_run_143 : decode cX8_run 143 = .ok (.aload_n 0, 1) := by decide +kernel
theorem dX8_run_144 : decode cX8_run 144 = .ok (.iconst 0, 1) := by decide +kernel
theorem dX8_run_145 : decode cX8_run 145 = .ok (.iload_n 2, 1) := by decide +kernel
theorem dX8_run_146 : decode cX8_run 146 = .ok (.iload_n 3, 1) := by decide +kernel
theorem dX8_run_147 : decode cX8_run 147 = .ok (.invokevirtual 32, 3) := by decide +kernel
theorem dX8_run_150 : decode cX8_run 150 = .ok (.iconst 2, 1) := by decide +kernel
theorem dX8_run_151 : decode cX8_run 151 = .ok (.imul, 1) := by decide +kernel
theorem dX8_run_152 : decode cX8_run 152 = .ok (.ireturn, 1) := by decide +kernel
theorem dX8_run_153 : decode cX8_run 153 = .ok (.iload_n 2, 1) := by decide +kernel
theorem dX8_run_154 : decode cX8_run 154 = .ok (.aload_n 0, 1) := by decide +kernel
theorem dX8_run_155 : decode cX8_run 155 = .ok (.getfield 31, 3) := by decide +kernel
theorem dX8_run_158 : decode cX8_run 158 = .ok (.isub, 1) := by decide +kernel
theorem dX8_run_159 : decode cX8_run 159 = .ok (.ireturn, 1) := by decide +kernel
theorem dX8_run_160 : decode cX8_run 160 = .ok (.aload_n 0, 1) := by decide +kernel
theorem dX8_run_161 : decode cX8_run 161 = .ok (.iconst 1, 1) := by decide +kernel
theorem dX8_run_162 : decode cX8_run 162 = .ok (.iload_n 2, 1) := by decide +kernel
theorem dX8_run_163 : decode cX8_run 163 = .ok (.iload_n 3, 1) := by decide +kernel
theorem dX8_run_164 : decode cX8_run 164 = .ok (.invokevirtual 32, 3) := by decide +kernel
theorem dX8_run_167 : decode cX8_run 167 = .ok (.aload_n 0, 1) := by decide +kernel
theorem dX8_run_168 : decode cX8_run 168 = .ok (.iconst 2, 1) := by decide +kernel
theorem dX8_run_169 : decode cX8_run 169 = .ok (.iload_n 2, 1) := by decide +kernel
theorem dX8_run_170 : decode cX8_run 170 = .ok (.iload_n 3, 1) := by decide +kernel
theorem dX8_run_171 : decode cX8_run 171 = .ok (.invokevirtual 32, 3) := by decide +kernel
theorem dX8_run_174 : decode cX8_run 174 = .ok (.ixor, 1) := by decide +kernel
theorem dX8_run_175 : decode cX8_run 175 = .ok (.ireturn, 1) := by decide +kernel
theorem dX8_run_176 : decode cX8_run 176 = .ok (.aload_n 0, 1) := by decide +kernel
theorem dX8_run_177 : decode cX8_run 177 = .ok (.iconst 1, 1) := by decide +kernel
theorem dX8_run_178 : decode cX8_run 178 = .ok (.iconst 1, 1) := by decide +kernel
theorem dX8_run_179 : decode cX8_run 179 = .ok (.iload_n 2, 1) := by decide +kernel
theorem dX8_run_180 : decode cX8_run 180 = .ok (.iload_n 3, 1) := by decide +kernel
theorem dX8_run_181 : decode cX8_run 181 = .ok (.invokevirtual 49, 3) := by decide +kernel
theorem dX8_run_184 : decode cX8_run 184 = .ok (.aload_n 0, 1) := by decide +kernel
theorem dX8_run_185 : decode cX8_run 185 = .ok (.iconst 2, 1) := by decide +kernel
theorem dX8_run_186 : decode cX8_run 186 = .ok (.iconst 1, 1) := by decide +kernel
theorem dX8_run_187 : decode cX8_run 187 = .ok (.iload_n 3, 1) := by decide +kernel
theorem dX8_run_188 : decode cX8_run 188 = .ok (.invokevirtual 32, 3) := by decide +kernel
theorem dX8_run_191 : decode cX8_run 191 = .ok (.isub, 1) := by decide +kernel
theorem dX8_run_192 : decode cX8_run 192 = .ok (.ireturn, 1) := by decide +kernel
theorem dX8_run_193 : decode cX8_run 193 = .ok (.aload_n 0, 1) := by decide +kernel
theorem dX8_run_194 : decode cX8_run 194 = .ok (.iconst 2, 1) := by decide +kernel
theorem dX8_run_195 : decode cX8_run 195 = .ok (.iconst 0, 1) := by decide +kernel
theorem dX8_run_196 : decode cX8_run 196 = .ok (.iload_n 2, 1) := by decide +kernel
theorem dX8_run_197 : decode cX8_run 197 = .ok (.iload_n 3, 1) := by decide +kernel
theorem dX8_run_198 : decode cX8_run 198 = .ok (.invokevirtual 49, 3) := by decide +kernel
theorem dX8_run_201 : decode cX8_run 201 = .ok (.iconst 3, 1) := by decide +kernel
theorem dX8_run_202 : decode cX8_run 202 = .ok (.imul, 1) := by decide +kernel
theorem dX8_run_203 : decode cX8_run 203 = .ok (.ireturn, 1) := by decide +kernel
theorem dX8_run_204 : decode cX8_run 204 = .ok (.aload_n 0, 1) := by decide +kernel
theorem dX8_run_205 : decode cX8_run 205 = .ok (.iconst 3, 1) := by decide +kernel
theorem dX8_run_206 : decode cX8_run 206 = .ok (.iconst 2, 1) := by decide +kernel
theorem dX8_run_207 : decode cX8_run 207 = .ok (.iload_n 2, 1) := by decide +kernel
theorem dX8_run_208 : decode cX8_run 208 = .ok (.iload_n 3, 1) := by decide +kernel
theorem dX8_run_209 : decode cX8_run 209 = .ok (.invokevirtual 49, 3) := by decide +kernel
theorem dX8_run_212 : decode cX8_run 212 = .ok (.ineg, 1) := by decide +kernel
theorem dX8_run_213 : decode cX8_run 213 = .ok (.ireturn, 1) := by decide +kernel
theorem dX8_run_214 : decode cX8_run 214 = .ok (.aload_n 0, 1) := by decide +kernel
theorem dX8_run_215 : decode cX8_run 215 = .ok (.iconst 4, 1) := by decide +kernel
theorem dX8_run_216 : decode cX8_run 216 = .ok (.iconst 1, 1) := by decide +kernel
theorem dX8_run_217 : decode cX8_run 217 = .ok (.iload_n 2, 1) := by decide +kernel
theorem dX8_run_218 : decode cX8_run 218 = .ok (.iconst 1, 1) := by decide +kernel
theorem dX8_run_219 : decode cX8_run 219 = .ok (.iadd, 1) := by decide +kernel
theorem dX8_run_220 : decode cX8_run 220 = .ok (.iload_n 3, 1) := by decide +kernel
theorem dX8_run_221 : decode cX8_run 221 = .ok (.invokevirtual 49, 3) := by decide +kernel
theorem dX8_run_224 : decode cX8_run 224 = .ok (.ireturn, 1) := by decide +kernel
theorem dX8_run_225 : decode cX8_run 225 = .ok (.aload_n 0, 1) := by decide +kernel
theorem dX8_run_226 : decode cX8_run 226 = .ok (.iconst 5, 1) := by decide +kernel
theorem dX8_run_227 : decode cX8_run 227 = .ok (.iconst 3, 1) := by decide +kernel
theorem dX8_run_228 : decode cX8_run 228 = .ok (.iload_n 2, 1) := by decide +kernel
theorem dX8_run_229 : decode cX8_run 229 = .ok (.iload_n 3, 1) := by decide +kernel
theorem dX8_run_230 : decode cX8_run 230 = .ok (.invokevirtual 49, 3) := by decide +kernel
theorem dX8_run_233 : decode cX8_run 233 = .ok (.aload_n 0, 1) := by decide +kernel
theorem dX8_run_234 : decode cX8_run 234 = .ok (.iconst 0, 1) := by decide +kernel
theorem dX8_run_235 : decode cX8_run 235 = .ok (.iconst 2, 1) := by decide +kernel
theorem dX8_run_236 : decode cX8_run 236 = .ok (.iload_n 3, 1) := by decide +kernel
theorem dX8_run_237 : decode cX8_run 237 = .ok (.invokevirtual 32, 3) := by decide +kernel
theorem dX8_run_240 : decode cX8_run 240 = .ok (.isub, 1) := by decide +kernel
theorem dX8_run_241 : decode cX8_run 241 = .ok (.ireturn, 1) := by decide +kernel
theorem dX8_run_242 : decode cX8_run 242 = .ok (.aload_n 0, 1) := by decide +kernel
theorem dX8_run_243 : decode cX8_run 243 = .ok (.bipush 6, 2) := by decide +kernel
theorem dX8_run_245 : decode cX8_run 245 = .ok (.iconst 2, 1) := by decide +kernel
theorem dX8_run_246 : decode cX8_run 246 = .ok (.iload_n 2, 1) := by decide +kernel
theorem dX8_run_247 : decode cX8_run 247 = .ok (.iload_n 3, 1) := by decide +kernel
theorem dX8_run_248 : decode cX8_run 248 = .ok (.invokevirtual 49, 3) := by decide +kernel
theorem dX8_run_251 : decode cX8_run 251 = .ok (.aload_n 0, 1) := by decide +kernel
theorem dX8_run_252 : decode cX8_run 252 = .ok (.getfield 25, 3) := by decide +kernel
theorem dX8_run_255 : decode cX8_run 255 = .ok (.ixor, 1) := by decide +kernel
theorem dX8_run_256 : decode cX8_run 256 = .ok (.ireturn, 1) := by decide +kernel
theorem dX8_run_257 : decode cX8_run 257 = .ok (.aload_n 0, 1) := by decide +kernel
theorem dX8_run_258 : decode cX8_run 258 = .ok (.iconst 1, 1) := by decide +kernel
theorem dX8_run_259 : decode cX8_run 259 = .ok (.iload_n 2, 1) := by decide +kernel
theorem dX8_run_260 : decode cX8_run 260 = .ok (.iload_n 3, 1) := by decide +kernel
theorem dX8_run_261 : decode cX8_run 261 = .ok (.invokevirtual 32, 3) := by decide +kernel
theorem dX8_run_264 : decode cX8_run 264 = .ok (.aload_n 0, 1) := by decide +kernel
theorem dX8_run_265 : decode cX8_run 265 = .ok (.bipush 6, 2) := by decide +kernel
theorem dX8_run_267 : decode cX8_run 267 = .ok (.iconst 3, 1) := by decide +kernel
theorem dX8_run_268 : decode cX8_run 268 = .ok (.iload_n 2, 1) := by decide +kernel
theorem dX8_run_269 : decode cX8_run 269 = .ok (.iload_n 3, 1) := by decide +kernel
theorem dX8_run_270 : decode cX8_run 270 = .ok (.invokevirtual 49, 3) := by decide +kernel
theorem dX8_run_273 : decode cX8_run 273 = .ok (.isub, 1) := by decide +kernel
theorem dX8_run_274 : decode cX8_run 274 = .ok (.ireturn, 1) := by decide +kernel
theorem dX8_run_275 : decode cX8_run 275 = .ok (.iconst 0, 1) := by decide +kernel
theorem dX8_run_276 : decode cX8_run 276 = .ok (.ireturn, 1) := by decide +kernel
theorem dJ6_bitCount_0f7a4_0 : decode cJ6_bitCount_0f7a4 0 = .ok (.iload_n 0, 1) := by decide +kernel
theorem dJ6_bitCount_0f7a4_1 : decode cJ6_bitCount_0f7a4 1 = .ok (.iload_n 0, 1) := by decide +kernel
theorem dJ6_bitCount_0f7a4_2 : decode cJ6_bitCount_0f7a4 2 = .ok (.iconst 1, 1) := by decide +kernel
theorem dJ6_bitCount_0f7a4_3 : decode cJ6_bitCount_0f7a4 3 = .ok (.iushr, 1) := by decide +kernel
theorem dJ6_bitCount_0f7a4_4 : decode cJ6_bitCount_0f7a4 4 = .ok (.ldc_w 265, 3) := by decide +kernel
theorem dJ6_bitCount_0f7a4_7 : decode cJ6_bitCount_0f7a4 7 = .ok (.iand, 1) := by decide +kernel
theorem dJ6_bitCount_0f7a4_8 : decode cJ6_bitCount_0f7a4 8 = .ok (.isub, 1) := by decide +kernel
theorem dJ6_bitCount_0f7a4_9 : decode cJ6_bitCount_0f7a4 9 = .ok (.istore_n 0, 1) := by decide +kernel
theorem dJ6_bitCount_0f7a4_10 : decode cJ6_bitCount_0f7a4 10 = .ok (.iload_n 0, 1) := by decide +kernel
theorem dJ6_bitCount_0f7a4_11 : decode cJ6_bitCount_0f7a4 11 = .ok (.ldc_w 266, 3) := by decide +kernel
theorem dJ6_bitCount_0f7a4_14 : decode cJ6_bitCount_0f7a4 14 = .ok (.iand, 1) := by decide +kernel
theorem dJ6_bitCount_0f7a4_15 : decode cJ6_bitCount_0f7a4 15 = .ok (.iload_n 0, 1) := by decide +kernel
theorem dJ6_bitCount_0f7a4_16 : decode cJ6_bitCount_0f7a4 16 = .ok (.iconst 2, 1) := by decide +kernel
theorem dJ6_bitCount_0f7a4_17 : decode cJ6_bitCount_0f7a4 17 = .ok (.iushr, 1) := by decide +kernel
theorem dJ6_bitCount_0f7a4_18 : decode cJ6_bitCount_0f7a4 18 = .ok (.ldc_w 266, 3) := by decide +kernel
theorem dJ6_bitCount_0f7a4_21 : decode cJ6_bitCount_0f7a4 21 = .ok (.iand, 1) := by decide +kernel
theorem dJ6_bitCount_0f7a4_22 : decode cJ6_bitCount_0f7a4 22 = .ok (.iadd, 1) := by decide +kernel
theorem dJ6_bitCount_0f7a4_23 : decode cJ6_bitCount_0f7a4 23 = .ok (.istore_n 0, 1) := by decide +kernel
theorem dJ6_bitCount_0f7a4_24 : decode cJ6_bitCount_0f7a4 24 = .ok (.iload_n 0, 1) := by decide +kernel
theorem dJ6_bitCount_0f7a4_25 : decode cJ6_bitCount_0f7a4 25 = .ok (.iload_n 0, 1) := by decide +kernel
theorem dJ6_bitCount_0f7a4_26 : decode cJ6_bitCount_0f7a4 26 = .ok (.iconst 4, 1) := by decide +kernel
theorem dJ6_bitCount_0f7a4_27 : decode cJ6_bitCount_0f7a4 27 = .ok (.iushr, 1) := by decide +kernel
theorem dJ6_bitCount_0f7a4_28 : decode cJ6_bitCount_0f7a4 28 = .ok (.iadd, 1) := by decide +kernel
theorem dJ6_bitCount_0f7a4_29 : decode cJ6_bitCount_0f7a4 29 = .ok (.ldc_w 267, 3) := by decide +kernel
theorem dJ6_bitCount_0f7a4_32 : decode cJ6_bitCount_0f7a4 32 = .ok (.iand, 1) := by decide +kernel
theorem dJ6_bitCount_0f7a4_33 : decode cJ6_bitCount_0f7a4 33 = .ok (.istore_n 0, 1) := by decide +kernel
theorem dJ6_bitCount_0f7a4_34 : decode cJ6_bitCount_0f7a4 34 = .ok (.iload_n 0, 1) := by decide +kernel
theorem dJ6_bitCount_0f7a4_35 : decode cJ6_bitCount_0f7a4 35 = .ok (.iload_n 0, 1) := by decide +kernel
theorem dJ6_bitCount_0f7a4_36 : decode cJ6_bitCount_0f7a4 36 = .ok (.bipush 8, 2) := by decide +kernel
theorem dJ6_bitCount_0f7a4_38 : decode cJ6_bitCount_0f7a4 38 = .ok (.iushr, 1) := by decide +kernel
theorem dJ6_bitCount_0f7a4_39 : decode cJ6_bitCount_0f7a4 39 = .ok (.iadd, 1) := by decide +kernel
theorem dJ6_bitCount_0f7a4_40 : decode cJ6_bitCount_0f7a4 40 = .ok (.istore_n 0, 1) := by decide +kernel
theorem dJ6_bitCount_0f7a4_41 : decode cJ6_bitCount_0f7a4 41 = .ok (.iload_n 0, 1) := by decide +kernel
theorem dJ6_bitCount_0f7a4_42 : decode cJ6_bitCount_0f7a4 42 = .ok (.iload_n 0, 1) := by decide +kernel
theorem dJ6_bitCount_0f7a4_43 : decode cJ6_bitCount_0f7a4 43 = .ok (.bipush 16, 2) := by decide +kernel
theorem dJ6_bitCount_0f7a4_45 : decode cJ6_bitCount_0f7a4 45 = .ok (.iushr, 1) := by decide +kernel
theorem dJ6_bitCount_0f7a4_46 : decode cJ6_bitCount_0f7a4 46 = .ok (.iadd, 1) := by decide +kernel
theorem dJ6_bitCount_0f7a4_47 : decode cJ6_bitCount_0f7a4 47 = .ok (.istore_n 0, 1) := by decide +kernel
theorem dJ6_bitCount_0f7a4_48 : decode cJ6_bitCount_0f7a4 48 = .ok (.iload_n 0, 1) := by decide +kernel
theorem dJ6_bitCount_0f7a4_49 : decode cJ6_bitCount_0f7a4 49 = .ok (.bipush 63, 2) := by decide +kernel
theorem dJ6_bitCount_0f7a4_51 : decode cJ6_bitCount_0f7a4 51 = .ok (.iand, 1) := by decide +kernel
theorem dJ6_bitCount_0f7a4_52 : decode cJ6_bitCount_0f7a4 52 = .ok (.ireturn, 1) := by decide +kernel
theorem dJ9_abs_0f7a4_0 : decode cJ9_abs_0f7a4 0 = .ok (.iload_n 0, 1) := by decide +kernel
theorem dJ9_abs_0f7a4_1 : decode cJ9_abs_0f7a4 1 = .ok (.ifCond .ge 8, 3) := by decide +kernel
theorem dJ9_abs_0f7a4_4 : decode cJ9_abs_0f7a4 4 = .ok (.iload_n 0, 1) := by decide +kernel
theorem dJ9_abs_0f7a4_5 : decode cJ9_abs_0f7a4 5 = .ok (.ineg, 1) := by decide +kernel
theorem dJ9_abs_0f7a4_6 : decode cJ9_abs_0f7a4 6 = .ok (.goto 4, 3) := by decide +kernel
theorem dJ9_abs_0f7a4_9 : decode cJ9_abs_0f7a4 9 = .ok (.iload_n 0, 1) := by decide +kernel
theorem dJ9_abs_0f7a4_10 : decode cJ9_abs_0f7a4 10 = .ok (.ireturn, 1) := by decide +kernel
theorem dJ9_max_7cf53_0 : decode cJ9_max_7cf53 0 = .ok (.iload_n 0, 1) := by decide +kernel
theorem dJ9_max_7cf53_1 : decode cJ9_max_7cf53 1 = .ok (.iload_n 1, 1) := by decide +kernel
theorem dJ9_max_7cf53_2 : decode cJ9_max_7cf53 2 = .ok (.if_icmp .lt 7, 3) := by decide +kernel
theorem dJ9_max_7cf53_5 : decode cJ9_max_7cf53 5 = .ok (.iload_n 0, 1) := by decide +kernel
theorem dJ9_max_7cf53_6 : decode cJ9_max_7cf53 6 = .ok (.goto 4, 3) := by decide +kernel
theorem dJ9_max_7cf53_9 : decode cJ9_max_7cf53 9 = .ok (.iload_n 1, 1) := by decide +kernel
theorem dJ9_max_7cf53_10 : decode cJ9_max_7cf53 10 = .ok (.ireturn, 1) := by decide +kernel
theorem dJ9_min_7cf53_0 : decode cJ9_min_7cf53 0 = .ok (.iload_n 0, 1) := by decide +kernel
theorem dJ9_min_7cf53_1 : decode cJ9_min_7cf53 1 = .ok (.iload_n 1, 1) := by decide +kernel
theorem dJ9_min_7cf53_2 : decode cJ9_min_7cf53 2 = .ok (.if_icmp .gt 7, 3) := by decide +kernel
theorem dJ9_min_7cf53_5 : decode cJ9_min_7cf53 5 = .ok (.iload_n 0, 1) := by decide +kernel
theorem dJ9_min_7cf53_6 : decode cJ9_min_7cf53 6 = .ok (.goto 4, 3) := by decide +kernel
theorem dJ9_min_7cf53_9 : decode cJ9_min_7cf53 9 = .ok (.iload_n 1, 1) := by decide +kernel
theorem dJ9_min_7cf53_10 : decode cJ9_min_7cf53 10 = .ok (.ireturn, 1) := by decide +kernel
theorem dJ0_length_8abf5_0 : decode cJ0_length_8abf5 0 = .ok (.aload_n 0, 1) := by decide +kernel
theorem dJ0_length_8abf5_1 : decode cJ0_length_8abf5 1 = .ok (.getfield 9, 3) := by decide +kernel
theorem dJ0_length_8abf5_4 : decode cJ0_length_8abf5 4 = .ok (.arraylength, 1) := by decide +kernel
theorem dJ0_length_8abf5_5 : decode cJ0_length_8abf5 5 = .ok (.aload_n 0, 1) := by decide +kernel
theorem dJ0_length_8abf5_6 : decode cJ0_length_8abf5 6 = .ok (.invokevirtual 335, 3) := by decide +kernel
theorem dJ0_length_8abf5_9 : decode cJ0_length_8abf5 9 = .ok (.ishr, 1) := by decide +kernel
theorem dJ0_length_8abf5_10 : decode cJ0_length_8abf5 10 = .ok (.ireturn, 1) := by decide +kernel
theorem dJ0_charAt_5068e_0 : decode cJ0_charAt_5068e 0 = .ok (.aload_n 0, 1) := by decide +kernel
theorem dJ0_charAt_5068e_1 : decode cJ0_charAt_5068e 1 = .ok (.invokevirtual 492, 3) := by decide +kernel
theorem dJ0_charAt_5068e_4 : decode cJ0_charAt_5068e 4 = .ok (.ifCond .eq 12, 3) := by decide +kernel
theorem dJ0_charAt_5068e_7 : decode cJ0_charAt_5068e 7 = .ok (.aload_n 0, 1) := by decide +kernel
theorem dJ0_charAt_5068e_8 : decode cJ0_charAt_5068e 8 = .ok (.getfield 9, 3) := by decide +kernel
theorem dJ0_charAt_5068e_11 : decode cJ0_charAt_5068e 11 = .ok (.iload_n 1, 1) := by decide +kernel
theorem dJ0_charAt_5068e_12 : decode cJ0_charAt_5068e 12 = .ok (.invokestatic 495, 3) := by decide +kernel
theorem dJ0_charAt_5068e_15 : decode cJ0_charAt_5068e 15 = .ok (.ireturn, 1) := by decide +kernel
theorem dJ0_charAt_5068e_16 : decode cJ0_charAt_5068e 16 = .ok (.aload_n 0, 1) := by decide +kernel
theorem dJ0_charAt_5068e_17 : decode cJ0_charAt_5068e 17 = .ok (.getfield 9, 3) := by decide +kernel
theorem dJ0_charAt_5068e_20 : decode cJ0_charAt_5068e 20 = .ok (.iload_n 1, 1) := by decide +kernel
theorem dJ0_charAt_5068e_21 : decode cJ0_charAt_5068e 21 = .ok (.invokestatic 498, 3) := by decide +kernel
theorem dJ0_charAt_5068e_24 : decode cJ0_charAt_5068e 24 = .ok (.ireturn, 1) := by decide +kernel
theorem dJ0_indexOf_0f7a4_0 : decode cJ0_indexOf_0f7a4 0 = .ok (.aload_n 0, 1) := by decide +kernel
theorem dJ0_indexOf_0f7a4_1 : decode cJ0_indexOf_0f7a4 1 = .ok (.iload_n 1, 1) := by decide +kernel
theorem dJ0_indexOf_0f7a4_2 : decode cJ0_indexOf_0f7a4 2 = .ok (.iconst 0, 1) := by decide +kernel
theorem dJ0_indexOf_0f7a4_3 : decode cJ0_indexOf_0f7a4 3 = .ok (.invokevirtual 633, 3) := by decide +kernel
theorem dJ0_indexOf_0f7a4_6 : decode cJ0_indexOf_0f7a4 6 = .ok (.ireturn, 1) := by decide +kernel
theorem dJ0_indexOf_7cf53_0 : decode cJ0_indexOf_7cf53 0 = .ok (.aload_n 0, 1) := by decide +kernel
theorem dJ0_indexOf_7cf53_1 : decode cJ0_indexOf_7cf53 1 = .ok (.invokevirtual 492, 3) := by decide +kernel
theorem dJ0_indexOf_7cf53_4 : decode cJ0_indexOf_7cf53 4 = .ok (.ifCond .eq 19, 3) := by decide +kernel
theorem dJ0_indexOf_7cf53_7 : decode cJ0_indexOf_7cf53 7 = .ok (.aload_n 0, 1) := by decide +kernel
theorem dJ0_indexOf_7cf53_8 : decode cJ0_indexOf_7cf53 8 = .ok (.getfield 9, 3) := by decide +kernel
theorem dJ0_indexOf_7cf53_11 : decode cJ0_indexOf_7cf53 11 = .ok (.iload_n 1, 1) := by decide +kernel
theorem dJ0_indexOf_7cf53_12 : decode cJ0_indexOf_7cf53 12 = .ok (.iload_n 2, 1) := by decide +kernel
theorem dJ0_indexOf_7cf53_13 : decode cJ0_indexOf_7cf53 13 = .ok (.aload_n 0, 1) := by decide +kernel
theorem dJ0_indexOf_7cf53_14 : decode cJ0_indexOf_7cf53 14 = .ok (.invokevirtual 505, 3) := by decide +kernel
theorem dJ0_indexOf_7cf53_17 : decode cJ0_indexOf_7cf53 17 = .ok (.invokestatic 637, 3) := by decide +kernel
theorem dJ0_indexOf_7cf53_20 : decode cJ0_indexOf_7cf53 20 = .ok (.goto 16, 3) := by decide +kernel
theorem dJ0_indexOf_7cf53_23 : decode cJ0_indexOf_7cf53 23 = .ok (.aload_n 0, 1) := by decide +kernel
theorem dJ0_indexOf_7cf53_24 : decode cJ0_indexOf_7cf53 24 = .ok (.getfield 9, 3) := by decide +kernel
theorem dJ0_indexOf_7cf53_27 : decode cJ0_indexOf_7cf53 27 = .ok (.iload_n 1, 1) := by decide +kernel
theorem dJ0_indexOf_7cf53_28 : decode cJ0_indexOf_7cf53 28 = .ok (.iload_n 2, 1) := by decide +kernel
theorem dJ0_indexOf_7cf53_29 : decode cJ0_indexOf_7cf53 29 = .ok (.aload_n 0, 1) := by decide +kernel
theorem dJ0_indexOf_7cf53_30 : decode cJ0_indexOf_7cf53 30 = .ok (.invokevirtual 505, 3) := by decide +kernel
theorem dJ0_indexOf_7cf53_33 : decode cJ0_indexOf_7cf53 33 = .ok (.invokestatic 640, 3) := by decide +kernel
theorem dJ0_indexOf_7cf53_36 : decode cJ0_indexOf_7cf53 36 = .ok (.ireturn, 1) := by decide +kernel
theorem dJ0_coder_7d493_0 : decode cJ0_coder_7d493 0 = .ok (.getstatic 38, 3) := by decide +kernel
theorem dJ0_coder_7d493_3 : decode cJ0_coder_7d493 3 = .ok (.ifCond .eq 10, 3) := by decide +kernel
theorem dJ0_coder_7d493_6 : decode cJ0_coder_7d493 6 = .ok (.aload_n 0, 1) := by decide +kernel
theorem dJ0_coder_7d493_7 : decode cJ0_coder_7d493 7 = .ok (.getfield 15, 3) := by decide +kernel
theorem dJ0_coder_7d493_10 : decode cJ0_coder_7d493 10 = .ok (.goto 4, 3) := by decide +kernel
theorem dJ0_coder_7d493_13 : decode cJ0_coder_7d493 13 = .ok (.iconst 1, 1) := by decide +kernel
theorem dJ0_coder_7d493_14 : decode cJ0_coder_7d493 14 = .ok (.ireturn, 1) := by decide +kernel
theorem dJ0_isLatin1_aae02_0 : decode cJ0_isLatin1_aae02 0 = .ok (.getstatic 38, 3) := by decide +kernel
theorem dJ0_isLatin1_aae02_3 : decode cJ0_isLatin1_aae02 3 = .ok (.ifCond .eq 14, 3) := by decide +kernel
theorem dJ0_isLatin1_aae02_6 : decode cJ0_isLatin1_aae02 6 = .ok (.aload_n 0, 1) := by decide +kernel
theorem dJ0_isLatin1_aae02_7 : decode cJ0_isLatin1_aae02 7 = .ok (.getfield 15, 3) := by decide +kernel
theorem dJ0_isLatin1_aae02_10 : decode cJ0_isLatin1_aae02 10 = .ok (.ifCond .ne 7, 3) := by decide +kernel
theorem dJ0_isLatin1_aae02_13 : decode cJ0_isLatin1_aae02 13 = .ok (.iconst 1, 1) := by decide +kernel
theorem dJ0_isLatin1_aae02_14 : decode cJ0_isLatin1_aae02 14 = .ok (.goto 4, 3) := by decide +kernel
theorem dJ0_isLatin1_aae02_17 : decode cJ0_isLatin1_aae02 17 = .ok (.iconst 0, 1) := by decide +kernel
theorem dJ0_isLatin1_aae02_18 : decode cJ0_isLatin1_aae02 18 = .ok (.ireturn, 1) := by decide +kernel
theorem dJ0_checkIndex_df160_0 : decode cJ0_checkIndex_df160 0 = .ok (.iload_n 0, 1) := by decide +kernel
theorem dJ0_checkIndex_df160_1 : decode cJ0_checkIndex_df160 1 = .ok (.iload_n 1, 1) := by decide +kernel
theorem dJ0_checkIndex_df160_2 : decode cJ0_checkIndex_df160 2 = .ok (.getstatic 1053, 3) := by decide +kernel
theorem dJ0_checkIndex_df160_5 : decode cJ0_checkIndex_df160 5 = .ok (.invokestatic 1059, 3) := by decide +kernel
theorem dJ0_checkIndex_df160_8 : decode cJ0_checkIndex_df160 8 = .ok (.pop, 1) := by decide +kernel
theorem dJ0_checkIndex_df160_9 : decode cJ0_checkIndex_df160 9 = .ok (.return_, 1) := by decide +kernel
theorem dJ0_checkBoundsBeginEnd_23922_0 : decode cJ0_checkBoundsBeginEnd_23922 0 = .ok (.iload_n 0, 1) := by decide +kernel
theorem dJ0_checkBoundsBeginEnd_23922_1 : decode cJ0_checkBoundsBeginEnd_23922 1 = .ok (.iload_n 1, 1) := by decide +kernel
theorem dJ0_checkBoundsBeginEnd_23922_2 : decode cJ0_checkBoundsBeginEnd_23922 2 = .ok (.iload_n 2, 1) := by decide +kernel
theorem dJ0_checkBoundsBeginEnd_23922_3 : decode cJ0_checkBoundsBeginEnd_23922 3 = .ok (.getstatic 1053, 3) := by decide +kernel
theorem dJ0_checkBoundsBeginEnd_23922_6 : decode cJ0_checkBoundsBeginEnd_23922 6 = .ok (.invokestatic 1062, 3) := by decide +kernel
theorem dJ0_checkBoundsBeginEnd_23922_9 : decode cJ0_checkBoundsBeginEnd_23922 9 = .ok (.pop, 1) := by decide +kernel
theorem dJ0_checkBoundsBeginEnd_23922_10 : decode cJ0_checkBoundsBeginEnd_23922 10 = .ok (.return_, 1) := by decide +kernel
theorem dJ1_charAt_3b067_0 : decode cJ1_charAt_3b067 0 = .ok (.iload_n 1, 1) := by decide +kernel
theorem dJ1_charAt_3b067_1 : decode cJ1_charAt_3b067 1 = .ok (.aload_n 0, 1) := by decide +kernel
theorem dJ1_charAt_3b067_2 : decode cJ1_charAt_3b067 2 = .ok (.arraylength, 1) := by decide +kernel
theorem dJ1_charAt_3b067_3 : decode cJ1_charAt_3b067 3 = .ok (.invokestatic 9, 3) := by decide +kernel
theorem dJ1_charAt_3b067_6 : decode cJ1_charAt_3b067 6 = .ok (.aload_n 0, 1) := by decide +kernel
theorem dJ1_charAt_3b067_7 : decode cJ1_charAt_3b067 7 = .ok (.iload_n 1, 1) := by decide +kernel
theorem dJ1_charAt_3b067_8 : decode cJ1_charAt_3b067 8 = .ok (.baload, 1) := by decide +kernel
theorem dJ1_charAt_3b067_9 : decode cJ1_charAt_3b067 9 = .ok (.sipush 255, 3) := by decide +kernel
theorem dJ1_charAt_3b067_12 : decode cJ1_charAt_3b067 12 = .ok (.iand, 1) := by decide +kernel
theorem dJ1_charAt_3b067_13 : decode cJ1_charAt_3b067 13 = .ok (.i2c, 1) := by decide +kernel
theorem dJ1_charAt_3b067_14 : decode cJ1_charAt_3b067 14 = .ok (.ireturn, 1) := by decide +kernel
theorem dJ1_canEncode_9a6ad_0 : decode cJ1_canEncode_9a6ad 0 = .ok (.iload_n 0, 1) := by decide +kernel
theorem dJ1_canEncode_9a6ad_1 : decode cJ1_canEncode_9a6ad 1 = .ok (.ifCond .lt 14, 3) := by decide +kernel
theorem dJ1_canEncode_9a6ad_4 : decode cJ1_canEncode_9a6ad 4 = .ok (.iload_n 0, 1) := by decide +kernel
theorem dJ1_canEncode_9a6ad_5 : decode cJ1_canEncode_9a6ad 5 = .ok (.sipush 255, 3) := by decide +kernel
theorem dJ1_canEncode_9a6ad_8 : decode cJ1_canEncode_9a6ad 8 = .ok (.if_icmp .gt 7, 3) := by decide +kernel
theorem dJ1_canEncode_9a6ad_11 : decode cJ1_canEncode_9a6ad 11 = .ok (.iconst 1, 1) := by decide +kernel
theorem dJ1_canEncode_9a6ad_12 : decode cJ1_canEncode_9a6ad 12 = .ok (.goto 4, 3) := by decide +kernel
theorem dJ1_canEncode_9a6ad_15 : decode cJ1_canEncode_9a6ad 15 = .ok (.iconst 0, 1) := by decide +kernel
theorem dJ1_canEncode_9a6ad_16 : decode cJ1_canEncode_9a6ad 16 = .ok (.ireturn, 1) := by decide +kernel
theorem dJ1_indexOf_4cfef_0 : decode cJ1_indexOf_4cfef 0 = .ok (.iload_n 1, 1) := by decide +kernel
theorem dJ1_indexOf_4cfef_1 : decode cJ1_indexOf_4cfef 1 = .ok (.invokestatic 88, 3) := by decide +kernel
theorem dJ1_indexOf_4cfef_4 : decode cJ1_indexOf_4cfef 4 = .ok (.ifCond .ne 5, 3) := by decide +kernel
theorem dJ1_indexOf_4cfef_7 : decode cJ1_indexOf_4cfef 7 = .ok (.iconst (-1), 1) := by decide +kernel
theorem dJ1_indexOf_4cfef_8 : decode cJ1_indexOf_4cfef 8 = .ok (.ireturn, 1) := by decide +kernel
theorem dJ1_indexOf_4cfef_9 : decode cJ1_indexOf_4cfef 9 = .ok (.iload_n 2, 1) := by decide +kernel
theorem dJ1_indexOf_4cfef_10 : decode cJ1_indexOf_4cfef 10 = .ok (.iconst 0, 1) := by decide +kernel
theorem dJ1_indexOf_4cfef_11 : decode cJ1_indexOf_4cfef 11 = .ok (.invokestatic 92, 3) := by decide +kernel
theorem dJ1_indexOf_4cfef_14 : decode cJ1_indexOf_4cfef 14 = .ok (.istore_n 2, 1) := by decide +kernel
theorem dJ1_indexOf_4cfef_15 : decode cJ1_indexOf_4cfef 15 = .ok (.iload_n 3, 1) := by decide +kernel
theorem dJ1_indexOf_4cfef_16 : decode cJ1_indexOf_4cfef 16 = .ok (.aload_n 0, 1) := by decide +kernel
theorem dJ1_indexOf_4cfef_17 : decode cJ1_indexOf_4cfef 17 = .ok (.arraylength, 1) := by decide +kernel
theorem dJ1_indexOf_4cfef_18 : decode cJ1_indexOf_4cfef 18 = .ok (.invokestatic 38, 3) := by decide +kernel
theorem dJ1_indexOf_4cfef_21 : decode cJ1_indexOf_4cfef 21 = .ok (.istore_n 3, 1) := by decide +kernel
theorem dJ1_indexOf_4cfef_22 : decode cJ1_indexOf_4cfef 22 = .ok (.iload_n 2, 1) := by decide +kernel
theorem dJ1_indexOf_4cfef_23 : decode cJ1_indexOf_4cfef 23 = .ok (.iload_n 3, 1) := by decide +kernel
theorem dJ1_indexOf_4cfef_24 : decode cJ1_indexOf_4cfef 24 = .ok (.if_icmp .lt 5, 3) := by decide +kernel
theorem dJ1_indexOf_4cfef_27 : decode cJ1_indexOf_4cfef 27 = .ok (.iconst (-1), 1) := by decide +kernel
theorem dJ1_indexOf_4cfef_28 : decode cJ1_indexOf_4cfef 28 = .ok (.ireturn, 1) := by decide +kernel
theorem dJ1_indexOf_4cfef_29 : decode cJ1_indexOf_4cfef 29 = .ok (.aload_n 0, 1) := by decide +kernel
theorem dJ1_indexOf_4cfef_30 : decode cJ1_indexOf_4cfef 30 = .ok (.iload_n 1, 1) := by decide +kernel
theorem dJ1_indexOf_4cfef_31 : decode cJ1_indexOf_4cfef 31 = .ok (.iload_n 2, 1) := by decide +kernel
theorem dJ1_indexOf_4cfef_32 : decode cJ1_indexOf_4cfef 32 = .ok (.iload_n 3, 1) := by decide +kernel
theorem dJ1_indexOf_4cfef_33 : decode cJ1_indexOf_4cfef 33 = .ok (.invokestatic 95, 3) := by decide +kernel
theorem dJ1_indexOf_4cfef_36 : decode cJ1_indexOf_4cfef 36 = .ok (.ireturn, 1) := by decide +kernel
theorem dJ1_indexOfChar_4cfef_0 : decode cJ1_indexOfChar_4cfef 0 = .ok (.iload_n 1, 1) := by decide +kernel
theorem dJ1_indexOfChar_4cfef_1 : decode cJ1_indexOfChar_4cfef 1 = .ok (.i2b, 1) := by decide +kernel
theorem dJ1_indexOfChar_4cfef_2 : decode cJ1_indexOfChar_4cfef 2 = .ok (.istore 4, 2) := by decide +kernel
theorem dJ1_indexOfChar_4cfef_4 : decode cJ1_indexOfChar_4cfef 4 = .ok (.iload_n 2, 1) := by decide +kernel
theorem dJ1_indexOfChar_4cfef_5 : decode cJ1_indexOfChar_4cfef 5 = .ok (.istore 5, 2) := by decide +kernel
theorem dJ1_indexOfChar_4cfef_7 : decode cJ1_indexOfChar_4cfef 7 = .ok (.iload 5, 2) := by decide +kernel
theorem dJ1_indexOfChar_4cfef_9 : decode cJ1_indexOfChar_4cfef 9 = .ok (.iload_n 3, 1) := by decide +kernel
theorem dJ1_indexOfChar_4cfef_10 : decode cJ1_indexOfChar_4cfef 10 = .ok (.if_icmp .ge 21, 3) := by decide +kernel
theorem dJ1_indexOfChar_4cfef_13 : decode cJ1_indexOfChar_4cfef 13 = .ok (.aload_n 0, 1) := by decide +kernel
theorem dJ1_indexOfChar_4cfef_14 : decode cJ1_indexOfChar_4cfef 14 = .ok (.iload 5, 2) := by decide +kernel
theorem dJ1_indexOfChar_4cfef_16 : decode cJ1_indexOfChar_4cfef 16 = .ok (.baload, 1) := by decide +kernel
theorem dJ1_indexOfChar_4cfef_17 : decode cJ1_indexOfChar_4cfef 17 = .ok (.iload 4, 2) := by decide +kernel
theorem dJ1_indexOfChar_4cfef_19 : decode cJ1_indexOfChar_4cfef 19 = .ok (.if_icmp .ne 6, 3) := by decide +kernel
theorem dJ1_indexOfChar_4cfef_22 : decode cJ1_indexOfChar_4cfef 22 = .ok (.iload 5, 2) := by decide +kernel
theorem dJ1_indexOfChar_4cfef_24 : decode cJ1_indexOfChar_4cfef 24 = .ok (.ireturn, 1) := by decide +kernel
theorem dJ1_indexOfChar_4cfef_25 : decode cJ1_indexOfChar_4cfef 25 = .ok (.iinc 5 1, 3) := by decide +kernel
theorem dJ1_indexOfChar_4cfef_28 : decode cJ1_indexOfChar_4cfef 28 = .ok (.goto (-21), 3) := by decide +kernel
theorem dJ1_indexOfChar_4cfef_31 : decode cJ1_indexOfChar_4cfef 31 = .ok (.iconst (-1), 1) := by decide +kernel
theorem dJ1_indexOfChar_4cfef_32 : decode cJ1_indexOfChar_4cfef 32 = .ok (.ireturn, 1) := by decide +kernel
