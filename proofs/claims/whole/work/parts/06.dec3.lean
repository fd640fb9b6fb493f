theorem dX9_init_0 : decode cX9_init 0 = .ok (.aload_n 0, 1) := by decide +kernel
theorem dX9_init_1 : decode cX9_init 1 = .ok (.invokespecial 3, 3) := by decide +kernel
theorem dX9_init_4 : decode cX9_init 4 = .ok (.aload_n 0, 1) := by decide +kernel
theorem dX9_init_5 : decode cX9_init 5 = .ok (.new 9, 3) := by decide +kernel
theorem dX9_init_8 : decode cX9_init 8 = .ok (.dup, 1) := by decide +kernel
theorem dX9_init_9 : decode cX9_init 9 = .ok (.invokespecial 11, 3) := by decide +kernel
theorem dX9_init_12 : decode cX9_init 12 = .ok (.putfield 12, 3) := by decide +kernel
theorem dX9_init_15 : decode cX9_init 15 = .ok (.aload_n 0, 1) := by decide +kernel
theorem dX9_init_16 : decode cX9_init 16 = .ok (.new 9, 3) := by decide +kernel
theorem dX9_init_19 : decode cX9_init 19 = .ok (.dup, 1) := by decide +kernel
theorem dX9_init_20 : decode cX9_init 20 = .ok (.invokespecial 11, 3) := by decide +kernel
theorem dX9_init_23 : decode cX9_init 23 = .ok (.putfield 16, 3) := by decide +kernel
theorem dX9_init_26 : decode cX9_init 26 = .ok (.aload_n 0, 1) := by decide +kernel
theorem dX9_init_27 : decode cX9_init 27 = .ok (.new 19, 3) := by decide +kernel
theorem dX9_init_30 : decode cX9_init 30 = .ok (.dup, 1) := by decide +kernel
theorem dX9_init_31 : decode cX9_init 31 = .ok (.invokespecial 21, 3) := by decide +kernel
theorem dX9_init_34 : decode cX9_init 34 = .ok (.putfield 22, 3) := by decide +kernel
theorem dX9_init_37 : decode cX9_init 37 = .ok (.aload_n 0, 1) := by decide +kernel
theorem dX9_init_38 : decode cX9_init 38 = .ok (.new 26, 3) := by decide +kernel
theorem dX9_init_41 : decode cX9_init 41 = .ok (.dup, 1) := by decide +kernel
theorem dX9_init_42 : decode cX9_init 42 = .ok (.aload_n 0, 1) := by decide +kernel
theorem dX9_init_43 : decode cX9_init 43 = .ok (.getfield 12, 3) := by decide +kernel
theorem dX9_init_46 : decode cX9_init 46 = .ok (.invokespecial 28, 3) := by decide +kernel
theorem dX9_init_49 : decode cX9_init 49 = .ok (.putfield 31, 3) := by decide +kernel
theorem dX9_init_52 : decode cX9_init 52 = .ok (.aload_n 0, 1) := by decide +kernel
theorem dX9_init_53 : decode cX9_init 53 = .ok (.new 35, 3) := by decide +kernel
theorem dX9_init_56 : decode cX9_init 56 = .ok (.dup, 1) := by decide +kernel
theorem dX9_init_57 : decode cX9_init 57 = .ok (.aload_n 0, 1) := by decide +kernel
theorem dX9_init_58 : decode cX9_init 58 = .ok (.getfield 12, 3) := by decide +kernel
theorem dX9_init_61 : decode cX9_init 61 = .ok (.aload_n 0, 1) := by decide +kernel
theorem dX9_init_62 : decode cX9_init 62 = .ok (.getfield 31, 3) := by decide +kernel
theorem dX9_init_65 : decode cX9_init 65 = .ok (.invokespecial 37, 3) := by decide +kernel
theorem dX9_init_68 : decode cX9_init 68 = .ok (.putfield 40, 3) := by decide +kernel
theorem dX9_init_71 : decode cX9_init 71 = .ok (.aload_n 0, 1) := by decide +kernel
theorem dX9_init_72 : decode cX9_init 72 = .ok (.new 44, 3) := by decide +kernel
theorem dX9_init_75 : decode cX9_init 75 = .ok (.dup, 1) := by decide +kernel
theorem dX9_init_76 : decode cX9_init 76 = .ok (.aload_n 0, 1) := by decide +kernel
theorem dX9_init_77 : decode cX9_init 77 = .ok (.getfield 12, 3) := by decide +kernel
theorem dX9_init_80 : decode cX9_init 80 = .ok (.aload_n 0, 1) := by decide +kernel
theorem dX9_init_81 : decode cX9_init 81 = .ok (.getfield 31, 3) := by decide +kernel
theorem dX9_init_84 : decode cX9_init 84 = .ok (.invokespecial 46, 3) := by decide +kernel
theorem dX9_init_87 : decode cX9_init 87 = .ok (.putfield 47, 3) := by decide +kernel
theorem dX9_init_90 : decode cX9_init 90 = .ok (.aload_n 0, 1) := by decide +kernel
theorem dX9_init_91 : decode cX9_init 91 = .ok (.new 51, 3) := by decide +kernel
theorem dX9_init_94 : decode cX9_init 94 = .ok (.dup, 1) := by decide +kernel
theorem dX9_init_95 : decode cX9_init 95 = .ok (.invokespecial 53, 3) := by decide +kernel
theorem dX9_init_98 : decode cX9_init 98 = .ok (.putfield 54, 3) := by decide +kernel
theorem dX9_init_101 : decode cX9_init 101 = .ok (.aload_n 0, 1) := by decide +kernel
theorem dX9_init_102 : decode cX9_init 102 = .ok (.new 58, 3) := by decide +kernel
theorem dX9_init_105 : decode cX9_init 105 = .ok (.dup, 1) := by decide +kernel
theorem dX9_init_106 : decode cX9_init 106 = .ok (.invokespecial 60, 3) := by decide +kernel
theorem dX9_init_109 : decode cX9_init 109 = .ok (.putfield 61, 3) := by decide +kernel
theorem dX9_init_112 : decode cX9_init 112 = .ok (.aload_n 0, 1) := by decide +kernel
theorem dX9_init_113 : decode cX9_init 113 = .ok (.bipush 6, 2) := by decide +kernel
theorem dX9_init_115 : decode cX9_init 115 = .ok (.newarray .int, 2) := by decide +kernel
theorem dX9_init_117 : decode cX9_init 117 = .ok (.putfield 65, 3) := by decide +kernel
theorem dX9_init_120 : decode cX9_init 120 = .ok (.aload_n 0, 1) := by decide +kernel
theorem dX9_init_121 : decode cX9_init 121 = .ok (.iconst 0, 1) := by decide +kernel
theorem dX9_init_122 : decode cX9_init 122 = .ok (.ldc 69, 2) := by decide +kernel
theorem dX9_init_124 : decode cX9_init 124 = .ok (.invokevirtual 71, 3) := by decide +kernel
theorem dX9_init_127 : decode cX9_init 127 = .ok (.aload_n 0, 1) := by decide +kernel
theorem dX9_init_128 : decode cX9_init 128 = .ok (.iconst 1, 1) := by decide +kernel
theorem dX9_init_129 : decode cX9_init 129 = .ok (.ldc 75, 2) := by decide +kernel
theorem dX9_init_131 : decode cX9_init 131 = .ok (.invokevirtual 71, 3) := by decide +kernel
theorem dX9_init_134 : decode cX9_init 134 = .ok (.return_, 1) := by decide +kernel
theorem dX9_hill_0 : decode cX9_hill 0 = .ok (.iload_n 1, 1) := by decide +kernel
theorem dX9_hill_1 : decode cX9_hill 1 = .ok (.invokestatic 77, 3) := by decide +kernel
theorem dX9_hill_4 : decode cX9_hill 4 = .ok (.ifCond .eq 13, 3) := by decide +kernel
theorem dX9_hill_7 : decode cX9_hill 7 = .ok (.iload_n 2, 1) := by decide +kernel
theorem dX9_hill_8 : decode cX9_hill 8 = .ok (.ifCond .lt 9, 3) := by decide +kernel
theorem dX9_hill_11 : decode cX9_hill 11 = .ok (.iload_n 2, 1) := by decide +kernel
theorem dX9_hill_12 : decode cX9_hill 12 = .ok (.bipush 9, 2) := by decide +kernel
theorem dX9_hill_14 : decode cX9_hill 14 = .ok (.if_icmp .le 10, 3) := by decide +kernel
theorem dX9_hill_17 : decode cX9_hill 17 = .ok (.aload_n 0, 1) := by decide +kernel
theorem dX9_hill_18 : decode cX9_hill 18 = .ok (.ldc 81, 2) := by decide +kernel
theorem dX9_hill_20 : decode cX9_hill 20 = .ok (.invokevirtual 82, 3) := by decide +kernel
theorem dX9_hill_23 : decode cX9_hill 23 = .ok (.ireturn, 1) := by decide +kernel
theorem dX9_hill_24 : decode cX9_hill 24 = .ok (.aload_n 0, 1) := by decide +kernel
theorem dX9_hill_25 : decode cX9_hill 25 = .ok (.getfield 12, 3) := by decide +kernel
theorem dX9_hill_28 : decode cX9_hill 28 = .ok (.iload_n 1, 1) := by decide +kernel
theorem dX9_hill_29 : decode cX9_hill 29 = .ok (.iload_n 2, 1) := by decide +kernel
theorem dX9_hill_30 : decode cX9_hill 30 = .ok (.invokevirtual 86, 3) := by decide +kernel
theorem dX9_hill_33 : decode cX9_hill 33 = .ok (.ireturn, 1) := by decide +kernel
theorem dX9_set_0 : decode cX9_set 0 = .ok (.iload_n 1, 1) := by decide +kernel
theorem dX9_set_1 : decode cX9_set 1 = .ok (.iload_n 2, 1) := by decide +kernel
theorem dX9_set_2 : decode cX9_set 2 = .ok (.invokestatic 90, 3) := by decide +kernel
theorem dX9_set_5 : decode cX9_set 5 = .ok (.ifCond .ne 10, 3) := by decide +kernel
theorem dX9_set_8 : decode cX9_set 8 = .ok (.aload_n 0, 1) := by decide +kernel
theorem dX9_set_9 : decode cX9_set 9 = .ok (.ldc 81, 2) := by decide +kernel
theorem dX9_set_11 : decode cX9_set 11 = .ok (.invokevirtual 82, 3) := by decide +kernel
theorem dX9_set_14 : decode cX9_set 14 = .ok (.ireturn, 1) := by decide +kernel
theorem dX9_set_15 : decode cX9_set 15 = .ok (.iload_n 1, 1) := by decide +kernel
theorem dX9_set_16 : decode cX9_set 16 = .ok (.ifCond .ne 13, 3) := by decide +kernel
theorem dX9_set_19 : decode cX9_set 19 = .ok (.aload_n 0, 1) := by decide +kernel
theorem dX9_set_20 : decode cX9_set 20 = .ok (.getfield 12, 3) := by decide +kernel
theorem dX9_set_23 : decode cX9_set 23 = .ok (.getfield 94, 3) := by decide +kernel
theorem dX9_set_26 : decode cX9_set 26 = .ok (.goto 25, 3) := by decide +kernel
theorem dX9_set_29 : decode cX9_set 29 = .ok (.iload_n 1, 1) := by decide +kernel
theorem dX9_set_30 : decode cX9_set 30 = .ok (.iconst 1, 1) := by decide +kernel
theorem dX9_set_31 : decode cX9_set 31 = .ok (.if_icmp .ne 13, 3) := by decide +kernel
theorem dX9_set_34 : decode cX9_set 34 = .ok (.aload_n 0, 1) := by decide +kernel
theorem dX9_set_35 : decode cX9_set 35 = .ok (.getfield 12, 3) := by decide +kernel
theorem dX9_set_38 : decode cX9_set 38 = .ok (.getfield 98, 3) := by decide +kernel
theorem dX9_set_41 : decode cX9_set 41 = .ok (.goto 10, 3) := by decide +kernel
theorem dX9_set_44 : decode cX9_set 44 = .ok (.aload_n 0, 1) := by decide +kernel
theorem dX9_set_45 : decode cX9_set 45 = .ok (.getfield 12, 3) := by decide +kernel
theorem dX9_set_48 : decode cX9_set 48 = .ok (.getfield 101, 3) := by decide +kernel
theorem dX9_set_51 : decode cX9_set 51 = .ok (.istore_n 3, 1) := by decide +kernel
theorem dX9_set_52 : decode cX9_set 52 = .ok (.iload_n 1, 1) := by decide +kernel
theorem dX9_set_53 : decode cX9_set 53 = .ok (.ifCond .ne 14, 3) := by decide +kernel
theorem dX9_set_56 : decode cX9_set 56 = .ok (.aload_n 0, 1) := by decide +kernel
theorem dX9_set_57 : decode cX9_set 57 = .ok (.getfield 12, 3) := by decide +kernel
theorem dX9_set_60 : decode cX9_set 60 = .ok (.iload_n 2, 1) := by decide +kernel
theorem dX9_set_61 : decode cX9_set 61 = .ok (.putfield 94, 3) := by decide +kernel
theorem dX9_set_64 : decode cX9_set 64 = .ok (.goto 27, 3) := by decide +kernel
theorem dX9_set_67 : decode cX9_set 67 = .ok (.iload_n 1, 1) := by decide +kernel
theorem dX9_set_68 : decode cX9_set 68 = .ok (.iconst 1, 1) := by decide +kernel
theorem dX9_set_69 : decode cX9_set 69 = .ok (.if_icmp .ne 14, 3) := by decide +kernel
theorem dX9_set_72 : decode cX9_set 72 = .ok (.aload_n 0, 1) := by decide +kernel
theorem dX9_set_73 : decode cX9_set 73 = .ok (.getfield 12, 3) := by decide +kernel
theorem dX9_set_76 : decode cX9_set 76 = .ok (.iload_n 2, 1) := by decide +kernel
theorem dX9_set_77 : decode cX9_set 77 = .ok (.putfield 98, 3) := by decide +kernel
theorem dX9_set_80 : decode cX9_set 80 = .ok (.goto 11, 3) := by decide +kernel
theorem dX9_set_83 : decode cX9_set 83 = .ok (.aload_n 0, 1) := by decide +kernel
theorem dX9_set_84 : decode cX9_set 84 = .ok (.getfield 12, 3) := by decide +kernel
theorem dX9_set_87 : decode cX9_set 87 = .ok (.iload_n 2, 1) := by decide +kernel
theorem dX9_set_88 : decode cX9_set 88 = .ok (.putfield 101, 3) := by decide +kernel
theorem dX9_set_91 : decode cX9_set 91 = .ok (.iload_n 3, 1) := by decide +kernel
theorem dX9_set_92 : decode cX9_set 92 = .ok (.ireturn, 1) := by decide +kernel
theorem dX9_bell_0 : decode cX9_bell 0 = .ok (.iload_n 1, 1) := by decide +kernel
theorem dX9_bell_1 : decode cX9_bell 1 = .ok (.ifCond .lt 21, 3) := by decide +kernel
theorem dX9_bell_4 : decode cX9_bell 4 = .ok (.iload_n 1, 1) := by decide +kernel
theorem dX9_bell_5 : decode cX9_bell 5 = .ok (.bipush 100, 2) := by decide +kernel
theorem dX9_bell_7 : decode cX9_bell 7 = .ok (.idiv, 1) := by decide +kernel
theorem dX9_bell_8 : decode cX9_bell 8 = .ok (.bipush 7, 2) := by decide +kernel
theorem dX9_bell_10 : decode cX9_bell 10 = .ok (.if_icmp .ge 12, 3) := by decide +kernel
theorem dX9_bell_13 : decode cX9_bell 13 = .ok (.iload_n 1, 1) := by decide +kernel
theorem dX9_bell_14 : decode cX9_bell 14 = .ok (.bipush 100, 2) := by decide +kernel
theorem dX9_bell_16 : decode cX9_bell 16 = .ok (.irem, 1) := by decide +kernel
theorem dX9_bell_17 : decode cX9_bell 17 = .ok (.bipush 24, 2) := by decide +kernel
theorem dX9_bell_19 : decode cX9_bell 19 = .ok (.if_icmp .lt 10, 3) := by decide +kernel
theorem dX9_bell_22 : decode cX9_bell 22 = .ok (.aload_n 0, 1) := by decide +kernel
theorem dX9_bell_23 : decode cX9_bell 23 = .ok (.ldc 81, 2) := by decide +kernel
theorem dX9_bell_25 : decode cX9_bell 25 = .ok (.invokevirtual 82, 3) := by decide +kernel
theorem dX9_bell_28 : decode cX9_bell 28 = .ok (.ireturn, 1) := by decide +kernel
theorem dX9_bell_29 : decode cX9_bell 29 = .ok (.iload_n 2, 1) := by decide +kernel
theorem dX9_bell_30 : decode cX9_bell 30 = .ok (.invokestatic 77, 3) := by decide +kernel
theorem dX9_bell_33 : decode cX9_bell 33 = .ok (.ifCond .eq 13, 3) := by decide +kernel
theorem dX9_bell_36 : decode cX9_bell 36 = .ok (.iload_n 3, 1) := by decide +kernel
theorem dX9_bell_37 : decode cX9_bell 37 = .ok (.ifCond .lt 9, 3) := by decide +kernel
theorem dX9_bell_40 : decode cX9_bell 40 = .ok (.iload_n 3, 1) := by decide +kernel
theorem dX9_bell_41 : decode cX9_bell 41 = .ok (.bipush 99, 2) := by decide +kernel
theorem dX9_bell_43 : decode cX9_bell 43 = .ok (.if_icmp .le 10, 3) := by decide +kernel
theorem dX9_bell_46 : decode cX9_bell 46 = .ok (.aload_n 0, 1) := by decide +kernel
theorem dX9_bell_47 : decode cX9_bell 47 = .ok (.ldc 81, 2) := by decide +kernel
theorem dX9_bell_49 : decode cX9_bell 49 = .ok (.invokevirtual 82, 3) := by decide +kernel
theorem dX9_bell_52 : decode cX9_bell 52 = .ok (.ireturn, 1) := by decide +kernel
theorem dX9_bell_53 : decode cX9_bell 53 = .ok (.aload_n 0, 1) := by decide +kernel
theorem dX9_bell_54 : decode cX9_bell 54 = .ok (.getfield 12, 3) := by decide +kernel
theorem dX9_bell_57 : decode cX9_bell 57 = .ok (.getfield 104, 3) := by decide +kernel
theorem dX9_bell_60 : decode cX9_bell 60 = .ok (.bipush 8, 2) := by decide +kernel
theorem dX9_bell_62 : decode cX9_bell 62 = .ok (.if_icmp .lt 10, 3) := by decide +kernel
theorem dX9_bell_65 : decode cX9_bell 65 = .ok (.aload_n 0, 1) := by decide +kernel
theorem dX9_bell_66 : decode cX9_bell 66 = .ok (.ldc 107, 2) := by decide +kernel
theorem dX9_bell_68 : decode cX9_bell 68 = .ok (.invokevirtual 82, 3) := by decide +kernel
theorem dX9_bell_71 : decode cX9_bell 71 = .ok (.ireturn, 1) := by decide +kernel
theorem dX9_bell_72 : decode cX9_bell 72 = .ok (.aload_n 0, 1) := by decide +kernel
theorem dX9_bell_73 : decode cX9_bell 73 = .ok (.getfield 12, 3) := by decide +kernel
theorem dX9_bell_76 : decode cX9_bell 76 = .ok (.getfield 108, 3) := by decide +kernel
theorem dX9_bell_79 : decode cX9_bell 79 = .ok (.aload_n 0, 1) := by decide +kernel
theorem dX9_bell_80 : decode cX9_bell 80 = .ok (.getfield 12, 3) := by decide +kernel
theorem dX9_bell_83 : decode cX9_bell 83 = .ok (.getfield 104, 3) := by decide +kernel
theorem dX9_bell_86 : decode cX9_bell 86 = .ok (.aaload, 1) := by decide +kernel
theorem dX9_bell_87 : decode cX9_bell 87 = .ok (.iload_n 1, 1) := by decide +kernel
theorem dX9_bell_88 : decode cX9_bell 88 = .ok (.bipush 100, 2) := by decide +kernel
theorem dX9_bell_90 : decode cX9_bell 90 = .ok (.idiv, 1) := by decide +kernel
theorem dX9_bell_91 : decode cX9_bell 91 = .ok (.iload_n 1, 1) := by decide +kernel
theorem dX9_bell_92 : decode cX9_bell 92 = .ok (.bipush 100, 2) := by decide +kernel
theorem dX9_bell_94 : decode cX9_bell 94 = .ok (.irem, 1) := by decide +kernel
theorem dX9_bell_95 : decode cX9_bell 95 = .ok (.iload_n 2, 1) := by decide +kernel
theorem dX9_bell_96 : decode cX9_bell 96 = .ok (.iload_n 3, 1) := by decide +kernel
theorem dX9_bell_97 : decode cX9_bell 97 = .ok (.invokevirtual 112, 3) := by decide +kernel
theorem dX9_bell_100 : decode cX9_bell 100 = .ok (.aload_n 0, 1) := by decide +kernel
theorem dX9_bell_101 : decode cX9_bell 101 = .ok (.getfield 12, 3) := by decide +kernel
theorem dX9_bell_104 : decode cX9_bell 104 = .ok (.dup, 1) := by decide +kernel
theorem dX9_bell_105 : decode cX9_bell 105 = .ok (.getfield 104, 3) := by decide +kernel
theorem dX9_bell_108 : decode cX9_bell 108 = .ok (.iconst 1, 1) := by decide +kernel
theorem dX9_bell_109 : decode cX9_bell 109 = .ok (.iadd, 1) := by decide +kernel
theorem dX9_bell_110 : decode cX9_bell 110 = .ok (.putfield 104, 3) := by decide +kernel
theorem dX9_bell_113 : decode cX9_bell 113 = .ok (.aload_n 0, 1) := by decide +kernel
theorem dX9_bell_114 : decode cX9_bell 114 = .ok (.getfield 12, 3) := by decide +kernel
theorem dX9_bell_117 : decode cX9_bell 117 = .ok (.getfield 104, 3) := by decide +kernel
theorem dX9_bell_120 : decode cX9_bell 120 = .ok (.iconst 1, 1) := by decide +kernel
theorem dX9_bell_121 : decode cX9_bell 121 = .ok (.isub, 1) := by decide +kernel
theorem dX9_bell_122 : decode cX9_bell 122 = .ok (.ireturn, 1) := by decide +kernel
theorem dX9_ofBell_0 : decode cX9_ofBell 0 = .ok (.aload_n 0, 1) := by decide +kernel
theorem dX9_ofBell_1 : decode cX9_ofBell 1 = .ok (.iload_n 1, 1) := by decide +kernel
theorem dX9_ofBell_2 : decode cX9_ofBell 2 = .ok (.invokevirtual 118, 3) := by decide +kernel
theorem dX9_ofBell_5 : decode cX9_ofBell 5 = .ok (.ifCond .eq 13, 3) := by decide +kernel
theorem dX9_ofBell_8 : decode cX9_ofBell 8 = .ok (.iload_n 2, 1) := by decide +kernel
theorem dX9_ofBell_9 : decode cX9_ofBell 9 = .ok (.ifCond .lt 9, 3) := by decide +kernel
theorem dX9_ofBell_12 : decode cX9_ofBell 12 = .ok (.iload_n 2, 1) := by decide +kernel
theorem dX9_ofBell_13 : decode cX9_ofBell 13 = .ok (.bipush 7, 2) := by decide +kernel
theorem dX9_ofBell_15 : decode cX9_ofBell 15 = .ok (.if_icmp .lt 10, 3) := by decide +kernel
theorem dX9_ofBell_18 : decode cX9_ofBell 18 = .ok (.aload_n 0, 1) := by decide +kernel
theorem dX9_ofBell_19 : decode cX9_ofBell 19 = .ok (.ldc 81, 2) := by decide +kernel
theorem dX9_ofBell_21 : decode cX9_ofBell 21 = .ok (.invokevirtual 82, 3) := by decide +kernel
theorem dX9_ofBell_24 : decode cX9_ofBell 24 = .ok (.ireturn, 1) := by decide +kernel
theorem dX9_ofBell_25 : decode cX9_ofBell 25 = .ok (.aload_n 0, 1) := by decide +kernel
theorem dX9_ofBell_26 : decode cX9_ofBell 26 = .ok (.getfield 12, 3) := by decide +kernel
theorem dX9_ofBell_29 : decode cX9_ofBell 29 = .ok (.getfield 108, 3) := by decide +kernel
theorem dX9_ofBell_32 : decode cX9_ofBell 32 = .ok (.iload_n 1, 1) := by decide +kernel
theorem dX9_ofBell_33 : decode cX9_ofBell 33 = .ok (.aaload, 1) := by decide +kernel
theorem dX9_ofBell_34 : decode cX9_ofBell 34 = .ok (.iload_n 2, 1) := by decide +kernel
theorem dX9_ofBell_35 : decode cX9_ofBell 35 = .ok (.invokevirtual 121, 3) := by decide +kernel
theorem dX9_ofBell_38 : decode cX9_ofBell 38 = .ok (.ireturn, 1) := by decide +kernel
theorem dX9_change_0 : decode cX9_change 0 = .ok (.aload_n 0, 1) := by decide +kernel
theorem dX9_change_1 : decode cX9_change 1 = .ok (.iload_n 1, 1) := by decide +kernel
theorem dX9_change_2 : decode cX9_change 2 = .ok (.invokevirtual 118, 3) := by decide +kernel
theorem dX9_change_5 : decode cX9_change 5 = .ok (.ifCond .eq 11, 3) := by decide +kernel
theorem dX9_change_8 : decode cX9_change 8 = .ok (.iload_n 2, 1) := by decide +kernel
theorem dX9_change_9 : decode cX9_change 9 = .ok (.iload_n 3, 1) := by decide +kernel
theorem dX9_change_10 : decode cX9_change 10 = .ok (.invokestatic 124, 3) := by decide +kernel
theorem dX9_change_13 : decode cX9_change 13 = .ok (.ifCond .ne 10, 3) := by decide +kernel
theorem dX9_change_16 : decode cX9_change 16 = .ok (.aload_n 0, 1) := by decide +kernel
theorem dX9_change_17 : decode cX9_change 17 = .ok (.ldc 81, 2) := by decide +kernel
theorem dX9_change_19 : decode cX9_change 19 = .ok (.invokevirtual 82, 3) := by decide +kernel
theorem dX9_change_22 : decode cX9_change 22 = .ok (.ireturn, 1) := by decide +kernel
theorem dX9_change_23 : decode cX9_change 23 = .ok (.aload_n 0, 1) := by decide +kernel
theorem dX9_change_24 : decode cX9_change 24 = .ok (.getfield 12, 3) := by decide +kernel
theorem dX9_change_27 : decode cX9_change 27 = .ok (.getfield 108, 3) := by decide +kernel
theorem dX9_change_30 : decode cX9_change 30 = .ok (.iload_n 1, 1) := by decide +kernel
theorem dX9_change_31 : decode cX9_change 31 = .ok (.aaload, 1) := by decide +kernel
theorem dX9_change_32 : decode cX9_change 32 = .ok (.iload_n 2, 1) := by decide +kernel
theorem dX9_change_33 : decode cX9_change 33 = .ok (.invokevirtual 121, 3) := by decide +kernel
theorem dX9_change_36 : decode cX9_change 36 = .ok (.istore 4, 2) := by decide +kernel
theorem dX9_change_38 : decode cX9_change 38 = .ok (.aload_n 0, 1) := by decide +kernel
theorem dX9_change_39 : decode cX9_change 39 = .ok (.getfield 12, 3) := by decide +kernel
theorem dX9_change_42 : decode cX9_change 42 = .ok (.getfield 108, 3) := by decide +kernel
theorem dX9_change_45 : decode cX9_change 45 = .ok (.iload_n 1, 1) := by decide +kernel
theorem dX9_change_46 : decode cX9_change 46 = .ok (.aaload, 1) := by decide +kernel
theorem dX9_change_47 : decode cX9_change 47 = .ok (.iload_n 2, 1) := by decide +kernel
theorem dX9_change_48 : decode cX9_change 48 = .ok (.iload_n 3, 1) := by decide +kernel
theorem dX9_change_49 : decode cX9_change 49 = .ok (.invokevirtual 127, 3) := by decide +kernel
theorem dX9_change_52 : decode cX9_change 52 = .ok (.iload 4, 2) := by decide +kernel
theorem dX9_change_54 : decode cX9_change 54 = .ok (.ireturn, 1) := by decide +kernel
theorem dX9_as_0 : decode cX9_as 0 = .ok (.aload_n 0, 1) := by decide +kernel
theorem dX9_as_1 : decode cX9_as 1 = .ok (.iload_n 1, 1) := by decide +kernel
theorem dX9_as_2 : decode cX9_as 2 = .ok (.invokevirtual 118, 3) := by decide +kernel
theorem dX9_as_5 : decode cX9_as 5 = .ok (.ifCond .eq 13, 3) := by decide +kernel
theorem dX9_as_8 : decode cX9_as 8 = .ok (.iload_n 2, 1) := by decide +kernel
theorem dX9_as_9 : decode cX9_as 9 = .ok (.ifCond .lt 9, 3) := by decide +kernel
theorem dX9_as_12 : decode cX9_as 12 = .ok (.iload_n 2, 1) := by decide +kernel
theorem dX9_as_13 : decode cX9_as 13 = .ok (.bipush 7, 2) := by decide +kernel
theorem dX9_as_15 : decode cX9_as 15 = .ok (.if_icmp .lt 10, 3) := by decide +kernel
theorem dX9_as_18 : decode cX9_as 18 = .ok (.aload_n 0, 1) := by decide +kernel
theorem dX9_as_19 : decode cX9_as 19 = .ok (.ldc 81, 2) := by decide +kernel
theorem dX9_as_21 : decode cX9_as 21 = .ok (.invokevirtual 82, 3) := by decide +kernel
theorem dX9_as_24 : decode cX9_as 24 = .ok (.ireturn, 1) := by decide +kernel
theorem dX9_as_25 : decode cX9_as 25 = .ok (.aload_n 0, 1) := by decide +kernel
theorem dX9_as_26 : decode cX9_as 26 = .ok (.getfield 12, 3) := by decide +kernel
theorem dX9_as_29 : decode cX9_as 29 = .ok (.getfield 108, 3) := by decide +kernel
theorem dX9_as_32 : decode cX9_as 32 = .ok (.iload_n 1, 1) := by decide +kernel
theorem dX9_as_33 : decode cX9_as 33 = .ok (.aaload, 1) := by decide +kernel
theorem dX9_as_34 : decode cX9_as 34 = .ok (.iload_n 2, 1) := by decide +kernel
theorem dX9_as_35 : decode cX9_as 35 = .ok (.invokevirtual 131, 3) := by decide +kernel
theorem dX9_as_38 : decode cX9_as 38 = .ok (.ifCond .ne 10, 3) := by decide +kernel
theorem dX9_as_41 : decode cX9_as 41 = .ok (.aload_n 0, 1) := by decide +kernel
theorem dX9_as_42 : decode cX9_as 42 = .ok (.ldc 134, 2) := by decide +kernel
theorem dX9_as_44 : decode cX9_as 44 = .ok (.invokevirtual 82, 3) := by decide +kernel
theorem dX9_as_47 : decode cX9_as 47 = .ok (.ireturn, 1) := by decide +kernel
theorem dX9_as_48 : decode cX9_as 48 = .ok (.aload_n 0, 1) := by decide +kernel
theorem dX9_as_49 : decode cX9_as 49 = .ok (.getfield 12, 3) := by decide +kernel
theorem dX9_as_52 : decode cX9_as 52 = .ok (.getfield 108, 3) := by decide +kernel
theorem dX9_as_55 : decode cX9_as 55 = .ok (.iload_n 1, 1) := by decide +kernel
theorem dX9_as_56 : decode cX9_as 56 = .ok (.aaload, 1) := by decide +kernel
theorem dX9_as_57 : decode cX9_as 57 = .ok (.getfield 135, 3) := by decide +kernel
theorem dX9_as_60 : decode cX9_as 60 = .ok (.ireturn, 1) := by decide +kernel
theorem dX9_strikes_0 : decode cX9_strikes 0 = .ok (.aload_n 0, 1) := by decide +kernel
theorem dX9_strikes_1 : decode cX9_strikes 1 = .ok (.iload_n 1, 1) := by decide +kernel
theorem dX9_strikes_2 : decode cX9_strikes 2 = .ok (.invokevirtual 118, 3) := by decide +kernel
theorem dX9_strikes_5 : decode cX9_strikes 5 = .ok (.ifCond .eq 10, 3) := by decide +kernel
theorem dX9_strikes_8 : decode cX9_strikes 8 = .ok (.iload_n 2, 1) := by decide +kernel
theorem dX9_strikes_9 : decode cX9_strikes 9 = .ok (.invokestatic 138, 3) := by decide +kernel
theorem dX9_strikes_12 : decode cX9_strikes 12 = .ok (.ifCond .ne 10, 3) := by decide +kernel
theorem dX9_strikes_15 : decode cX9_strikes 15 = .ok (.aload_n 0, 1) := by decide +kernel
theorem dX9_strikes_16 : decode cX9_strikes 16 = .ok (.ldc 81, 2) := by decide +kernel
theorem dX9_strikes_18 : decode cX9_strikes 18 = .ok (.invokevirtual 82, 3) := by decide +kernel
theorem dX9_strikes_21 : decode cX9_strikes 21 = .ok (.ireturn, 1) := by decide +kernel
theorem dX9_strikes_22 : decode cX9_strikes 22 = .ok (.aload_n 0, 1) := by decide +kernel
theorem dX9_strikes_23 : decode cX9_strikes 23 = .ok (.getfield 12, 3) := by decide +kernel
theorem dX9_strikes_26 : decode cX9_strikes 26 = .ok (.getfield 108, 3) := by decide +kernel
theorem dX9_strikes_29 : decode cX9_strikes 29 = .ok (.iload_n 1, 1) := by decide +kernel
theorem dX9_strikes_30 : decode cX9_strikes 30 = .ok (.aaload, 1) := by decide +kernel
theorem dX9_strikes_31 : decode cX9_strikes 31 = .ok (.iload_n 2, 1) := by decide +kernel
theorem dX9_strikes_32 : decode cX9_strikes 32 = .ok (.invokevirtual 141, 3) := by decide +kernel
theorem dX9_strikes_35 : decode cX9_strikes 35 = .ok (.ifCond .eq 7, 3) := by decide +kernel
theorem dX9_strikes_38 : decode cX9_strikes 38 = .ok (.iconst 1, 1) := by decide +kernel
theorem dX9_strikes_39 : decode cX9_strikes 39 = .ok (.goto 4, 3) := by decide +kernel
theorem dX9_strikes_42 : decode cX9_strikes 42 = .ok (.iconst 0, 1) := by decide +kernel
theorem dX9_strikes_43 : decode cX9_strikes 43 = .ok (.ireturn, 1) := by decide +kernel
theorem dX9_ear_0 : decode cX9_ear 0 = .ok (.iload_n 1, 1) := by decide +kernel
theorem dX9_ear_1 : decode cX9_ear 1 = .ok (.invokestatic 77, 3) := by decide +kernel
theorem dX9_ear_4 : decode cX9_ear 4 = .ok (.ifCond .ne 10, 3) := by decide +kernel
theorem dX9_ear_7 : decode cX9_ear 7 = .ok (.aload_n 0, 1) := by decide +kernel
theorem dX9_ear_8 : decode cX9_ear 8 = .ok (.ldc 81, 2) := by decide +kernel
theorem dX9_ear_10 : decode cX9_ear 10 = .ok (.invokevirtual 82, 3) := by decide +kernel
theorem dX9_ear_13 : decode cX9_ear 13 = .ok (.ireturn, 1) := by decide +kernel
theorem dX9_ear_14 : decode cX9_ear 14 = .ok (.aload_n 0, 1) := by decide +kernel
theorem dX9_ear_15 : decode cX9_ear 15 = .ok (.getfield 12, 3) := by decide +kernel
theorem dX9_ear_18 : decode cX9_ear 18 = .ok (.getfield 144, 3) := by decide +kernel
theorem dX9_ear_21 : decode cX9_ear 21 = .ok (.bipush 10, 2) := by decide +kernel
theorem dX9_ear_23 : decode cX9_ear 23 = .ok (.if_icmp .lt 10, 3) := by decide +kernel
theorem dX9_ear_26 : decode cX9_ear 26 = .ok (.aload_n 0, 1) := by decide +kernel
theorem dX9_ear_27 : decode cX9_ear 27 = .ok (.ldc 107, 2) := by decide +kernel
theorem dX9_ear_29 : decode cX9_ear 29 = .ok (.invokevirtual 82, 3) := by decide +kernel
theorem dX9_ear_32 : decode cX9_ear 32 = .ok (.ireturn, 1) := by decide +kernel
theorem dX9_ear_33 : decode cX9_ear 33 = .ok (.aload_n 0, 1) := by decide +kernel
theorem dX9_ear_34 : decode cX9_ear 34 = .ok (.getfield 12, 3) := by decide +kernel
theorem dX9_ear_37 : decode cX9_ear 37 = .ok (.iload_n 1, 1) := by decide +kernel
theorem dX9_ear_38 : decode cX9_ear 38 = .ok (.invokevirtual 147, 3) := by decide +kernel
theorem dX9_ear_41 : decode cX9_ear 41 = .ok (.aload_n 0, 1) := by decide +kernel
theorem dX9_ear_42 : decode cX9_ear 42 = .ok (.getfield 12, 3) := by decide +kernel
theorem dX9_ear_45 : decode cX9_ear 45 = .ok (.getfield 144, 3) := by decide +kernel
theorem dX9_ear_48 : decode cX9_ear 48 = .ok (.iconst 1, 1) := by decide +kernel
theorem dX9_ear_49 : decode cX9_ear 49 = .ok (.isub, 1) := by decide +kernel
theorem dX9_ear_50 : decode cX9_ear 50 = .ok (.ireturn, 1) := by decide +kernel
theorem dX9_ears_0 : decode cX9_ears 0 = .ok (.iload_n 1, 1) := by decide +kernel
theorem dX9_ears_1 : decode cX9_ears 1 = .ok (.invokestatic 151, 3) := by decide +kernel
theorem dX9_ears_4 : decode cX9_ears 4 = .ok (.ifCond .ne 10, 3) := by decide +kernel
theorem dX9_ears_7 : decode cX9_ears 7 = .ok (.aload_n 0, 1) := by decide +kernel
theorem dX9_ears_8 : decode cX9_ears 8 = .ok (.ldc 81, 2) := by decide +kernel
theorem dX9_ears_10 : decode cX9_ears 10 = .ok (.invokevirtual 82, 3) := by decide +kernel
theorem dX9_ears_13 : decode cX9_ears 13 = .ok (.ireturn, 1) := by decide +kernel
theorem dX9_ears_14 : decode cX9_ears 14 = .ok (.aload_n 0, 1) := by decide +kernel
theorem dX9_ears_15 : decode cX9_ears 15 = .ok (.getfield 61, 3) := by decide +kernel
theorem dX9_ears_18 : decode cX9_ears 18 = .ok (.iload_n 1, 1) := by decide +kernel
theorem dX9_ears_19 : decode cX9_ears 19 = .ok (.invokevirtual 154, 3) := by decide +kernel
theorem dX9_ears_22 : decode cX9_ears 22 = .ok (.ifCond .eq 10, 3) := by decide +kernel
theorem dX9_ears_25 : decode cX9_ears 25 = .ok (.aload_n 0, 1) := by decide +kernel
theorem dX9_ears_26 : decode cX9_ears 26 = .ok (.ldc 157, 2) := by decide +kernel
theorem dX9_ears_28 : decode cX9_ears 28 = .ok (.invokevirtual 82, 3) := by decide +kernel
theorem dX9_ears_31 : decode cX9_ears 31 = .ok (.ireturn, 1) := by decide +kernel
theorem dX9_ears_32 : decode cX9_ears 32 = .ok (.iconst 0, 1) := by decide +kernel
theorem dX9_ears_33 : decode cX9_ears 33 = .ok (.istore_n 2, 1) := by decide +kernel
theorem dX9_ears_34 : decode cX9_ears 34 = .ok (.iconst 0, 1) := by decide +kernel
theorem dX9_ears_35 : decode cX9_ears 35 = .ok (.istore_n 3, 1) := by decide +kernel
theorem dX9_ears_36 : decode cX9_ears 36 = .ok (.iload_n 3, 1) := by decide +kernel
theorem dX9_ears_37 : decode cX9_ears 37 = .ok (.aload_n 0, 1) := by decide +kernel
theorem dX9_ears_38 : decode cX9_ears 38 = .ok (.getfield 61, 3) := by decide +kernel
theorem dX9_ears_41 : decode cX9_ears 41 = .ok (.iload_n 1, 1) := by decide +kernel
theorem dX9_ears_42 : decode cX9_ears 42 = .ok (.invokevirtual 158, 3) := by decide +kernel
theorem dX9_ears_45 : decode cX9_ears 45 = .ok (.if_icmp .ge 55, 3) := by decide +kernel
theorem dX9_ears_48 : decode cX9_ears 48 = .ok (.aload_n 0, 1) := by decide +kernel
theorem dX9_ears_49 : decode cX9_ears 49 = .ok (.getfield 61, 3) := by decide +kernel
theorem dX9_ears_52 : decode cX9_ears 52 = .ok (.iload_n 1, 1) := by decide +kernel
theorem dX9_ears_53 : decode cX9_ears 53 = .ok (.iload_n 3, 1) := by decide +kernel
theorem dX9_ears_54 : decode cX9_ears 54 = .ok (.invokevirtual 161, 3) := by decide +kernel
theorem dX9_ears_57 : decode cX9_ears 57 = .ok (.istore 4, 2) := by decide +kernel
theorem dX9_ears_59 : decode cX9_ears 59 = .ok (.iload 4, 2) := by decide +kernel
theorem dX9_ears_61 : decode cX9_ears 61 = .ok (.invokestatic 77, 3) := by decide +kernel
theorem dX9_ears_64 : decode cX9_ears 64 = .ok (.ifCond .eq 36, 3) := by decide +kernel
theorem dX9_ears_67 : decode cX9_ears 67 = .ok (.aload_n 0, 1) := by decide +kernel
theorem dX9_ears_68 : decode cX9_ears 68 = .ok (.getfield 12, 3) := by decide +kernel
theorem dX9_ears_71 : decode cX9_ears 71 = .ok (.getfield 144, 3) := by decide +kernel
theorem dX9_ears_74 : decode cX9_ears 74 = .ok (.bipush 10, 2) := by decide +kernel
theorem dX9_ears_76 : decode cX9_ears 76 = .ok (.if_icmp .lt 6, 3) := by decide +kernel
theorem dX9_ears_79 : decode cX9_ears 79 = .ok (.goto 21, 3) := by decide +kernel
theorem dX9_ears_82 : decode cX9_ears 82 = .ok (.aload_n 0, 1) := by decide +kernel
theorem dX9_ears_83 : decode cX9_ears 83 = .ok (.getfield 12, 3) := by decide +kernel
theorem dX9_ears_86 : decode cX9_ears 86 = .ok (.iload 4, 2) := by decide +kernel
theorem dX9_ears_88 : decode cX9_ears 88 = .ok (.invokevirtual 147, 3) := by decide +kernel
theorem dX9_ears_91 : decode cX9_ears 91 = .ok (.iinc 2 1, 3) := by decide +kernel
theorem dX9_ears_94 : decode cX9_ears 94 = .ok (.iinc 3 1, 3) := by decide +kernel
theorem dX9_ears_97 : decode cX9_ears 97 = .ok (.goto (-61), 3) := by decide +kernel
theorem dX9_ears_100 : decode cX9_ears 100 = .ok (.iload_n 2, 1) := by decide +kernel
theorem dX9_ears_101 : decode cX9_ears 101 = .ok (.ireturn, 1) := by decide +kernel
theorem dX9_way_0 : decode cX9_way 0 = .ok (.aload_n 0, 1) := by decide +kernel
theorem dX9_way_1 : decode cX9_way 1 = .ok (.iload_n 1, 1) := by decide +kernel
theorem dX9_way_2 : decode cX9_way 2 = .ok (.invokevirtual 118, 3) := by decide +kernel
theorem dX9_way_5 : decode cX9_way 5 = .ok (.ifCond .eq 11, 3) := by decide +kernel
theorem dX9_way_8 : decode cX9_way 8 = .ok (.aload_n 0, 1) := by decide +kernel
theorem dX9_way_9 : decode cX9_way 9 = .ok (.iload_n 2, 1) := by decide +kernel
theorem dX9_way_10 : decode cX9_way 10 = .ok (.invokevirtual 164, 3) := by decide +kernel
theorem dX9_way_13 : decode cX9_way 13 = .ok (.ifCond .ne 10, 3) := by decide +kernel
theorem dX9_way_16 : decode cX9_way 16 = .ok (.aload_n 0, 1) := by decide +kernel
theorem dX9_way_17 : decode cX9_way 17 = .ok (.ldc 81, 2) := by decide +kernel
theorem dX9_way_19 : decode cX9_way 19 = .ok (.invokevirtual 82, 3) := by decide +kernel
theorem dX9_way_22 : decode cX9_way 22 = .ok (.ireturn, 1) := by decide +kernel
theorem dX9_way_23 : decode cX9_way 23 = .ok (.aload_n 0, 1) := by decide +kernel
theorem dX9_way_24 : decode cX9_way 24 = .ok (.getfield 12, 3) := by decide +kernel
theorem dX9_way_27 : decode cX9_way 27 = .ok (.getfield 108, 3) := by decide +kernel
theorem dX9_way_30 : decode cX9_way 30 = .ok (.iload_n 1, 1) := by decide +kernel
theorem dX9_way_31 : decode cX9_way 31 = .ok (.aaload, 1) := by decide +kernel
theorem dX9_way_32 : decode cX9_way 32 = .ok (.astore 4, 2) := by decide +kernel
theorem dX9_way_34 : decode cX9_way 34 = .ok (.aload_n 0, 1) := by decide +kernel
theorem dX9_way_35 : decode cX9_way 35 = .ok (.getfield 12, 3) := by decide +kernel
theorem dX9_way_38 : decode cX9_way 38 = .ok (.getfield 167, 3) := by decide +kernel
theorem dX9_way_41 : decode cX9_way 41 = .ok (.iload_n 2, 1) := by decide +kernel
theorem dX9_way_42 : decode cX9_way 42 = .ok (.iaload, 1) := by decide +kernel
theorem dX9_way_43 : decode cX9_way 43 = .ok (.istore 5, 2) := by decide +kernel
theorem dX9_way_45 : decode cX9_way 45 = .ok (.iload_n 3, 1) := by decide +kernel
theorem dX9_way_46 : decode cX9_way 46 = .ok (.tableswitch 135 0 4 #[34, 46, 61, 79, 111], 34) := by decide +kernel
theorem dX9_way_80 : decode cX9_way 80 = .ok (.aload 4, 2) := by decide +kernel
theorem dX9_way_82 : decode cX9_way 82 = .ok (.getfield 170, 3) := by decide +kernel
theorem dX9_way_85 : decode cX9_way 85 = .ok (.iload 5, 2) := by decide +kernel
theorem dX9_way_87 : decode cX9_way 87 = .ok (.isub, 1) := by decide +kernel
theorem dX9_way_88 : decode cX9_way 88 = .ok (.invokestatic 173, 3) := by decide +kernel
theorem dX9_way_91 : decode cX9_way 91 = .ok (.ireturn, 1) := by decide +kernel
theorem dX9_way_92 : decode cX9_way 92 = .ok (.aload_n 0, 1) := by decide +kernel
theorem dX9_way_93 : decode cX9_way 93 = .ok (.getfield 12, 3) := by decide +kernel
theorem dX9_way_96 : decode cX9_way 96 = .ok (.aload 4, 2) := by decide +kernel
theorem dX9_way_98 : decode cX9_way 98 = .ok (.getfield 170, 3) := by decide +kernel
theorem dX9_way_101 : decode cX9_way 101 = .ok (.iload 5, 2) := by decide +kernel
theorem dX9_way_103 : decode cX9_way 103 = .ok (.invokevirtual 178, 3) := by decide +kernel
theorem dX9_way_106 : decode cX9_way 106 = .ok (.ireturn, 1) := by decide +kernel
theorem dX9_way_107 : decode cX9_way 107 = .ok (.aload 4, 2) := by decide +kernel
theorem dX9_way_109 : decode cX9_way 109 = .ok (.getfield 170, 3) := by decide +kernel
theorem dX9_way_112 : decode cX9_way 112 = .ok (.iload 5, 2) := by decide +kernel
theorem dX9_way_114 : decode cX9_way 114 = .ok (.aload_n 0, 1) := by decide +kernel
theorem dX9_way_115 : decode cX9_way 115 = .ok (.getfield 12, 3) := by decide +kernel
theorem dX9_way_118 : decode cX9_way 118 = .ok (.getfield 94, 3) := by decide +kernel
theorem dX9_way_121 : decode cX9_way 121 = .ok (.invokestatic 181, 3) := by decide +kernel
theorem dX9_way_124 : decode cX9_way 124 = .ok (.ireturn, 1) := by decide +kernel
theorem dX9_way_125 : decode cX9_way 125 = .ok (.aload_n 0, 1) := by decide +kernel
theorem dX9_way_126 : decode cX9_way 126 = .ok (.getfield 12, 3) := by decide +kernel
theorem dX9_way_129 : decode cX9_way 129 = .ok (.aload 4, 2) := by decide +kernel
theorem dX9_way_131 : decode cX9_way 131 = .ok (.getfield 185, 3) := by decide +kernel
theorem dX9_way_134 : decode cX9_way 134 = .ok (.aload 4, 2) := by decide +kernel
theorem dX9_way_136 : decode cX9_way 136 = .ok (.getfield 135, 3) := by decide +kernel
theorem dX9_way_139 : decode cX9_way 139 = .ok (.aload 4, 2) := by decide +kernel
theorem dX9_way_141 : decode cX9_way 141 = .ok (.getfield 170, 3) := by decide +kernel
theorem dX9_way_144 : decode cX9_way 144 = .ok (.iload 5, 2) := by decide +kernel
theorem dX9_way_146 : decode cX9_way 146 = .ok (.aload_n 0, 1) := by decide +kernel
theorem dX9_way_147 : decode cX9_way 147 = .ok (.getfield 12, 3) := by decide +kernel
theorem dX9_way_150 : decode cX9_way 150 = .ok (.getfield 94, 3) := by decide +kernel
theorem dX9_way_153 : decode cX9_way 153 = .ok (.invokevirtual 188, 3) := by decide +kernel
theorem dX9_way_156 : decode cX9_way 156 = .ok (.ireturn, 1) := by decide +kernel
theorem dX9_way_157 : decode cX9_way 157 = .ok (.aload 4, 2) := by decide +kernel
theorem dX9_way_159 : decode cX9_way 159 = .ok (.getfield 192, 3) := by decide +kernel
theorem dX9_way_162 : decode cX9_way 162 = .ok (.aload 4, 2) := by decide +kernel
theorem dX9_way_164 : decode cX9_way 164 = .ok (.getfield 170, 3) := by decide +kernel
theorem dX9_way_167 : decode cX9_way 167 = .ok (.iload 5, 2) := by decide +kernel
theorem dX9_way_169 : decode cX9_way 169 = .ok (.aload_n 0, 1) := by decide +kernel
theorem dX9_way_170 : decode cX9_way 170 = .ok (.getfield 12, 3) := by decide +kernel
theorem dX9_way_173 : decode cX9_way 173 = .ok (.getfield 94, 3) := by decide +kernel
theorem dX9_way_176 : decode cX9_way 176 = .ok (.invokestatic 181, 3) := by decide +kernel
theorem dX9_way_179 : decode cX9_way 179 = .ok (.iadd, 1) := by decide +kernel
theorem dX9_way_180 : decode cX9_way 180 = .ok (.ireturn, 1) := by decide +kernel
theorem dX9_way_181 : decode cX9_way 181 = .ok (.aload_n 0, 1) := by decide +kernel
theorem dX9_way_182 : decode cX9_way 182 = .ok (.ldc 81, 2) := by decide +kernel
theorem dX9_way_184 : decode cX9_way 184 = .ok (.invokevirtual 82, 3) := by decide +kernel
theorem dX9_way_187 : decode cX9_way 187 = .ok (.ireturn, 1) := by decide +kernel
theorem dX9_heard_0 : decode cX9_heard 0 = .ok (.aload_n 0, 1) := by decide +kernel
theorem dX9_heard_1 : decode cX9_heard 1 = .ok (.iload_n 1, 1) := by decide +kernel
theorem dX9_heard_2 : decode cX9_heard 2 = .ok (.invokevirtual 164, 3) := by decide +kernel
theorem dX9_heard_5 : decode cX9_heard 5 = .ok (.ifCond .eq 10, 3) := by decide +kernel
theorem dX9_heard_8 : decode cX9_heard 8 = .ok (.iload_n 2, 1) := by decide +kernel
theorem dX9_heard_9 : decode cX9_heard 9 = .ok (.invokestatic 138, 3) := by decide +kernel
theorem dX9_heard_12 : decode cX9_heard 12 = .ok (.ifCond .ne 10, 3) := by decide +kernel
theorem dX9_heard_15 : decode cX9_heard 15 = .ok (.aload_n 0, 1) := by decide +kernel
theorem dX9_heard_16 : decode cX9_heard 16 = .ok (.ldc 81, 2) := by decide +kernel
theorem dX9_heard_18 : decode cX9_heard 18 = .ok (.invokevirtual 82, 3) := by decide +kernel
theorem dX9_heard_21 : decode cX9_heard 21 = .ok (.ireturn, 1) := by decide +kernel
theorem dX9_heard_22 : decode cX9_heard 22 = .ok (.aload_n 0, 1) := by decide +kernel
theorem dX9_heard_23 : decode cX9_heard 23 = .ok (.getfield 31, 3) := by decide +kernel
theorem dX9_heard_26 : decode cX9_heard 26 = .ok (.iload_n 2, 1) := by decide +kernel
theorem dX9_heard_27 : decode cX9_heard 27 = .ok (.aload_n 0, 1) := by decide +kernel
theorem dX9_heard_28 : decode cX9_heard 28 = .ok (.getfield 12, 3) := by decide +kernel
theorem dX9_heard_31 : decode cX9_heard 31 = .ok (.getfield 94, 3) := by decide +kernel
theorem dX9_heard_34 : decode cX9_heard 34 = .ok (.invokevirtual 195, 3) := by decide +kernel
theorem dX9_heard_37 : decode cX9_heard 37 = .ok (.aload_n 0, 1) := by decide +kernel
theorem dX9_heard_38 : decode cX9_heard 38 = .ok (.getfield 31, 3) := by decide +kernel
theorem dX9_heard_41 : decode cX9_heard 41 = .ok (.iload_n 1, 1) := by decide +kernel
theorem dX9_heard_42 : decode cX9_heard 42 = .ok (.invokevirtual 198, 3) := by decide +kernel
theorem dX9_heard_45 : decode cX9_heard 45 = .ok (.ireturn, 1) := by decide +kernel
theorem dX9_feed_0 : decode cX9_feed 0 = .ok (.iload_n 3, 1) := by decide +kernel
theorem dX9_feed_1 : decode cX9_feed 1 = .ok (.iconst 1, 1) := by decide +kernel
theorem dX9_feed_2 : decode cX9_feed 2 = .ok (.if_icmp .lt 9, 3) := by decide +kernel
theorem dX9_feed_5 : decode cX9_feed 5 = .ok (.iload_n 3, 1) := by decide +kernel
theorem dX9_feed_6 : decode cX9_feed 6 = .ok (.bipush 8, 2) := by decide +kernel
theorem dX9_feed_8 : decode cX9_feed 8 = .ok (.if_icmp .le 10, 3) := by decide +kernel
theorem dX9_feed_11 : decode cX9_feed 11 = .ok (.aload_n 0, 1) := by decide +kernel
theorem dX9_feed_12 : decode cX9_feed 12 = .ok (.ldc 81, 2) := by decide +kernel
theorem dX9_feed_14 : decode cX9_feed 14 = .ok (.invokevirtual 82, 3) := by decide +kernel
theorem dX9_feed_17 : decode cX9_feed 17 = .ok (.ireturn, 1) := by decide +kernel
theorem dX9_feed_18 : decode cX9_feed 18 = .ok (.aload_n 0, 1) := by decide +kernel
theorem dX9_feed_19 : decode cX9_feed 19 = .ok (.getfield 12, 3) := by decide +kernel
theorem dX9_feed_22 : decode cX9_feed 22 = .ok (.getfield 201, 3) := by decide +kernel
theorem dX9_feed_25 : decode cX9_feed 25 = .ok (.iload_n 3, 1) := by decide +kernel
theorem dX9_feed_26 : decode cX9_feed 26 = .ok (.iadd, 1) := by decide +kernel
theorem dX9_feed_27 : decode cX9_feed 27 = .ok (.bipush 50, 2) := by decide +kernel
theorem dX9_feed_29 : decode cX9_feed 29 = .ok (.if_icmp .le 10, 3) := by decide +kernel
theorem dX9_feed_32 : decode cX9_feed 32 = .ok (.aload_n 0, 1) := by decide +kernel
theorem dX9_feed_33 : decode cX9_feed 33 = .ok (.ldc 107, 2) := by decide +kernel
theorem dX9_feed_35 : decode cX9_feed 35 = .ok (.invokevirtual 82, 3) := by decide +kernel
theorem dX9_feed_38 : decode cX9_feed 38 = .ok (.ireturn, 1) := by decide +kernel
theorem dX9_feed_39 : decode cX9_feed 39 = .ok (.iconst 0, 1) := by decide +kernel
theorem dX9_feed_40 : decode cX9_feed 40 = .ok (.istore 4, 2) := by decide +kernel
theorem dX9_feed_42 : decode cX9_feed 42 = .ok (.iload 4, 2) := by decide +kernel
theorem dX9_feed_44 : decode cX9_feed 44 = .ok (.iload_n 3, 1) := by decide +kernel
theorem dX9_feed_45 : decode cX9_feed 45 = .ok (.if_icmp .ge 28, 3) := by decide +kernel
theorem dX9_feed_48 : decode cX9_feed 48 = .ok (.aload_n 0, 1) := by decide +kernel
theorem dX9_feed_49 : decode cX9_feed 49 = .ok (.getfield 12, 3) := by decide +kernel
theorem dX9_feed_52 : decode cX9_feed 52 = .ok (.lload_n 1, 1) := by decide +kernel
theorem dX9_feed_53 : decode cX9_feed 53 = .ok (.bipush 8, 2) := by decide +kernel
theorem dX9_feed_55 : decode cX9_feed 55 = .ok (.iload 4, 2) := by decide +kernel
theorem dX9_feed_57 : decode cX9_feed 57 = .ok (.imul, 1) := by decide +kernel
theorem dX9_feed_58 : decode cX9_feed 58 = .ok (.lushr, 1) := by decide +kernel
theorem dX9_feed_59 : decode cX9_feed 59 = .ok (.l2i, 1) := by decide +kernel
theorem dX9_feed_60 : decode cX9_feed 60 = .ok (.sipush 255, 3) := by decide +kernel
theorem dX9_feed_63 : decode cX9_feed 63 = .ok (.iand, 1) := by decide +kernel
theorem dX9_feed_64 : decode cX9_feed 64 = .ok (.invokevirtual 204, 3) := by decide +kernel
theorem dX9_feed_67 : decode cX9_feed 67 = .ok (.iinc 4 1, 3) := by decide +kernel
theorem dX9_feed_70 : decode cX9_feed 70 = .ok (.goto (-28), 3) := by decide +kernel
theorem dX9_feed_73 : decode cX9_feed 73 = .ok (.aload_n 0, 1) := by decide +kernel
theorem dX9_feed_74 : decode cX9_feed 74 = .ok (.getfield 12, 3) := by decide +kernel
theorem dX9_feed_77 : decode cX9_feed 77 = .ok (.getfield 201, 3) := by decide +kernel
theorem dX9_feed_80 : decode cX9_feed 80 = .ok (.ireturn, 1) := by decide +kernel
theorem dX9_text_0 : decode cX9_text 0 = .ok (.iload_n 1, 1) := by decide +kernel
theorem dX9_text_1 : decode cX9_text 1 = .ok (.invokestatic 207, 3) := by decide +kernel
theorem dX9_text_4 : decode cX9_text 4 = .ok (.ifCond .ne 10, 3) := by decide +kernel
theorem dX9_text_7 : decode cX9_text 7 = .ok (.aload_n 0, 1) := by decide +kernel
theorem dX9_text_8 : decode cX9_text 8 = .ok (.ldc 81, 2) := by decide +kernel
theorem dX9_text_10 : decode cX9_text 10 = .ok (.invokevirtual 82, 3) := by decide +kernel
theorem dX9_text_13 : decode cX9_text 13 = .ok (.ireturn, 1) := by decide +kernel
theorem dX9_text_14 : decode cX9_text 14 = .ok (.aload_n 0, 1) := by decide +kernel
theorem dX9_text_15 : decode cX9_text 15 = .ok (.iload_n 1, 1) := by decide +kernel
theorem dX9_text_16 : decode cX9_text 16 = .ok (.invokevirtual 210, 3) := by decide +kernel
theorem dX9_text_19 : decode cX9_text 19 = .ok (.istore_n 2, 1) := by decide +kernel
theorem dX9_text_20 : decode cX9_text 20 = .ok (.iload_n 2, 1) := by decide +kernel
theorem dX9_text_21 : decode cX9_text 21 = .ok (.ifCond .ge 7, 3) := by decide +kernel
theorem dX9_text_24 : decode cX9_text 24 = .ok (.iconst 1, 1) := by decide +kernel
theorem dX9_text_25 : decode cX9_text 25 = .ok (.goto 7, 3) := by decide +kernel
theorem dX9_text_28 : decode cX9_text 28 = .ok (.bipush (-10), 2) := by decide +kernel
theorem dX9_text_30 : decode cX9_text 30 = .ok (.iload_n 2, 1) := by decide +kernel
theorem dX9_text_31 : decode cX9_text 31 = .ok (.isub, 1) := by decide +kernel
theorem dX9_text_32 : decode cX9_text 32 = .ok (.ireturn, 1) := by decide +kernel
theorem dX9_law_0 : decode cX9_law 0 = .ok (.iload_n 1, 1) := by decide +kernel
theorem dX9_law_1 : decode cX9_law 1 = .ok (.invokestatic 207, 3) := by decide +kernel
theorem dX9_law_4 : decode cX9_law 4 = .ok (.ifCond .ne 10, 3) := by decide +kernel
theorem dX9_law_7 : decode cX9_law 7 = .ok (.aload_n 0, 1) := by decide +kernel
theorem dX9_law_8 : decode cX9_law 8 = .ok (.ldc 81, 2) := by decide +kernel
theorem dX9_law_10 : decode cX9_law 10 = .ok (.invokevirtual 82, 3) := by decide +kernel
theorem dX9_law_13 : decode cX9_law 13 = .ok (.ireturn, 1) := by decide +kernel
theorem dX9_law_14 : decode cX9_law 14 = .ok (.iload_n 1, 1) := by decide +kernel
theorem dX9_law_15 : decode cX9_law 15 = .ok (.ifCond .ne 23, 3) := by decide +kernel
theorem dX9_law_18 : decode cX9_law 18 = .ok (.aload_n 0, 1) := by decide +kernel
theorem dX9_law_19 : decode cX9_law 19 = .ok (.getfield 12, 3) := by decide +kernel
theorem dX9_law_22 : decode cX9_law 22 = .ok (.getfield 213, 3) := by decide +kernel
theorem dX9_law_25 : decode cX9_law 25 = .ok (.iload_n 2, 1) := by decide +kernel
theorem dX9_law_26 : decode cX9_law 26 = .ok (.iload_n 3, 1) := by decide +kernel
theorem dX9_law_27 : decode cX9_law 27 = .ok (.iload 4, 2) := by decide +kernel
theorem dX9_law_29 : decode cX9_law 29 = .ok (.iload 5, 2) := by decide +kernel
theorem dX9_law_31 : decode cX9_law 31 = .ok (.iconst 0, 1) := by decide +kernel
theorem dX9_law_32 : decode cX9_law 32 = .ok (.invokevirtual 217, 3) := by decide +kernel
theorem dX9_law_35 : decode cX9_law 35 = .ok (.goto 14, 3) := by decide +kernel
theorem dX9_law_38 : decode cX9_law 38 = .ok (.aload_n 0, 1) := by decide +kernel
theorem dX9_law_39 : decode cX9_law 39 = .ok (.getfield 12, 3) := by decide +kernel
theorem dX9_law_42 : decode cX9_law 42 = .ok (.iload_n 2, 1) := by decide +kernel
theorem dX9_law_43 : decode cX9_law 43 = .ok (.iload_n 3, 1) := by decide +kernel
theorem dX9_law_44 : decode cX9_law 44 = .ok (.iload 4, 2) := by decide +kernel
theorem dX9_law_46 : decode cX9_law 46 = .ok (.invokevirtual 222, 3) := by decide +kernel
theorem dX9_law_49 : decode cX9_law 49 = .ok (.ireturn, 1) := by decide +kernel
theorem dX9_clashes_0 : decode cX9_clashes 0 = .ok (.iload_n 1, 1) := by decide +kernel
theorem dX9_clashes_1 : decode cX9_clashes 1 = .ok (.invokestatic 138, 3) := by decide +kernel
theorem dX9_clashes_4 : decode cX9_clashes 4 = .ok (.ifCond .eq 10, 3) := by decide +kernel
theorem dX9_clashes_7 : decode cX9_clashes 7 = .ok (.iload_n 2, 1) := by decide +kernel
theorem dX9_clashes_8 : decode cX9_clashes 8 = .ok (.invokestatic 225, 3) := by decide +kernel
theorem dX9_clashes_11 : decode cX9_clashes 11 = .ok (.ifCond .ne 10, 3) := by decide +kernel
theorem dX9_clashes_14 : decode cX9_clashes 14 = .ok (.aload_n 0, 1) := by decide +kernel
theorem dX9_clashes_15 : decode cX9_clashes 15 = .ok (.ldc 81, 2) := by decide +kernel
theorem dX9_clashes_17 : decode cX9_clashes 17 = .ok (.invokevirtual 82, 3) := by decide +kernel
theorem dX9_clashes_20 : decode cX9_clashes 20 = .ok (.ireturn, 1) := by decide +kernel
theorem dX9_clashes_21 : decode cX9_clashes 21 = .ok (.aload_n 0, 1) := by decide +kernel
theorem dX9_clashes_22 : decode cX9_clashes 22 = .ok (.getfield 31, 3) := by decide +kernel
theorem dX9_clashes_25 : decode cX9_clashes 25 = .ok (.iload_n 1, 1) := by decide +kernel
theorem dX9_clashes_26 : decode cX9_clashes 26 = .ok (.aload_n 0, 1) := by decide +kernel
theorem dX9_clashes_27 : decode cX9_clashes 27 = .ok (.getfield 12, 3) := by decide +kernel
theorem dX9_clashes_30 : decode cX9_clashes 30 = .ok (.getfield 94, 3) := by decide +kernel
theorem dX9_clashes_33 : decode cX9_clashes 33 = .ok (.invokevirtual 195, 3) := by decide +kernel
theorem dX9_clashes_36 : decode cX9_clashes 36 = .ok (.iload_n 2, 1) := by decide +kernel
theorem dX9_clashes_37 : decode cX9_clashes 37 = .ok (.ifCond .ne 13, 3) := by decide +kernel
theorem dX9_clashes_40 : decode cX9_clashes 40 = .ok (.aload_n 0, 1) := by decide +kernel
theorem dX9_clashes_41 : decode cX9_clashes 41 = .ok (.getfield 31, 3) := by decide +kernel
theorem dX9_clashes_44 : decode cX9_clashes 44 = .ok (.invokevirtual 228, 3) := by decide +kernel
theorem dX9_clashes_47 : decode cX9_clashes 47 = .ok (.goto 10, 3) := by decide +kernel
theorem dX9_clashes_50 : decode cX9_clashes 50 = .ok (.aload_n 0, 1) := by decide +kernel
theorem dX9_clashes_51 : decode cX9_clashes 51 = .ok (.getfield 31, 3) := by decide +kernel
theorem dX9_clashes_54 : decode cX9_clashes 54 = .ok (.invokevirtual 232, 3) := by decide +kernel
theorem dX9_clashes_57 : decode cX9_clashes 57 = .ok (.ireturn, 1) := by decide +kernel
theorem dX9_clash_0 : decode cX9_clash 0 = .ok (.aload_n 0, 1) := by decide +kernel
theorem dX9_clash_1 : decode cX9_clash 1 = .ok (.iload_n 1, 1) := by decide +kernel
theorem dX9_clash_2 : decode cX9_clash 2 = .ok (.invokevirtual 118, 3) := by decide +kernel
theorem dX9_clash_5 : decode cX9_clash 5 = .ok (.ifCond .eq 10, 3) := by decide +kernel
theorem dX9_clash_8 : decode cX9_clash 8 = .ok (.iload_n 2, 1) := by decide +kernel
theorem dX9_clash_9 : decode cX9_clash 9 = .ok (.invokestatic 138, 3) := by decide +kernel
theorem dX9_clash_12 : decode cX9_clash 12 = .ok (.ifCond .ne 10, 3) := by decide +kernel
theorem dX9_clash_15 : decode cX9_clash 15 = .ok (.aload_n 0, 1) := by decide +kernel
theorem dX9_clash_16 : decode cX9_clash 16 = .ok (.ldc 81, 2) := by decide +kernel
theorem dX9_clash_18 : decode cX9_clash 18 = .ok (.invokevirtual 82, 3) := by decide +kernel
theorem dX9_clash_21 : decode cX9_clash 21 = .ok (.ireturn, 1) := by decide +kernel
theorem dX9_clash_22 : decode cX9_clash 22 = .ok (.aload_n 0, 1) := by decide +kernel
theorem dX9_clash_23 : decode cX9_clash 23 = .ok (.getfield 31, 3) := by decide +kernel
theorem dX9_clash_26 : decode cX9_clash 26 = .ok (.iload_n 2, 1) := by decide +kernel
theorem dX9_clash_27 : decode cX9_clash 27 = .ok (.aload_n 0, 1) := by decide +kernel
theorem dX9_clash_28 : decode cX9_clash 28 = .ok (.getfield 12, 3) := by decide +kernel
theorem dX9_clash_31 : decode cX9_clash 31 = .ok (.getfield 94, 3) := by decide +kernel
theorem dX9_clash_34 : decode cX9_clash 34 = .ok (.invokevirtual 195, 3) := by decide +kernel
theorem dX9_clash_37 : decode cX9_clash 37 = .ok (.aload_n 0, 1) := by decide +kernel
theorem dX9_clash_38 : decode cX9_clash 38 = .ok (.getfield 31, 3) := by decide +kernel
theorem dX9_clash_41 : decode cX9_clash 41 = .ok (.iload_n 1, 1) := by decide +kernel
theorem dX9_clash_42 : decode cX9_clash 42 = .ok (.invokevirtual 235, 3) := by decide +kernel
theorem dX9_clash_45 : decode cX9_clash 45 = .ok (.ireturn, 1) := by decide +kernel
theorem dX9_quiet_0 : decode cX9_quiet 0 = .ok (.iload_n 1, 1) := by decide +kernel
theorem dX9_quiet_1 : decode cX9_quiet 1 = .ok (.invokestatic 225, 3) := by decide +kernel
theorem dX9_quiet_4 : decode cX9_quiet 4 = .ok (.ifCond .ne 10, 3) := by decide +kernel
theorem dX9_quiet_7 : decode cX9_quiet 7 = .ok (.aload_n 0, 1) := by decide +kernel
theorem dX9_quiet_8 : decode cX9_quiet 8 = .ok (.ldc 81, 2) := by decide +kernel
theorem dX9_quiet_10 : decode cX9_quiet 10 = .ok (.invokevirtual 82, 3) := by decide +kernel
theorem dX9_quiet_13 : decode cX9_quiet 13 = .ok (.ireturn, 1) := by decide +kernel
theorem dX9_quiet_14 : decode cX9_quiet 14 = .ok (.aload_n 0, 1) := by decide +kernel
theorem dX9_quiet_15 : decode cX9_quiet 15 = .ok (.getfield 31, 3) := by decide +kernel
theorem dX9_quiet_18 : decode cX9_quiet 18 = .ok (.invokevirtual 238, 3) := by decide +kernel
theorem dX9_quiet_21 : decode cX9_quiet 21 = .ok (.istore_n 2, 1) := by decide +kernel
theorem dX9_quiet_22 : decode cX9_quiet 22 = .ok (.iload_n 1, 1) := by decide +kernel
theorem dX9_quiet_23 : decode cX9_quiet 23 = .ok (.ifCond .ne 7, 3) := by decide +kernel
theorem dX9_quiet_26 : decode cX9_quiet 26 = .ok (.iload_n 2, 1) := by decide +kernel
theorem dX9_quiet_27 : decode cX9_quiet 27 = .ok (.goto 11, 3) := by decide +kernel
theorem dX9_quiet_30 : decode cX9_quiet 30 = .ok (.aload_n 0, 1) := by decide +kernel
theorem dX9_quiet_31 : decode cX9_quiet 31 = .ok (.getfield 31, 3) := by decide +kernel
theorem dX9_quiet_34 : decode cX9_quiet 34 = .ok (.iload_n 2, 1) := by decide +kernel
theorem dX9_quiet_35 : decode cX9_quiet 35 = .ok (.invokevirtual 241, 3) := by decide +kernel
theorem dX9_quiet_38 : decode cX9_quiet 38 = .ok (.ireturn, 1) := by decide +kernel
theorem dX9_apart_0 : decode cX9_apart 0 = .ok (.aload_n 0, 1) := by decide +kernel
theorem dX9_apart_1 : decode cX9_apart 1 = .ok (.iload_n 1, 1) := by decide +kernel
theorem dX9_apart_2 : decode cX9_apart 2 = .ok (.invokevirtual 118, 3) := by decide +kernel
theorem dX9_apart_5 : decode cX9_apart 5 = .ok (.ifCond .eq 23, 3) := by decide +kernel
theorem dX9_apart_8 : decode cX9_apart 8 = .ok (.aload_n 0, 1) := by decide +kernel
theorem dX9_apart_9 : decode cX9_apart 9 = .ok (.iload_n 2, 1) := by decide +kernel
theorem dX9_apart_10 : decode cX9_apart 10 = .ok (.invokevirtual 118, 3) := by decide +kernel
theorem dX9_apart_13 : decode cX9_apart 13 = .ok (.ifCond .eq 15, 3) := by decide +kernel
theorem dX9_apart_16 : decode cX9_apart 16 = .ok (.iload_n 1, 1) := by decide +kernel
theorem dX9_apart_17 : decode cX9_apart 17 = .ok (.iload_n 2, 1) := by decide +kernel
theorem dX9_apart_18 : decode cX9_apart 18 = .ok (.if_icmp .eq 10, 3) := by decide +kernel
theorem dX9_apart_21 : decode cX9_apart 21 = .ok (.iload_n 3, 1) := by decide +kernel
theorem dX9_apart_22 : decode cX9_apart 22 = .ok (.invokestatic 138, 3) := by decide +kernel
theorem dX9_apart_25 : decode cX9_apart 25 = .ok (.ifCond .ne 10, 3) := by decide +kernel
theorem dX9_apart_28 : decode cX9_apart 28 = .ok (.aload_n 0, 1) := by decide +kernel
theorem dX9_apart_29 : decode cX9_apart 29 = .ok (.ldc 81, 2) := by decide +kernel
theorem dX9_apart_31 : decode cX9_apart 31 = .ok (.invokevirtual 82, 3) := by decide +kernel
theorem dX9_apart_34 : decode cX9_apart 34 = .ok (.ireturn, 1) := by decide +kernel
theorem dX9_apart_35 : decode cX9_apart 35 = .ok (.aload_n 0, 1) := by decide +kernel
theorem dX9_apart_36 : decode cX9_apart 36 = .ok (.getfield 31, 3) := by decide +kernel
theorem dX9_apart_39 : decode cX9_apart 39 = .ok (.iload_n 3, 1) := by decide +kernel
theorem dX9_apart_40 : decode cX9_apart 40 = .ok (.aload_n 0, 1) := by decide +kernel
theorem dX9_apart_41 : decode cX9_apart 41 = .ok (.getfield 12, 3) := by decide +kernel
theorem dX9_apart_44 : decode cX9_apart 44 = .ok (.getfield 94, 3) := by decide +kernel
theorem dX9_apart_47 : decode cX9_apart 47 = .ok (.invokevirtual 195, 3) := by decide +kernel
theorem dX9_apart_50 : decode cX9_apart 50 = .ok (.aload_n 0, 1) := by decide +kernel
theorem dX9_apart_51 : decode cX9_apart 51 = .ok (.getfield 31, 3) := by decide +kernel
theorem dX9_apart_54 : decode cX9_apart 54 = .ok (.iload_n 1, 1) := by decide +kernel
theorem dX9_apart_55 : decode cX9_apart 55 = .ok (.iload_n 2, 1) := by decide +kernel
theorem dX9_apart_56 : decode cX9_apart 56 = .ok (.invokevirtual 244, 3) := by decide +kernel
theorem dX9_apart_59 : decode cX9_apart 59 = .ok (.istore 4, 2) := by decide +kernel
theorem dX9_apart_61 : decode cX9_apart 61 = .ok (.iload 4, 2) := by decide +kernel
theorem dX9_apart_63 : decode cX9_apart 63 = .ok (.ldc 247, 2) := by decide +kernel
theorem dX9_apart_65 : decode cX9_apart 65 = .ok (.if_icmp .ne 12, 3) := by decide +kernel
theorem dX9_apart_68 : decode cX9_apart 68 = .ok (.aload_n 0, 1) := by decide +kernel
theorem dX9_apart_69 : decode cX9_apart 69 = .ok (.ldc 157, 2) := by decide +kernel
theorem dX9_apart_71 : decode cX9_apart 71 = .ok (.invokevirtual 82, 3) := by decide +kernel
theorem dX9_apart_74 : decode cX9_apart 74 = .ok (.goto 5, 3) := by decide +kernel
theorem dX9_apart_77 : decode cX9_apart 77 = .ok (.iload 4, 2) := by decide +kernel
theorem dX9_apart_79 : decode cX9_apart 79 = .ok (.ireturn, 1) := by decide +kernel
theorem dX9_slate_0 : decode cX9_slate 0 = .ok (.aload_n 0, 1) := by decide +kernel
theorem dX9_slate_1 : decode cX9_slate 1 = .ok (.iload_n 1, 1) := by decide +kernel
theorem dX9_slate_2 : decode cX9_slate 2 = .ok (.invokevirtual 118, 3) := by decide +kernel
theorem dX9_slate_5 : decode cX9_slate 5 = .ok (.ifCond .eq 17, 3) := by decide +kernel
theorem dX9_slate_8 : decode cX9_slate 8 = .ok (.iload_n 2, 1) := by decide +kernel
theorem dX9_slate_9 : decode cX9_slate 9 = .ok (.invokestatic 138, 3) := by decide +kernel
theorem dX9_slate_12 : decode cX9_slate 12 = .ok (.ifCond .eq 10, 3) := by decide +kernel
theorem dX9_slate_15 : decode cX9_slate 15 = .ok (.iload_n 3, 1) := by decide +kernel
theorem dX9_slate_16 : decode cX9_slate 16 = .ok (.invokestatic 225, 3) := by decide +kernel
theorem dX9_slate_19 : decode cX9_slate 19 = .ok (.ifCond .ne 10, 3) := by decide +kernel
theorem dX9_slate_22 : decode cX9_slate 22 = .ok (.aload_n 0, 1) := by decide +kernel
theorem dX9_slate_23 : decode cX9_slate 23 = .ok (.ldc 81, 2) := by decide +kernel
theorem dX9_slate_25 : decode cX9_slate 25 = .ok (.invokevirtual 82, 3) := by decide +kernel
theorem dX9_slate_28 : decode cX9_slate 28 = .ok (.ireturn, 1) := by decide +kernel
theorem dX9_slate_29 : decode cX9_slate 29 = .ok (.aload_n 0, 1) := by decide +kernel
theorem dX9_slate_30 : decode cX9_slate 30 = .ok (.getfield 12, 3) := by decide +kernel
theorem dX9_slate_33 : decode cX9_slate 33 = .ok (.getfield 108, 3) := by decide +kernel
theorem dX9_slate_36 : decode cX9_slate 36 = .ok (.iload_n 1, 1) := by decide +kernel
theorem dX9_slate_37 : decode cX9_slate 37 = .ok (.aaload, 1) := by decide +kernel
theorem dX9_slate_38 : decode cX9_slate 38 = .ok (.iload_n 2, 1) := by decide +kernel
theorem dX9_slate_39 : decode cX9_slate 39 = .ok (.invokevirtual 141, 3) := by decide +kernel
theorem dX9_slate_42 : decode cX9_slate 42 = .ok (.ifCond .ne 10, 3) := by decide +kernel
theorem dX9_slate_45 : decode cX9_slate 45 = .ok (.aload_n 0, 1) := by decide +kernel
theorem dX9_slate_46 : decode cX9_slate 46 = .ok (.ldc 248, 2) := by decide +kernel
theorem dX9_slate_48 : decode cX9_slate 48 = .ok (.invokevirtual 82, 3) := by decide +kernel
theorem dX9_slate_51 : decode cX9_slate 51 = .ok (.ireturn, 1) := by decide +kernel
theorem dX9_slate_52 : decode cX9_slate 52 = .ok (.aload_n 0, 1) := by decide +kernel
theorem dX9_slate_53 : decode cX9_slate 53 = .ok (.getfield 40, 3) := by decide +kernel
theorem dX9_slate_56 : decode cX9_slate 56 = .ok (.iload_n 2, 1) := by decide +kernel
theorem dX9_slate_57 : decode cX9_slate 57 = .ok (.invokevirtual 249, 3) := by decide +kernel
theorem dX9_slate_60 : decode cX9_slate 60 = .ok (.aload_n 0, 1) := by decide +kernel
theorem dX9_slate_61 : decode cX9_slate 61 = .ok (.getfield 40, 3) := by decide +kernel
theorem dX9_slate_64 : decode cX9_slate 64 = .ok (.aload_n 0, 1) := by decide +kernel
theorem dX9_slate_65 : decode cX9_slate 65 = .ok (.getfield 12, 3) := by decide +kernel
theorem dX9_slate_68 : decode cX9_slate 68 = .ok (.getfield 101, 3) := by decide +kernel
theorem dX9_slate_71 : decode cX9_slate 71 = .ok (.invokevirtual 252, 3) := by decide +kernel
theorem dX9_slate_74 : decode cX9_slate 74 = .ok (.aload_n 0, 1) := by decide +kernel
theorem dX9_slate_75 : decode cX9_slate 75 = .ok (.getfield 40, 3) := by decide +kernel
theorem dX9_slate_78 : decode cX9_slate 78 = .ok (.invokevirtual 255, 3) := by decide +kernel
theorem dX9_slate_81 : decode cX9_slate 81 = .ok (.aload_n 0, 1) := by decide +kernel
theorem dX9_slate_82 : decode cX9_slate 82 = .ok (.getfield 12, 3) := by decide +kernel
theorem dX9_slate_85 : decode cX9_slate 85 = .ok (.getfield 101, 3) := by decide +kernel
theorem dX9_slate_88 : decode cX9_slate 88 = .ok (.if_icmp .le 10, 3) := by decide +kernel
theorem dX9_slate_91 : decode cX9_slate 91 = .ok (.aload_n 0, 1) := by decide +kernel
theorem dX9_slate_92 : decode cX9_slate 92 = .ok (.ldc 157, 2) := by decide +kernel
theorem dX9_slate_94 : decode cX9_slate 94 = .ok (.invokevirtual 82, 3) := by decide +kernel
theorem dX9_slate_97 : decode cX9_slate 97 = .ok (.ireturn, 1) := by decide +kernel
theorem dX9_slate_98 : decode cX9_slate 98 = .ok (.iload_n 3, 1) := by decide +kernel
theorem dX9_slate_99 : decode cX9_slate 99 = .ok (.iconst 1, 1) := by decide +kernel
theorem dX9_slate_100 : decode cX9_slate 100 = .ok (.if_icmp .ne 17, 3) := by decide +kernel
theorem dX9_slate_103 : decode cX9_slate 103 = .ok (.aload_n 0, 1) := by decide +kernel
theorem dX9_slate_104 : decode cX9_slate 104 = .ok (.getfield 40, 3) := by decide +kernel
theorem dX9_slate_107 : decode cX9_slate 107 = .ok (.aload_n 0, 1) := by decide +kernel
theorem dX9_slate_108 : decode cX9_slate 108 = .ok (.getfield 12, 3) := by decide +kernel
theorem dX9_slate_111 : decode cX9_slate 111 = .ok (.getfield 101, 3) := by decide +kernel
theorem dX9_slate_114 : decode cX9_slate 114 = .ok (.invokevirtual 258, 3) := by decide +kernel
theorem dX9_slate_117 : decode cX9_slate 117 = .ok (.aload_n 0, 1) := by decide +kernel
theorem dX9_slate_118 : decode cX9_slate 118 = .ok (.getfield 40, 3) := by decide +kernel
theorem dX9_slate_121 : decode cX9_slate 121 = .ok (.iload_n 1, 1) := by decide +kernel
theorem dX9_slate_122 : decode cX9_slate 122 = .ok (.invokevirtual 261, 3) := by decide +kernel
theorem dX9_slate_125 : decode cX9_slate 125 = .ok (.ireturn, 1) := by decide +kernel
theorem dX9_least_0 : decode cX9_least 0 = .ok (.iload_n 1, 1) := by decide +kernel
theorem dX9_least_1 : decode cX9_least 1 = .ok (.invokestatic 138, 3) := by decide +kernel
theorem dX9_least_4 : decode cX9_least 4 = .ok (.ifCond .ne 10, 3) := by decide +kernel
theorem dX9_least_7 : decode cX9_least 7 = .ok (.aload_n 0, 1) := by decide +kernel
theorem dX9_least_8 : decode cX9_least 8 = .ok (.ldc 81, 2) := by decide +kernel
theorem dX9_least_10 : decode cX9_least 10 = .ok (.invokevirtual 82, 3) := by decide +kernel
theorem dX9_least_13 : decode cX9_least 13 = .ok (.ireturn, 1) := by decide +kernel
theorem dX9_least_14 : decode cX9_least 14 = .ok (.aload_n 0, 1) := by decide +kernel
theorem dX9_least_15 : decode cX9_least 15 = .ok (.getfield 40, 3) := by decide +kernel
theorem dX9_least_18 : decode cX9_least 18 = .ok (.iload_n 1, 1) := by decide +kernel
theorem dX9_least_19 : decode cX9_least 19 = .ok (.invokevirtual 249, 3) := by decide +kernel
theorem dX9_least_22 : decode cX9_least 22 = .ok (.aload_n 0, 1) := by decide +kernel
theorem dX9_least_23 : decode cX9_least 23 = .ok (.getfield 40, 3) := by decide +kernel
theorem dX9_least_26 : decode cX9_least 26 = .ok (.iconst 0, 1) := by decide +kernel
theorem dX9_least_27 : decode cX9_least 27 = .ok (.invokevirtual 252, 3) := by decide +kernel
theorem dX9_least_30 : decode cX9_least 30 = .ok (.aload_n 0, 1) := by decide +kernel
theorem dX9_least_31 : decode cX9_least 31 = .ok (.getfield 40, 3) := by decide +kernel
theorem dX9_least_34 : decode cX9_least 34 = .ok (.invokevirtual 255, 3) := by decide +kernel
theorem dX9_least_37 : decode cX9_least 37 = .ok (.iconst 1, 1) := by decide +kernel
theorem dX9_least_38 : decode cX9_least 38 = .ok (.iadd, 1) := by decide +kernel
theorem dX9_least_39 : decode cX9_least 39 = .ok (.iconst 2, 1) := by decide +kernel
theorem dX9_least_40 : decode cX9_least 40 = .ok (.idiv, 1) := by decide +kernel
theorem dX9_least_41 : decode cX9_least 41 = .ok (.istore_n 2, 1) := by decide +kernel
theorem dX9_least_42 : decode cX9_least 42 = .ok (.iload_n 2, 1) := by decide +kernel
theorem dX9_least_43 : decode cX9_least 43 = .ok (.sipush 2000, 3) := by decide +kernel
theorem dX9_least_46 : decode cX9_least 46 = .ok (.if_icmp .le 12, 3) := by decide +kernel
theorem dX9_least_49 : decode cX9_least 49 = .ok (.aload_n 0, 1) := by decide +kernel
theorem dX9_least_50 : decode cX9_least 50 = .ok (.ldc 157, 2) := by decide +kernel
theorem dX9_least_52 : decode cX9_least 52 = .ok (.invokevirtual 82, 3) := by decide +kernel
theorem dX9_least_55 : decode cX9_least 55 = .ok (.goto 4, 3) := by decide +kernel
theorem dX9_least_58 : decode cX9_least 58 = .ok (.iload_n 2, 1) := by decide +kernel
theorem dX9_least_59 : decode cX9_least 59 = .ok (.ireturn, 1) := by decide +kernel
theorem dX9_hang_0 : decode cX9_hang 0 = .ok (.iload_n 1, 1) := by decide +kernel
theorem dX9_hang_1 : decode cX9_hang 1 = .ok (.invokestatic 138, 3) := by decide +kernel
theorem dX9_hang_4 : decode cX9_hang 4 = .ok (.ifCond .ne 10, 3) := by decide +kernel
theorem dX9_hang_7 : decode cX9_hang 7 = .ok (.aload_n 0, 1) := by decide +kernel
theorem dX9_hang_8 : decode cX9_hang 8 = .ok (.ldc 81, 2) := by decide +kernel
theorem dX9_hang_10 : decode cX9_hang 10 = .ok (.invokevirtual 82, 3) := by decide +kernel
theorem dX9_hang_13 : decode cX9_hang 13 = .ok (.ireturn, 1) := by decide +kernel
theorem dX9_hang_14 : decode cX9_hang 14 = .ok (.aload_n 0, 1) := by decide +kernel
theorem dX9_hang_15 : decode cX9_hang 15 = .ok (.getfield 40, 3) := by decide +kernel
theorem dX9_hang_18 : decode cX9_hang 18 = .ok (.iload_n 1, 1) := by decide +kernel
theorem dX9_hang_19 : decode cX9_hang 19 = .ok (.invokevirtual 249, 3) := by decide +kernel
theorem dX9_hang_22 : decode cX9_hang 22 = .ok (.aload_n 0, 1) := by decide +kernel
theorem dX9_hang_23 : decode cX9_hang 23 = .ok (.getfield 40, 3) := by decide +kernel
theorem dX9_hang_26 : decode cX9_hang 26 = .ok (.aload_n 0, 1) := by decide +kernel
theorem dX9_hang_27 : decode cX9_hang 27 = .ok (.getfield 12, 3) := by decide +kernel
theorem dX9_hang_30 : decode cX9_hang 30 = .ok (.getfield 101, 3) := by decide +kernel
theorem dX9_hang_33 : decode cX9_hang 33 = .ok (.invokevirtual 252, 3) := by decide +kernel
theorem dX9_hang_36 : decode cX9_hang 36 = .ok (.aload_n 0, 1) := by decide +kernel
theorem dX9_hang_37 : decode cX9_hang 37 = .ok (.getfield 40, 3) := by decide +kernel
theorem dX9_hang_40 : decode cX9_hang 40 = .ok (.invokevirtual 255, 3) := by decide +kernel
theorem dX9_hang_43 : decode cX9_hang 43 = .ok (.aload_n 0, 1) := by decide +kernel
theorem dX9_hang_44 : decode cX9_hang 44 = .ok (.getfield 12, 3) := by decide +kernel
theorem dX9_hang_47 : decode cX9_hang 47 = .ok (.getfield 101, 3) := by decide +kernel
theorem dX9_hang_50 : decode cX9_hang 50 = .ok (.if_icmp .le 10, 3) := by decide +kernel
theorem dX9_hang_53 : decode cX9_hang 53 = .ok (.aload_n 0, 1) := by decide +kernel
theorem dX9_hang_54 : decode cX9_hang 54 = .ok (.ldc 157, 2) := by decide +kernel
theorem dX9_hang_56 : decode cX9_hang 56 = .ok (.invokevirtual 82, 3) := by decide +kernel
theorem dX9_hang_59 : decode cX9_hang 59 = .ok (.ireturn, 1) := by decide +kernel
theorem dX9_hang_60 : decode cX9_hang 60 = .ok (.aload_n 0, 1) := by decide +kernel
theorem dX9_hang_61 : decode cX9_hang 61 = .ok (.getfield 40, 3) := by decide +kernel
theorem dX9_hang_64 : decode cX9_hang 64 = .ok (.invokevirtual 264, 3) := by decide +kernel
theorem dX9_hang_67 : decode cX9_hang 67 = .ok (.ireturn, 1) := by decide +kernel
theorem dX9_silence_0 : decode cX9_silence 0 = .ok (.iload_n 1, 1) := by decide +kernel
theorem dX9_silence_1 : decode cX9_silence 1 = .ok (.invokestatic 138, 3) := by decide +kernel
theorem dX9_silence_4 : decode cX9_silence 4 = .ok (.ifCond .eq 10, 3) := by decide +kernel
theorem dX9_silence_7 : decode cX9_silence 7 = .ok (.iload_n 2, 1) := by decide +kernel
theorem dX9_silence_8 : decode cX9_silence 8 = .ok (.invokestatic 225, 3) := by decide +kernel
theorem dX9_silence_11 : decode cX9_silence 11 = .ok (.ifCond .ne 10, 3) := by decide +kernel
theorem dX9_silence_14 : decode cX9_silence 14 = .ok (.aload_n 0, 1) := by decide +kernel
theorem dX9_silence_15 : decode cX9_silence 15 = .ok (.ldc 81, 2) := by decide +kernel
theorem dX9_silence_17 : decode cX9_silence 17 = .ok (.invokevirtual 82, 3) := by decide +kernel
theorem dX9_silence_20 : decode cX9_silence 20 = .ok (.ireturn, 1) := by decide +kernel
theorem dX9_silence_21 : decode cX9_silence 21 = .ok (.aload_n 0, 1) := by decide +kernel
theorem dX9_silence_22 : decode cX9_silence 22 = .ok (.getfield 31, 3) := by decide +kernel
theorem dX9_silence_25 : decode cX9_silence 25 = .ok (.iload_n 1, 1) := by decide +kernel
theorem dX9_silence_26 : decode cX9_silence 26 = .ok (.aload_n 0, 1) := by decide +kernel
theorem dX9_silence_27 : decode cX9_silence 27 = .ok (.getfield 12, 3) := by decide +kernel
theorem dX9_silence_30 : decode cX9_silence 30 = .ok (.getfield 94, 3) := by decide +kernel
theorem dX9_silence_33 : decode cX9_silence 33 = .ok (.invokevirtual 195, 3) := by decide +kernel
theorem dX9_silence_36 : decode cX9_silence 36 = .ok (.aload_n 0, 1) := by decide +kernel
theorem dX9_silence_37 : decode cX9_silence 37 = .ok (.getfield 47, 3) := by decide +kernel
theorem dX9_silence_40 : decode cX9_silence 40 = .ok (.invokevirtual 267, 3) := by decide +kernel
theorem dX9_silence_43 : decode cX9_silence 43 = .ok (.istore_n 3, 1) := by decide +kernel
theorem dX9_silence_44 : decode cX9_silence 44 = .ok (.iload_n 2, 1) := by decide +kernel
theorem dX9_silence_45 : decode cX9_silence 45 = .ok (.ifCond .ne 7, 3) := by decide +kernel
theorem dX9_silence_48 : decode cX9_silence 48 = .ok (.iload_n 3, 1) := by decide +kernel
theorem dX9_silence_49 : decode cX9_silence 49 = .ok (.goto 11, 3) := by decide +kernel
theorem dX9_silence_52 : decode cX9_silence 52 = .ok (.aload_n 0, 1) := by decide +kernel
theorem dX9_silence_53 : decode cX9_silence 53 = .ok (.getfield 12, 3) := by decide +kernel
theorem dX9_silence_56 : decode cX9_silence 56 = .ok (.iload_n 3, 1) := by decide +kernel
theorem dX9_silence_57 : decode cX9_silence 57 = .ok (.invokevirtual 270, 3) := by decide +kernel
theorem dX9_silence_60 : decode cX9_silence 60 = .ok (.ireturn, 1) := by decide +kernel
theorem dX9_winds_0 : decode cX9_winds 0 = .ok (.iload_n 1, 1) := by decide +kernel
theorem dX9_winds_1 : decode cX9_winds 1 = .ok (.invokestatic 138, 3) := by decide +kernel
theorem dX9_winds_4 : decode cX9_winds 4 = .ok (.ifCond .ne 10, 3) := by decide +kernel
theorem dX9_winds_7 : decode cX9_winds 7 = .ok (.aload_n 0, 1) := by decide +kernel
theorem dX9_winds_8 : decode cX9_winds 8 = .ok (.ldc 81, 2) := by decide +kernel
theorem dX9_winds_10 : decode cX9_winds 10 = .ok (.invokevirtual 82, 3) := by decide +kernel
theorem dX9_winds_13 : decode cX9_winds 13 = .ok (.ireturn, 1) := by decide +kernel
theorem dX9_winds_14 : decode cX9_winds 14 = .ok (.iconst 0, 1) := by decide +kernel
theorem dX9_winds_15 : decode cX9_winds 15 = .ok (.istore_n 2, 1) := by decide +kernel
theorem dX9_winds_16 : decode cX9_winds 16 = .ok (.bipush (-5), 2) := by decide +kernel
theorem dX9_winds_18 : decode cX9_winds 18 = .ok (.istore_n 3, 1) := by decide +kernel
theorem dX9_winds_19 : decode cX9_winds 19 = .ok (.iload_n 3, 1) := by decide +kernel
theorem dX9_winds_20 : decode cX9_winds 20 = .ok (.iconst 5, 1) := by decide +kernel
theorem dX9_winds_21 : decode cX9_winds 21 = .ok (.if_icmp .gt 36, 3) := by decide +kernel
theorem dX9_winds_24 : decode cX9_winds 24 = .ok (.aload_n 0, 1) := by decide +kernel
theorem dX9_winds_25 : decode cX9_winds 25 = .ok (.getfield 31, 3) := by decide +kernel
theorem dX9_winds_28 : decode cX9_winds 28 = .ok (.iload_n 1, 1) := by decide +kernel
theorem dX9_winds_29 : decode cX9_winds 29 = .ok (.iload_n 3, 1) := by decide +kernel
theorem dX9_winds_30 : decode cX9_winds 30 = .ok (.invokevirtual 195, 3) := by decide +kernel
theorem dX9_winds_33 : decode cX9_winds 33 = .ok (.aload_n 0, 1) := by decide +kernel
theorem dX9_winds_34 : decode cX9_winds 34 = .ok (.getfield 31, 3) := by decide +kernel
theorem dX9_winds_37 : decode cX9_winds 37 = .ok (.invokevirtual 232, 3) := by decide +kernel
theorem dX9_winds_40 : decode cX9_winds 40 = .ok (.ifCond .ge 11, 3) := by decide +kernel
theorem dX9_winds_43 : decode cX9_winds 43 = .ok (.iload_n 2, 1) := by decide +kernel
theorem dX9_winds_44 : decode cX9_winds 44 = .ok (.iconst 1, 1) := by decide +kernel
theorem dX9_winds_45 : decode cX9_winds 45 = .ok (.iload_n 3, 1) := by decide +kernel
theorem dX9_winds_46 : decode cX9_winds 46 = .ok (.iconst 5, 1) := by decide +kernel
theorem dX9_winds_47 : decode cX9_winds 47 = .ok (.iadd, 1) := by decide +kernel
theorem dX9_winds_48 : decode cX9_winds 48 = .ok (.ishl, 1) := by decide +kernel
theorem dX9_winds_49 : decode cX9_winds 49 = .ok (.ior, 1) := by decide +kernel
theorem dX9_winds_50 : decode cX9_winds 50 = .ok (.istore_n 2, 1) := by decide +kernel
theorem dX9_winds_51 : decode cX9_winds 51 = .ok (.iinc 3 1, 3) := by decide +kernel
theorem dX9_winds_54 : decode cX9_winds 54 = .ok (.goto (-35), 3) := by decide +kernel
theorem dX9_winds_57 : decode cX9_winds 57 = .ok (.iload_n 2, 1) := by decide +kernel
theorem dX9_winds_58 : decode cX9_winds 58 = .ok (.ireturn, 1) := by decide +kernel
theorem dX9_holds_0 : decode cX9_holds 0 = .ok (.aload_n 0, 1) := by decide +kernel
theorem dX9_holds_1 : decode cX9_holds 1 = .ok (.iload_n 1, 1) := by decide +kernel
theorem dX9_holds_2 : decode cX9_holds 2 = .ok (.invokevirtual 118, 3) := by decide +kernel
theorem dX9_holds_5 : decode cX9_holds 5 = .ok (.ifCond .eq 17, 3) := by decide +kernel
theorem dX9_holds_8 : decode cX9_holds 8 = .ok (.iload_n 2, 1) := by decide +kernel
theorem dX9_holds_9 : decode cX9_holds 9 = .ok (.invokestatic 138, 3) := by decide +kernel
theorem dX9_holds_12 : decode cX9_holds 12 = .ok (.ifCond .eq 10, 3) := by decide +kernel
theorem dX9_holds_15 : decode cX9_holds 15 = .ok (.iload_n 3, 1) := by decide +kernel
theorem dX9_holds_16 : decode cX9_holds 16 = .ok (.invokestatic 225, 3) := by decide +kernel
theorem dX9_holds_19 : decode cX9_holds 19 = .ok (.ifCond .ne 10, 3) := by decide +kernel
theorem dX9_holds_22 : decode cX9_holds 22 = .ok (.aload_n 0, 1) := by decide +kernel
theorem dX9_holds_23 : decode cX9_holds 23 = .ok (.ldc 81, 2) := by decide +kernel
theorem dX9_holds_25 : decode cX9_holds 25 = .ok (.invokevirtual 82, 3) := by decide +kernel
theorem dX9_holds_28 : decode cX9_holds 28 = .ok (.ireturn, 1) := by decide +kernel
theorem dX9_holds_29 : decode cX9_holds 29 = .ok (.aload_n 0, 1) := by decide +kernel
theorem dX9_holds_30 : decode cX9_holds 30 = .ok (.getfield 47, 3) := by decide +kernel
theorem dX9_holds_33 : decode cX9_holds 33 = .ok (.iload_n 1, 1) := by decide +kernel
theorem dX9_holds_34 : decode cX9_holds 34 = .ok (.iload_n 2, 1) := by decide +kernel
theorem dX9_holds_35 : decode cX9_holds 35 = .ok (.invokevirtual 273, 3) := by decide +kernel
theorem dX9_holds_38 : decode cX9_holds 38 = .ok (.aload_n 0, 1) := by decide +kernel
theorem dX9_holds_39 : decode cX9_holds 39 = .ok (.getfield 47, 3) := by decide +kernel
theorem dX9_holds_42 : decode cX9_holds 42 = .ok (.invokevirtual 276, 3) := by decide +kernel
theorem dX9_holds_45 : decode cX9_holds 45 = .ok (.istore 4, 2) := by decide +kernel
theorem dX9_holds_47 : decode cX9_holds 47 = .ok (.iload_n 3, 1) := by decide +kernel
theorem dX9_holds_48 : decode cX9_holds 48 = .ok (.ifCond .ne 8, 3) := by decide +kernel
theorem dX9_holds_51 : decode cX9_holds 51 = .ok (.iload 4, 2) := by decide +kernel
theorem dX9_holds_53 : decode cX9_holds 53 = .ok (.goto 12, 3) := by decide +kernel
theorem dX9_holds_56 : decode cX9_holds 56 = .ok (.aload_n 0, 1) := by decide +kernel
theorem dX9_holds_57 : decode cX9_holds 57 = .ok (.getfield 47, 3) := by decide +kernel
theorem dX9_holds_60 : decode cX9_holds 60 = .ok (.iload 4, 2) := by decide +kernel
theorem dX9_holds_62 : decode cX9_holds 62 = .ok (.invokevirtual 279, 3) := by decide +kernel
theorem dX9_holds_65 : decode cX9_holds 65 = .ok (.ireturn, 1) := by decide +kernel
theorem dX9_chance_0 : decode cX9_chance 0 = .ok (.aload_n 0, 1) := by decide +kernel
theorem dX9_chance_1 : decode cX9_chance 1 = .ok (.iload_n 1, 1) := by decide +kernel
theorem dX9_chance_2 : decode cX9_chance 2 = .ok (.invokevirtual 118, 3) := by decide +kernel
theorem dX9_chance_5 : decode cX9_chance 5 = .ok (.ifCond .eq 17, 3) := by decide +kernel
theorem dX9_chance_8 : decode cX9_chance 8 = .ok (.iload_n 2, 1) := by decide +kernel
theorem dX9_chance_9 : decode cX9_chance 9 = .ok (.invokestatic 138, 3) := by decide +kernel
theorem dX9_chance_12 : decode cX9_chance 12 = .ok (.ifCond .eq 10, 3) := by decide +kernel
theorem dX9_chance_15 : decode cX9_chance 15 = .ok (.iload_n 3, 1) := by decide +kernel
theorem dX9_chance_16 : decode cX9_chance 16 = .ok (.invokestatic 225, 3) := by decide +kernel
theorem dX9_chance_19 : decode cX9_chance 19 = .ok (.ifCond .ne 10, 3) := by decide +kernel
theorem dX9_chance_22 : decode cX9_chance 22 = .ok (.aload_n 0, 1) := by decide +kernel
theorem dX9_chance_23 : decode cX9_chance 23 = .ok (.ldc 81, 2) := by decide +kernel
theorem dX9_chance_25 : decode cX9_chance 25 = .ok (.invokevirtual 82, 3) := by decide +kernel
theorem dX9_chance_28 : decode cX9_chance 28 = .ok (.ireturn, 1) := by decide +kernel
theorem dX9_chance_29 : decode cX9_chance 29 = .ok (.aload_n 0, 1) := by decide +kernel
theorem dX9_chance_30 : decode cX9_chance 30 = .ok (.getfield 12, 3) := by decide +kernel
theorem dX9_chance_33 : decode cX9_chance 33 = .ok (.getfield 108, 3) := by decide +kernel
theorem dX9_chance_36 : decode cX9_chance 36 = .ok (.iload_n 1, 1) := by decide +kernel
theorem dX9_chance_37 : decode cX9_chance 37 = .ok (.aaload, 1) := by decide +kernel
theorem dX9_chance_38 : decode cX9_chance 38 = .ok (.astore 4, 2) := by decide +kernel
theorem dX9_chance_40 : decode cX9_chance 40 = .ok (.aload 4, 2) := by decide +kernel
theorem dX9_chance_42 : decode cX9_chance 42 = .ok (.iconst 3, 1) := by decide +kernel
theorem dX9_chance_43 : decode cX9_chance 43 = .ok (.invokevirtual 131, 3) := by decide +kernel
theorem dX9_chance_46 : decode cX9_chance 46 = .ok (.ifCond .ne 10, 3) := by decide +kernel
theorem dX9_chance_49 : decode cX9_chance 49 = .ok (.aload_n 0, 1) := by decide +kernel
theorem dX9_chance_50 : decode cX9_chance 50 = .ok (.ldc 134, 2) := by decide +kernel
theorem dX9_chance_52 : decode cX9_chance 52 = .ok (.invokevirtual 82, 3) := by decide +kernel
theorem dX9_chance_55 : decode cX9_chance 55 = .ok (.ireturn, 1) := by decide +kernel
theorem dX9_chance_56 : decode cX9_chance 56 = .ok (.iconst 0, 1) := by decide +kernel
theorem dX9_chance_57 : decode cX9_chance 57 = .ok (.aload 4, 2) := by decide +kernel
theorem dX9_chance_59 : decode cX9_chance 59 = .ok (.getfield 170, 3) := by decide +kernel
theorem dX9_chance_62 : decode cX9_chance 62 = .ok (.aload 4, 2) := by decide +kernel
theorem dX9_chance_64 : decode cX9_chance 64 = .ok (.getfield 282, 3) := by decide +kernel
theorem dX9_chance_67 : decode cX9_chance 67 = .ok (.isub, 1) := by decide +kernel
theorem dX9_chance_68 : decode cX9_chance 68 = .ok (.invokestatic 285, 3) := by decide +kernel
theorem dX9_chance_71 : decode cX9_chance 71 = .ok (.istore 5, 2) := by decide +kernel
theorem dX9_chance_73 : decode cX9_chance 73 = .ok (.bipush 99, 2) := by decide +kernel
theorem dX9_chance_75 : decode cX9_chance 75 = .ok (.aload 4, 2) := by decide +kernel
theorem dX9_chance_77 : decode cX9_chance 77 = .ok (.getfield 170, 3) := by decide +kernel
theorem dX9_chance_80 : decode cX9_chance 80 = .ok (.aload 4, 2) := by decide +kernel
theorem dX9_chance_82 : decode cX9_chance 82 = .ok (.getfield 282, 3) := by decide +kernel
theorem dX9_chance_85 : decode cX9_chance 85 = .ok (.iadd, 1) := by decide +kernel
theorem dX9_chance_86 : decode cX9_chance 86 = .ok (.invokestatic 288, 3) := by decide +kernel
theorem dX9_chance_89 : decode cX9_chance 89 = .ok (.istore 6, 2) := by decide +kernel
theorem dX9_chance_91 : decode cX9_chance 91 = .ok (.aload_n 0, 1) := by decide +kernel
theorem dX9_chance_92 : decode cX9_chance 92 = .ok (.getfield 31, 3) := by decide +kernel
theorem dX9_chance_95 : decode cX9_chance 95 = .ok (.iload_n 2, 1) := by decide +kernel
theorem dX9_chance_96 : decode cX9_chance 96 = .ok (.aload_n 0, 1) := by decide +kernel
theorem dX9_chance_97 : decode cX9_chance 97 = .ok (.getfield 12, 3) := by decide +kernel
theorem dX9_chance_100 : decode cX9_chance 100 = .ok (.getfield 94, 3) := by decide +kernel
theorem dX9_chance_103 : decode cX9_chance 103 = .ok (.invokevirtual 195, 3) := by decide +kernel
theorem dX9_chance_106 : decode cX9_chance 106 = .ok (.aload 4, 2) := by decide +kernel
theorem dX9_chance_108 : decode cX9_chance 108 = .ok (.iload_n 2, 1) := by decide +kernel
theorem dX9_chance_109 : decode cX9_chance 109 = .ok (.invokevirtual 141, 3) := by decide +kernel
theorem dX9_chance_112 : decode cX9_chance 112 = .ok (.ifCond .eq 18, 3) := by decide +kernel
theorem dX9_chance_115 : decode cX9_chance 115 = .ok (.aload_n 0, 1) := by decide +kernel
theorem dX9_chance_116 : decode cX9_chance 116 = .ok (.getfield 47, 3) := by decide +kernel
theorem dX9_chance_119 : decode cX9_chance 119 = .ok (.iload_n 1, 1) := by decide +kernel
theorem dX9_chance_120 : decode cX9_chance 120 = .ok (.iload 5, 2) := by decide +kernel
theorem dX9_chance_122 : decode cX9_chance 122 = .ok (.iload 6, 2) := by decide +kernel
theorem dX9_chance_124 : decode cX9_chance 124 = .ok (.invokevirtual 291, 3) := by decide +kernel
theorem dX9_chance_127 : decode cX9_chance 127 = .ok (.goto 4, 3) := by decide +kernel
theorem dX9_chance_130 : decode cX9_chance 130 = .ok (.iconst 0, 1) := by decide +kernel
theorem dX9_chance_131 : decode cX9_chance 131 = .ok (.istore 7, 2) := by decide +kernel
theorem dX9_chance_133 : decode cX9_chance 133 = .ok (.iload 6, 2) := by decide +kernel
theorem dX9_chance_135 : decode cX9_chance 135 = .ok (.iload 5, 2) := by decide +kernel
theorem dX9_chance_137 : decode cX9_chance 137 = .ok (.isub, 1) := by decide +kernel
theorem dX9_chance_138 : decode cX9_chance 138 = .ok (.iconst 1, 1) := by decide +kernel
theorem dX9_chance_139 : decode cX9_chance 139 = .ok (.iadd, 1) := by decide +kernel
theorem dX9_chance_140 : decode cX9_chance 140 = .ok (.istore 8, 2) := by decide +kernel
theorem dX9_chance_142 : decode cX9_chance 142 = .ok (.iload 8, 2) := by decide +kernel
theorem dX9_chance_144 : decode cX9_chance 144 = .ok (.iload 7, 2) := by decide +kernel
theorem dX9_chance_146 : decode cX9_chance 146 = .ok (.invokestatic 294, 3) := by decide +kernel
theorem dX9_chance_149 : decode cX9_chance 149 = .ok (.istore 9, 2) := by decide +kernel
theorem dX9_chance_151 : decode cX9_chance 151 = .ok (.iload 9, 2) := by decide +kernel
theorem dX9_chance_153 : decode cX9_chance 153 = .ok (.ifCond .ne 5, 3) := by decide +kernel
theorem dX9_chance_156 : decode cX9_chance 156 = .ok (.iload_n 3, 1) := by decide +kernel
theorem dX9_chance_157 : decode cX9_chance 157 = .ok (.ireturn, 1) := by decide +kernel
theorem dX9_chance_158 : decode cX9_chance 158 = .ok (.iload_n 3, 1) := by decide +kernel
theorem dX9_chance_159 : decode cX9_chance 159 = .ok (.ifCond .ne 11, 3) := by decide +kernel
theorem dX9_chance_162 : decode cX9_chance 162 = .ok (.iload 7, 2) := by decide +kernel
theorem dX9_chance_164 : decode cX9_chance 164 = .ok (.iload 9, 2) := by decide +kernel
theorem dX9_chance_166 : decode cX9_chance 166 = .ok (.idiv, 1) := by decide +kernel
theorem dX9_chance_167 : decode cX9_chance 167 = .ok (.goto 8, 3) := by decide +kernel
theorem dX9_chance_170 : decode cX9_chance 170 = .ok (.iload 8, 2) := by decide +kernel
theorem dX9_chance_172 : decode cX9_chance 172 = .ok (.iload 9, 2) := by decide +kernel
theorem dX9_chance_174 : decode cX9_chance 174 = .ok (.idiv, 1) := by decide +kernel
theorem dX9_chance_175 : decode cX9_chance 175 = .ok (.ireturn, 1) := by decide +kernel
theorem dX9_hangs_0 : decode cX9_hangs 0 = .ok (.iload_n 1, 1) := by decide +kernel
theorem dX9_hangs_1 : decode cX9_hangs 1 = .ok (.invokestatic 77, 3) := by decide +kernel
theorem dX9_hangs_4 : decode cX9_hangs 4 = .ok (.ifCond .eq 10, 3) := by decide +kernel
theorem dX9_hangs_7 : decode cX9_hangs 7 = .ok (.iload_n 2, 1) := by decide +kernel
theorem dX9_hangs_8 : decode cX9_hangs 8 = .ok (.invokestatic 138, 3) := by decide +kernel
theorem dX9_hangs_11 : decode cX9_hangs 11 = .ok (.ifCond .ne 10, 3) := by decide +kernel
theorem dX9_hangs_14 : decode cX9_hangs 14 = .ok (.aload_n 0, 1) := by decide +kernel
theorem dX9_hangs_15 : decode cX9_hangs 15 = .ok (.ldc 81, 2) := by decide +kernel
theorem dX9_hangs_17 : decode cX9_hangs 17 = .ok (.invokevirtual 82, 3) := by decide +kernel
theorem dX9_hangs_20 : decode cX9_hangs 20 = .ok (.ireturn, 1) := by decide +kernel
theorem dX9_hangs_21 : decode cX9_hangs 21 = .ok (.aload_n 0, 1) := by decide +kernel
theorem dX9_hangs_22 : decode cX9_hangs 22 = .ok (.getfield 31, 3) := by decide +kernel
theorem dX9_hangs_25 : decode cX9_hangs 25 = .ok (.iload_n 2, 1) := by decide +kernel
theorem dX9_hangs_26 : decode cX9_hangs 26 = .ok (.aload_n 0, 1) := by decide +kernel
theorem dX9_hangs_27 : decode cX9_hangs 27 = .ok (.getfield 12, 3) := by decide +kernel
theorem dX9_hangs_30 : decode cX9_hangs 30 = .ok (.getfield 94, 3) := by decide +kernel
theorem dX9_hangs_33 : decode cX9_hangs 33 = .ok (.invokevirtual 195, 3) := by decide +kernel
theorem dX9_hangs_36 : decode cX9_hangs 36 = .ok (.aload_n 0, 1) := by decide +kernel
theorem dX9_hangs_37 : decode cX9_hangs 37 = .ok (.getfield 47, 3) := by decide +kernel
theorem dX9_hangs_40 : decode cX9_hangs 40 = .ok (.iload_n 1, 1) := by decide +kernel
theorem dX9_hangs_41 : decode cX9_hangs 41 = .ok (.invokevirtual 297, 3) := by decide +kernel
theorem dX9_hangs_44 : decode cX9_hangs 44 = .ok (.istore_n 3, 1) := by decide +kernel
theorem dX9_hangs_45 : decode cX9_hangs 45 = .ok (.iload_n 3, 1) := by decide +kernel
theorem dX9_hangs_46 : decode cX9_hangs 46 = .ok (.ifCond .ge 12, 3) := by decide +kernel
theorem dX9_hangs_49 : decode cX9_hangs 49 = .ok (.aload_n 0, 1) := by decide +kernel
theorem dX9_hangs_50 : decode cX9_hangs 50 = .ok (.ldc 157, 2) := by decide +kernel
theorem dX9_hangs_52 : decode cX9_hangs 52 = .ok (.invokevirtual 82, 3) := by decide +kernel
theorem dX9_hangs_55 : decode cX9_hangs 55 = .ok (.goto 4, 3) := by decide +kernel
theorem dX9_hangs_58 : decode cX9_hangs 58 = .ok (.iload_n 3, 1) := by decide +kernel
theorem dX9_hangs_59 : decode cX9_hangs 59 = .ok (.ireturn, 1) := by decide +kernel
theorem dX9_place_0 : decode cX9_place 0 = .ok (.iload_n 1, 1) := by decide +kernel
theorem dX9_place_1 : decode cX9_place 1 = .ok (.invokestatic 138, 3) := by decide +kernel
theorem dX9_place_4 : decode cX9_place 4 = .ok (.ifCond .eq 10, 3) := by decide +kernel
theorem dX9_place_7 : decode cX9_place 7 = .ok (.iload_n 2, 1) := by decide +kernel
theorem dX9_place_8 : decode cX9_place 8 = .ok (.invokestatic 225, 3) := by decide +kernel
theorem dX9_place_11 : decode cX9_place 11 = .ok (.ifCond .ne 10, 3) := by decide +kernel
theorem dX9_place_14 : decode cX9_place 14 = .ok (.aload_n 0, 1) := by decide +kernel
theorem dX9_place_15 : decode cX9_place 15 = .ok (.ldc 81, 2) := by decide +kernel
theorem dX9_place_17 : decode cX9_place 17 = .ok (.invokevirtual 82, 3) := by decide +kernel
theorem dX9_place_20 : decode cX9_place 20 = .ok (.ireturn, 1) := by decide +kernel
theorem dX9_place_21 : decode cX9_place 21 = .ok (.aload_n 0, 1) := by decide +kernel
theorem dX9_place_22 : decode cX9_place 22 = .ok (.getfield 31, 3) := by decide +kernel
theorem dX9_place_25 : decode cX9_place 25 = .ok (.iload_n 1, 1) := by decide +kernel
theorem dX9_place_26 : decode cX9_place 26 = .ok (.aload_n 0, 1) := by decide +kernel
theorem dX9_place_27 : decode cX9_place 27 = .ok (.getfield 12, 3) := by decide +kernel
theorem dX9_place_30 : decode cX9_place 30 = .ok (.getfield 94, 3) := by decide +kernel
theorem dX9_place_33 : decode cX9_place 33 = .ok (.invokevirtual 195, 3) := by decide +kernel
theorem dX9_place_36 : decode cX9_place 36 = .ok (.iconst 0, 1) := by decide +kernel
theorem dX9_place_37 : decode cX9_place 37 = .ok (.istore_n 3, 1) := by decide +kernel
theorem dX9_place_38 : decode cX9_place 38 = .ok (.iconst (-1), 1) := by decide +kernel
theorem dX9_place_39 : decode cX9_place 39 = .ok (.istore 4, 2) := by decide +kernel
theorem dX9_place_41 : decode cX9_place 41 = .ok (.iconst 0, 1) := by decide +kernel
theorem dX9_place_42 : decode cX9_place 42 = .ok (.istore 5, 2) := by decide +kernel
theorem dX9_place_44 : decode cX9_place 44 = .ok (.iload 5, 2) := by decide +kernel
theorem dX9_place_46 : decode cX9_place 46 = .ok (.bipush 100, 2) := by decide +kernel
theorem dX9_place_48 : decode cX9_place 48 = .ok (.if_icmp .ge 41, 3) := by decide +kernel
theorem dX9_place_51 : decode cX9_place 51 = .ok (.iload 4, 2) := by decide +kernel
theorem dX9_place_53 : decode cX9_place 53 = .ok (.bipush 99, 2) := by decide +kernel
theorem dX9_place_55 : decode cX9_place 55 = .ok (.if_icmp .ge 34, 3) := by decide +kernel
theorem dX9_place_58 : decode cX9_place 58 = .ok (.aload_n 0, 1) := by decide +kernel
theorem dX9_place_59 : decode cX9_place 59 = .ok (.getfield 47, 3) := by decide +kernel
theorem dX9_place_62 : decode cX9_place 62 = .ok (.iload 5, 2) := by decide +kernel
theorem dX9_place_64 : decode cX9_place 64 = .ok (.invokevirtual 297, 3) := by decide +kernel
theorem dX9_place_67 : decode cX9_place 67 = .ok (.istore 6, 2) := by decide +kernel
theorem dX9_place_69 : decode cX9_place 69 = .ok (.iload 6, 2) := by decide +kernel
theorem dX9_place_71 : decode cX9_place 71 = .ok (.iload 4, 2) := by decide +kernel
theorem dX9_place_73 : decode cX9_place 73 = .ok (.if_icmp .le 10, 3) := by decide +kernel
theorem dX9_place_76 : decode cX9_place 76 = .ok (.iload 5, 2) := by decide +kernel
theorem dX9_place_78 : decode cX9_place 78 = .ok (.istore_n 3, 1) := by decide +kernel
theorem dX9_place_79 : decode cX9_place 79 = .ok (.iload 6, 2) := by decide +kernel
theorem dX9_place_81 : decode cX9_place 81 = .ok (.istore 4, 2) := by decide +kernel
theorem dX9_place_83 : decode cX9_place 83 = .ok (.iinc 5 5, 3) := by decide +kernel
theorem dX9_place_86 : decode cX9_place 86 = .ok (.goto (-42), 3) := by decide +kernel
theorem dX9_place_89 : decode cX9_place 89 = .ok (.iload 4, 2) := by decide +kernel
theorem dX9_place_91 : decode cX9_place 91 = .ok (.ifCond .ge 10, 3) := by decide +kernel
theorem dX9_place_94 : decode cX9_place 94 = .ok (.aload_n 0, 1) := by decide +kernel
theorem dX9_place_95 : decode cX9_place 95 = .ok (.ldc 157, 2) := by decide +kernel
theorem dX9_place_97 : decode cX9_place 97 = .ok (.invokevirtual 82, 3) := by decide +kernel
theorem dX9_place_100 : decode cX9_place 100 = .ok (.ireturn, 1) := by decide +kernel
theorem dX9_place_101 : decode cX9_place 101 = .ok (.iload_n 2, 1) := by decide +kernel
theorem dX9_place_102 : decode cX9_place 102 = .ok (.ifCond .ne 7, 3) := by decide +kernel
theorem dX9_place_105 : decode cX9_place 105 = .ok (.iload_n 3, 1) := by decide +kernel
theorem dX9_place_106 : decode cX9_place 106 = .ok (.goto 5, 3) := by decide +kernel
theorem dX9_place_109 : decode cX9_place 109 = .ok (.iload 4, 2) := by decide +kernel
theorem dX9_place_111 : decode cX9_place 111 = .ok (.ireturn, 1) := by decide +kernel
theorem dX9_days_0 : decode cX9_days 0 = .ok (.iload_n 1, 1) := by decide +kernel
theorem dX9_days_1 : decode cX9_days 1 = .ok (.iconst 1, 1) := by decide +kernel
theorem dX9_days_2 : decode cX9_days 2 = .ok (.if_icmp .lt 9, 3) := by decide +kernel
theorem dX9_days_5 : decode cX9_days 5 = .ok (.iload_n 1, 1) := by decide +kernel
theorem dX9_days_6 : decode cX9_days 6 = .ok (.bipush 60, 2) := by decide +kernel
theorem dX9_days_8 : decode cX9_days 8 = .ok (.if_icmp .le 10, 3) := by decide +kernel
theorem dX9_days_11 : decode cX9_days 11 = .ok (.aload_n 0, 1) := by decide +kernel
theorem dX9_days_12 : decode cX9_days 12 = .ok (.ldc 81, 2) := by decide +kernel
theorem dX9_days_14 : decode cX9_days 14 = .ok (.invokevirtual 82, 3) := by decide +kernel
theorem dX9_days_17 : decode cX9_days 17 = .ok (.ireturn, 1) := by decide +kernel
theorem dX9_days_18 : decode cX9_days 18 = .ok (.aload_n 0, 1) := by decide +kernel
theorem dX9_days_19 : decode cX9_days 19 = .ok (.getfield 12, 3) := by decide +kernel
theorem dX9_days_22 : decode cX9_days 22 = .ok (.iload_n 1, 1) := by decide +kernel
theorem dX9_days_23 : decode cX9_days 23 = .ok (.invokevirtual 300, 3) := by decide +kernel
theorem dX9_days_26 : decode cX9_days 26 = .ok (.aload_n 0, 1) := by decide +kernel
theorem dX9_days_27 : decode cX9_days 27 = .ok (.getfield 12, 3) := by decide +kernel
theorem dX9_days_30 : decode cX9_days 30 = .ok (.invokevirtual 303, 3) := by decide +kernel
theorem dX9_days_33 : decode cX9_days 33 = .ok (.ireturn, 1) := by decide +kernel
theorem dX9_then_0 : decode cX9_then 0 = .ok (.iload_n 1, 1) := by decide +kernel
theorem dX9_then_1 : decode cX9_then 1 = .ok (.ifCond .lt 17, 3) := by decide +kernel
theorem dX9_then_4 : decode cX9_then 4 = .ok (.iload_n 1, 1) := by decide +kernel
theorem dX9_then_5 : decode cX9_then 5 = .ok (.bipush 60, 2) := by decide +kernel
theorem dX9_then_7 : decode cX9_then 7 = .ok (.if_icmp .gt 11, 3) := by decide +kernel
theorem dX9_then_10 : decode cX9_then 10 = .ok (.aload_n 0, 1) := by decide +kernel
theorem dX9_then_11 : decode cX9_then 11 = .ok (.iload_n 2, 1) := by decide +kernel
theorem dX9_then_12 : decode cX9_then 12 = .ok (.invokevirtual 118, 3) := by decide +kernel
theorem dX9_then_15 : decode cX9_then 15 = .ok (.ifCond .ne 10, 3) := by decide +kernel
theorem dX9_then_18 : decode cX9_then 18 = .ok (.aload_n 0, 1) := by decide +kernel
theorem dX9_then_19 : decode cX9_then 19 = .ok (.ldc 81, 2) := by decide +kernel
theorem dX9_then_21 : decode cX9_then 21 = .ok (.invokevirtual 82, 3) := by decide +kernel
theorem dX9_then_24 : decode cX9_then 24 = .ok (.ireturn, 1) := by decide +kernel
theorem dX9_then_25 : decode cX9_then 25 = .ok (.aload_n 0, 1) := by decide +kernel
theorem dX9_then_26 : decode cX9_then 26 = .ok (.getfield 12, 3) := by decide +kernel
theorem dX9_then_29 : decode cX9_then 29 = .ok (.iload_n 1, 1) := by decide +kernel
theorem dX9_then_30 : decode cX9_then 30 = .ok (.iload_n 2, 1) := by decide +kernel
theorem dX9_then_31 : decode cX9_then 31 = .ok (.invokevirtual 306, 3) := by decide +kernel
theorem dX9_then_34 : decode cX9_then 34 = .ok (.ireturn, 1) := by decide +kernel
theorem dX9_seed_0 : decode cX9_seed 0 = .ok (.aload_n 0, 1) := by decide +kernel
theorem dX9_seed_1 : decode cX9_seed 1 = .ok (.getfield 12, 3) := by decide +kernel
theorem dX9_seed_4 : decode cX9_seed 4 = .ok (.getfield 309, 3) := by decide +kernel
theorem dX9_seed_7 : decode cX9_seed 7 = .ok (.istore_n 2, 1) := by decide +kernel
theorem dX9_seed_8 : decode cX9_seed 8 = .ok (.aload_n 0, 1) := by decide +kernel
theorem dX9_seed_9 : decode cX9_seed 9 = .ok (.getfield 12, 3) := by decide +kernel
theorem dX9_seed_12 : decode cX9_seed 12 = .ok (.iload_n 1, 1) := by decide +kernel
theorem dX9_seed_13 : decode cX9_seed 13 = .ok (.putfield 309, 3) := by decide +kernel
theorem dX9_seed_16 : decode cX9_seed 16 = .ok (.iload_n 2, 1) := by decide +kernel
theorem dX9_seed_17 : decode cX9_seed 17 = .ok (.ireturn, 1) := by decide +kernel
theorem dX9_voice_0 : decode cX9_voice 0 = .ok (.aload_n 0, 1) := by decide +kernel
theorem dX9_voice_1 : decode cX9_voice 1 = .ok (.iload_n 1, 1) := by decide +kernel
theorem dX9_voice_2 : decode cX9_voice 2 = .ok (.invokevirtual 118, 3) := by decide +kernel
theorem dX9_voice_5 : decode cX9_voice 5 = .ok (.ifCond .eq 12, 3) := by decide +kernel
theorem dX9_voice_8 : decode cX9_voice 8 = .ok (.iload_n 2, 1) := by decide +kernel
theorem dX9_voice_9 : decode cX9_voice 9 = .ok (.ifCond .lt 8, 3) := by decide +kernel
theorem dX9_voice_12 : decode cX9_voice 12 = .ok (.iload_n 2, 1) := by decide +kernel
theorem dX9_voice_13 : decode cX9_voice 13 = .ok (.iconst 4, 1) := by decide +kernel
theorem dX9_voice_14 : decode cX9_voice 14 = .ok (.if_icmp .lt 10, 3) := by decide +kernel
theorem dX9_voice_17 : decode cX9_voice 17 = .ok (.aload_n 0, 1) := by decide +kernel
theorem dX9_voice_18 : decode cX9_voice 18 = .ok (.ldc 81, 2) := by decide +kernel
theorem dX9_voice_20 : decode cX9_voice 20 = .ok (.invokevirtual 82, 3) := by decide +kernel
theorem dX9_voice_23 : decode cX9_voice 23 = .ok (.ireturn, 1) := by decide +kernel
theorem dX9_voice_24 : decode cX9_voice 24 = .ok (.aload_n 0, 1) := by decide +kernel
theorem dX9_voice_25 : decode cX9_voice 25 = .ok (.getfield 54, 3) := by decide +kernel
theorem dX9_voice_28 : decode cX9_voice 28 = .ok (.aload_n 0, 1) := by decide +kernel
theorem dX9_voice_29 : decode cX9_voice 29 = .ok (.getfield 12, 3) := by decide +kernel
theorem dX9_voice_32 : decode cX9_voice 32 = .ok (.getfield 108, 3) := by decide +kernel
theorem dX9_voice_35 : decode cX9_voice 35 = .ok (.iload_n 1, 1) := by decide +kernel
theorem dX9_voice_36 : decode cX9_voice 36 = .ok (.aaload, 1) := by decide +kernel
theorem dX9_voice_37 : decode cX9_voice 37 = .ok (.iload_n 1, 1) := by decide +kernel
theorem dX9_voice_38 : decode cX9_voice 38 = .ok (.iload_n 2, 1) := by decide +kernel
theorem dX9_voice_39 : decode cX9_voice 39 = .ok (.iload_n 3, 1) := by decide +kernel
theorem dX9_voice_40 : decode cX9_voice 40 = .ok (.invokevirtual 312, 3) := by decide +kernel
theorem dX9_voice_43 : decode cX9_voice 43 = .ok (.ireturn, 1) := by decide +kernel
theorem dX9_trace_0 : decode cX9_trace 0 = .ok (.iload_n 1, 1) := by decide +kernel
theorem dX9_trace_1 : decode cX9_trace 1 = .ok (.ifCond .lt 14, 3) := by decide +kernel
theorem dX9_trace_4 : decode cX9_trace 4 = .ok (.iload_n 1, 1) := by decide +kernel
theorem dX9_trace_5 : decode cX9_trace 5 = .ok (.aload_n 0, 1) := by decide +kernel
theorem dX9_trace_6 : decode cX9_trace 6 = .ok (.getfield 54, 3) := by decide +kernel
theorem dX9_trace_9 : decode cX9_trace 9 = .ok (.getfield 316, 3) := by decide +kernel
theorem dX9_trace_12 : decode cX9_trace 12 = .ok (.if_icmp .lt 10, 3) := by decide +kernel
theorem dX9_trace_15 : decode cX9_trace 15 = .ok (.aload_n 0, 1) := by decide +kernel
theorem dX9_trace_16 : decode cX9_trace 16 = .ok (.ldc 157, 2) := by decide +kernel
theorem dX9_trace_18 : decode cX9_trace 18 = .ok (.invokevirtual 82, 3) := by decide +kernel
theorem dX9_trace_21 : decode cX9_trace 21 = .ok (.ireturn, 1) := by decide +kernel
theorem dX9_trace_22 : decode cX9_trace 22 = .ok (.aload_n 0, 1) := by decide +kernel
theorem dX9_trace_23 : decode cX9_trace 23 = .ok (.getfield 54, 3) := by decide +kernel
theorem dX9_trace_26 : decode cX9_trace 26 = .ok (.getfield 319, 3) := by decide +kernel
theorem dX9_trace_29 : decode cX9_trace 29 = .ok (.iload_n 1, 1) := by decide +kernel
theorem dX9_trace_30 : decode cX9_trace 30 = .ok (.iaload, 1) := by decide +kernel
theorem dX9_trace_31 : decode cX9_trace 31 = .ok (.ireturn, 1) := by decide +kernel
theorem dX9_sheet_0 : decode cX9_sheet 0 = .ok (.iload_n 1, 1) := by decide +kernel
theorem dX9_sheet_1 : decode cX9_sheet 1 = .ok (.invokestatic 151, 3) := by decide +kernel
theorem dX9_sheet_4 : decode cX9_sheet 4 = .ok (.ifCond .eq 10, 3) := by decide +kernel
theorem dX9_sheet_7 : decode cX9_sheet 7 = .ok (.iload_n 2, 1) := by decide +kernel
theorem dX9_sheet_8 : decode cX9_sheet 8 = .ok (.invokestatic 322, 3) := by decide +kernel
theorem dX9_sheet_11 : decode cX9_sheet 11 = .ok (.ifCond .ne 10, 3) := by decide +kernel
theorem dX9_sheet_14 : decode cX9_sheet 14 = .ok (.aload_n 0, 1) := by decide +kernel
theorem dX9_sheet_15 : decode cX9_sheet 15 = .ok (.ldc 81, 2) := by decide +kernel
theorem dX9_sheet_17 : decode cX9_sheet 17 = .ok (.invokevirtual 82, 3) := by decide +kernel
theorem dX9_sheet_20 : decode cX9_sheet 20 = .ok (.ireturn, 1) := by decide +kernel
theorem dX9_sheet_21 : decode cX9_sheet 21 = .ok (.iload_n 2, 1) := by decide +kernel
theorem dX9_sheet_22 : decode cX9_sheet 22 = .ok (.ifCond .ne 15, 3) := by decide +kernel
theorem dX9_sheet_25 : decode cX9_sheet 25 = .ok (.aload_n 0, 1) := by decide +kernel
theorem dX9_sheet_26 : decode cX9_sheet 26 = .ok (.getfield 61, 3) := by decide +kernel
theorem dX9_sheet_29 : decode cX9_sheet 29 = .ok (.iload_n 1, 1) := by decide +kernel
theorem dX9_sheet_30 : decode cX9_sheet 30 = .ok (.iconst 0, 1) := by decide +kernel
theorem dX9_sheet_31 : decode cX9_sheet 31 = .ok (.iconst 0, 1) := by decide +kernel
theorem dX9_sheet_32 : decode cX9_sheet 32 = .ok (.invokevirtual 325, 3) := by decide +kernel
theorem dX9_sheet_35 : decode cX9_sheet 35 = .ok (.iconst 1, 1) := by decide +kernel
theorem dX9_sheet_36 : decode cX9_sheet 36 = .ok (.ireturn, 1) := by decide +kernel
theorem dX9_sheet_37 : decode cX9_sheet 37 = .ok (.iload_n 3, 1) := by decide +kernel
theorem dX9_sheet_38 : decode cX9_sheet 38 = .ok (.ifCond .ge 10, 3) := by decide +kernel
theorem dX9_sheet_41 : decode cX9_sheet 41 = .ok (.aload_n 0, 1) := by decide +kernel
theorem dX9_sheet_42 : decode cX9_sheet 42 = .ok (.ldc 248, 2) := by decide +kernel
theorem dX9_sheet_44 : decode cX9_sheet 44 = .ok (.invokevirtual 82, 3) := by decide +kernel
theorem dX9_sheet_47 : decode cX9_sheet 47 = .ok (.ireturn, 1) := by decide +kernel
theorem dX9_sheet_48 : decode cX9_sheet 48 = .ok (.iload_n 3, 1) := by decide +kernel
theorem dX9_sheet_49 : decode cX9_sheet 49 = .ok (.bipush 40, 2) := by decide +kernel
theorem dX9_sheet_51 : decode cX9_sheet 51 = .ok (.if_icmp .le 10, 3) := by decide +kernel
theorem dX9_sheet_54 : decode cX9_sheet 54 = .ok (.aload_n 0, 1) := by decide +kernel
theorem dX9_sheet_55 : decode cX9_sheet 55 = .ok (.ldc 81, 2) := by decide +kernel
theorem dX9_sheet_57 : decode cX9_sheet 57 = .ok (.invokevirtual 82, 3) := by decide +kernel
theorem dX9_sheet_60 : decode cX9_sheet 60 = .ok (.ireturn, 1) := by decide +kernel
theorem dX9_sheet_61 : decode cX9_sheet 61 = .ok (.aload_n 0, 1) := by decide +kernel
theorem dX9_sheet_62 : decode cX9_sheet 62 = .ok (.getfield 61, 3) := by decide +kernel
theorem dX9_sheet_65 : decode cX9_sheet 65 = .ok (.iload_n 1, 1) := by decide +kernel
theorem dX9_sheet_66 : decode cX9_sheet 66 = .ok (.iload_n 2, 1) := by decide +kernel
theorem dX9_sheet_67 : decode cX9_sheet 67 = .ok (.iload_n 3, 1) := by decide +kernel
theorem dX9_sheet_68 : decode cX9_sheet 68 = .ok (.invokevirtual 325, 3) := by decide +kernel
theorem dX9_sheet_71 : decode cX9_sheet 71 = .ok (.iconst 1, 1) := by decide +kernel
theorem dX9_sheet_72 : decode cX9_sheet 72 = .ok (.ireturn, 1) := by decide +kernel
theorem dX9_put_0 : decode cX9_put 0 = .ok (.iload_n 1, 1) := by decide +kernel
theorem dX9_put_1 : decode cX9_put 1 = .ok (.invokestatic 151, 3) := by decide +kernel
theorem dX9_put_4 : decode cX9_put 4 = .ok (.ifCond .ne 10, 3) := by decide +kernel
theorem dX9_put_7 : decode cX9_put 7 = .ok (.aload_n 0, 1) := by decide +kernel
theorem dX9_put_8 : decode cX9_put 8 = .ok (.ldc 81, 2) := by decide +kernel
theorem dX9_put_10 : decode cX9_put 10 = .ok (.invokevirtual 82, 3) := by decide +kernel
theorem dX9_put_13 : decode cX9_put 13 = .ok (.ireturn, 1) := by decide +kernel
theorem dX9_put_14 : decode cX9_put 14 = .ok (.aload_n 0, 1) := by decide +kernel
theorem dX9_put_15 : decode cX9_put 15 = .ok (.getfield 61, 3) := by decide +kernel
theorem dX9_put_18 : decode cX9_put 18 = .ok (.iload_n 1, 1) := by decide +kernel
theorem dX9_put_19 : decode cX9_put 19 = .ok (.invokevirtual 154, 3) := by decide +kernel
theorem dX9_put_22 : decode cX9_put 22 = .ok (.ifCond .eq 10, 3) := by decide +kernel
theorem dX9_put_25 : decode cX9_put 25 = .ok (.aload_n 0, 1) := by decide +kernel
theorem dX9_put_26 : decode cX9_put 26 = .ok (.ldc 157, 2) := by decide +kernel
theorem dX9_put_28 : decode cX9_put 28 = .ok (.invokevirtual 82, 3) := by decide +kernel
theorem dX9_put_31 : decode cX9_put 31 = .ok (.ireturn, 1) := by decide +kernel
theorem dX9_put_32 : decode cX9_put 32 = .ok (.aload_n 0, 1) := by decide +kernel
theorem dX9_put_33 : decode cX9_put 33 = .ok (.getfield 61, 3) := by decide +kernel
theorem dX9_put_36 : decode cX9_put 36 = .ok (.iload_n 1, 1) := by decide +kernel
theorem dX9_put_37 : decode cX9_put 37 = .ok (.iload_n 2, 1) := by decide +kernel
theorem dX9_put_38 : decode cX9_put 38 = .ok (.iconst 1, 1) := by decide +kernel
theorem dX9_put_39 : decode cX9_put 39 = .ok (.invokevirtual 328, 3) := by decide +kernel
theorem dX9_put_42 : decode cX9_put 42 = .ok (.ifCond .ne 10, 3) := by decide +kernel
theorem dX9_put_45 : decode cX9_put 45 = .ok (.aload_n 0, 1) := by decide +kernel
theorem dX9_put_46 : decode cX9_put 46 = .ok (.ldc 81, 2) := by decide +kernel
theorem dX9_put_48 : decode cX9_put 48 = .ok (.invokevirtual 82, 3) := by decide +kernel
theorem dX9_put_51 : decode cX9_put 51 = .ok (.ireturn, 1) := by decide +kernel
theorem dX9_put_52 : decode cX9_put 52 = .ok (.aload_n 0, 1) := by decide +kernel
theorem dX9_put_53 : decode cX9_put 53 = .ok (.getfield 61, 3) := by decide +kernel
theorem dX9_put_56 : decode cX9_put 56 = .ok (.iload_n 1, 1) := by decide +kernel
theorem dX9_put_57 : decode cX9_put 57 = .ok (.iload_n 2, 1) := by decide +kernel
theorem dX9_put_58 : decode cX9_put 58 = .ok (.iload_n 3, 1) := by decide +kernel
theorem dX9_put_59 : decode cX9_put 59 = .ok (.invokevirtual 332, 3) := by decide +kernel
theorem dX9_put_62 : decode cX9_put 62 = .ok (.iconst 1, 1) := by decide +kernel
theorem dX9_put_63 : decode cX9_put 63 = .ok (.ireturn, 1) := by decide +kernel
theorem dX9_move_0 : decode cX9_move 0 = .ok (.iload_n 1, 1) := by decide +kernel
theorem dX9_move_1 : decode cX9_move 1 = .ok (.invokestatic 151, 3) := by decide +kernel
theorem dX9_move_4 : decode cX9_move 4 = .ok (.ifCond .eq 10, 3) := by decide +kernel
theorem dX9_move_7 : decode cX9_move 7 = .ok (.iload_n 3, 1) := by decide +kernel
theorem dX9_move_8 : decode cX9_move 8 = .ok (.invokestatic 151, 3) := by decide +kernel
theorem dX9_move_11 : decode cX9_move 11 = .ok (.ifCond .ne 10, 3) := by decide +kernel
theorem dX9_move_14 : decode cX9_move 14 = .ok (.aload_n 0, 1) := by decide +kernel
theorem dX9_move_15 : decode cX9_move 15 = .ok (.ldc 81, 2) := by decide +kernel
theorem dX9_move_17 : decode cX9_move 17 = .ok (.invokevirtual 82, 3) := by decide +kernel
theorem dX9_move_20 : decode cX9_move 20 = .ok (.ireturn, 1) := by decide +kernel
theorem dX9_move_21 : decode cX9_move 21 = .ok (.aload_n 0, 1) := by decide +kernel
theorem dX9_move_22 : decode cX9_move 22 = .ok (.getfield 61, 3) := by decide +kernel
theorem dX9_move_25 : decode cX9_move 25 = .ok (.iload_n 1, 1) := by decide +kernel
theorem dX9_move_26 : decode cX9_move 26 = .ok (.invokevirtual 154, 3) := by decide +kernel
theorem dX9_move_29 : decode cX9_move 29 = .ok (.ifCond .ne 14, 3) := by decide +kernel
theorem dX9_move_32 : decode cX9_move 32 = .ok (.aload_n 0, 1) := by decide +kernel
theorem dX9_move_33 : decode cX9_move 33 = .ok (.getfield 61, 3) := by decide +kernel
theorem dX9_move_36 : decode cX9_move 36 = .ok (.iload_n 3, 1) := by decide +kernel
theorem dX9_move_37 : decode cX9_move 37 = .ok (.invokevirtual 154, 3) := by decide +kernel
theorem dX9_move_40 : decode cX9_move 40 = .ok (.ifCond .eq 10, 3) := by decide +kernel
theorem dX9_move_43 : decode cX9_move 43 = .ok (.aload_n 0, 1) := by decide +kernel
theorem dX9_move_44 : decode cX9_move 44 = .ok (.ldc 157, 2) := by decide +kernel
theorem dX9_move_46 : decode cX9_move 46 = .ok (.invokevirtual 82, 3) := by decide +kernel
theorem dX9_move_49 : decode cX9_move 49 = .ok (.ireturn, 1) := by decide +kernel
theorem dX9_move_50 : decode cX9_move 50 = .ok (.aload_n 0, 1) := by decide +kernel
theorem dX9_move_51 : decode cX9_move 51 = .ok (.getfield 61, 3) := by decide +kernel
theorem dX9_move_54 : decode cX9_move 54 = .ok (.iload_n 1, 1) := by decide +kernel
theorem dX9_move_55 : decode cX9_move 55 = .ok (.iload_n 3, 1) := by decide +kernel
theorem dX9_move_56 : decode cX9_move 56 = .ok (.invokevirtual 335, 3) := by decide +kernel
theorem dX9_move_59 : decode cX9_move 59 = .ok (.ifCond .ne 10, 3) := by decide +kernel
theorem dX9_move_62 : decode cX9_move 62 = .ok (.aload_n 0, 1) := by decide +kernel
theorem dX9_move_63 : decode cX9_move 63 = .ok (.ldc 134, 2) := by decide +kernel
theorem dX9_move_65 : decode cX9_move 65 = .ok (.invokevirtual 82, 3) := by decide +kernel
theorem dX9_move_68 : decode cX9_move 68 = .ok (.ireturn, 1) := by decide +kernel
theorem dX9_move_69 : decode cX9_move 69 = .ok (.aload_n 0, 1) := by decide +kernel
theorem dX9_move_70 : decode cX9_move 70 = .ok (.getfield 61, 3) := by decide +kernel
theorem dX9_move_73 : decode cX9_move 73 = .ok (.iload_n 1, 1) := by decide +kernel
theorem dX9_move_74 : decode cX9_move 74 = .ok (.iload_n 2, 1) := by decide +kernel
theorem dX9_move_75 : decode cX9_move 75 = .ok (.iload 5, 2) := by decide +kernel
theorem dX9_move_77 : decode cX9_move 77 = .ok (.invokevirtual 328, 3) := by decide +kernel
theorem dX9_move_80 : decode cX9_move 80 = .ok (.ifCond .eq 18, 3) := by decide +kernel
theorem dX9_move_83 : decode cX9_move 83 = .ok (.aload_n 0, 1) := by decide +kernel
theorem dX9_move_84 : decode cX9_move 84 = .ok (.getfield 61, 3) := by decide +kernel
theorem dX9_move_87 : decode cX9_move 87 = .ok (.iload_n 3, 1) := by decide +kernel
theorem dX9_move_88 : decode cX9_move 88 = .ok (.iload 4, 2) := by decide +kernel
theorem dX9_move_90 : decode cX9_move 90 = .ok (.iload 5, 2) := by decide +kernel
theorem dX9_move_92 : decode cX9_move 92 = .ok (.invokevirtual 328, 3) := by decide +kernel
theorem dX9_move_95 : decode cX9_move 95 = .ok (.ifCond .ne 10, 3) := by decide +kernel
theorem dX9_move_98 : decode cX9_move 98 = .ok (.aload_n 0, 1) := by decide +kernel
theorem dX9_move_99 : decode cX9_move 99 = .ok (.ldc 81, 2) := by decide +kernel
theorem dX9_move_101 : decode cX9_move 101 = .ok (.invokevirtual 82, 3) := by decide +kernel
theorem dX9_move_104 : decode cX9_move 104 = .ok (.ireturn, 1) := by decide +kernel
theorem dX9_move_105 : decode cX9_move 105 = .ok (.aload_n 0, 1) := by decide +kernel
theorem dX9_move_106 : decode cX9_move 106 = .ok (.getfield 61, 3) := by decide +kernel
theorem dX9_move_109 : decode cX9_move 109 = .ok (.iload_n 1, 1) := by decide +kernel
theorem dX9_move_110 : decode cX9_move 110 = .ok (.iload_n 2, 1) := by decide +kernel
theorem dX9_move_111 : decode cX9_move 111 = .ok (.iload_n 3, 1) := by decide +kernel
theorem dX9_move_112 : decode cX9_move 112 = .ok (.iload 4, 2) := by decide +kernel
theorem dX9_move_114 : decode cX9_move 114 = .ok (.iload 5, 2) := by decide +kernel
theorem dX9_move_116 : decode cX9_move 116 = .ok (.invokevirtual 338, 3) := by decide +kernel
theorem dX9_move_119 : decode cX9_move 119 = .ok (.iload 5, 2) := by decide +kernel
theorem dX9_move_121 : decode cX9_move 121 = .ok (.ireturn, 1) := by decide +kernel
theorem dX9_image_0 : decode cX9_image 0 = .ok (.aload_n 0, 1) := by decide +kernel
theorem dX9_image_1 : decode cX9_image 1 = .ok (.getfield 16, 3) := by decide +kernel
theorem dX9_image_4 : decode cX9_image 4 = .ok (.aload_n 0, 1) := by decide +kernel
theorem dX9_image_5 : decode cX9_image 5 = .ok (.getfield 12, 3) := by decide +kernel
theorem dX9_image_8 : decode cX9_image 8 = .ok (.invokevirtual 342, 3) := by decide +kernel
theorem dX9_image_11 : decode cX9_image 11 = .ok (.aload_n 0, 1) := by decide +kernel
theorem dX9_image_12 : decode cX9_image 12 = .ok (.dup, 1) := by decide +kernel
theorem dX9_image_13 : decode cX9_image 13 = .ok (.getfield 345, 3) := by decide +kernel
theorem dX9_image_16 : decode cX9_image 16 = .ok (.iconst 1, 1) := by decide +kernel
theorem dX9_image_17 : decode cX9_image 17 = .ok (.iadd, 1) := by decide +kernel
theorem dX9_image_18 : decode cX9_image 18 = .ok (.putfield 345, 3) := by decide +kernel
theorem dX9_image_21 : decode cX9_image 21 = .ok (.aload_n 0, 1) := by decide +kernel
theorem dX9_image_22 : decode cX9_image 22 = .ok (.getfield 345, 3) := by decide +kernel
theorem dX9_image_25 : decode cX9_image 25 = .ok (.ireturn, 1) := by decide +kernel
theorem dX9_restore_0 : decode cX9_restore 0 = .ok (.aload_n 0, 1) := by decide +kernel
theorem dX9_restore_1 : decode cX9_restore 1 = .ok (.getfield 345, 3) := by decide +kernel
theorem dX9_restore_4 : decode cX9_restore 4 = .ok (.ifCond .ne 10, 3) := by decide +kernel
theorem dX9_restore_7 : decode cX9_restore 7 = .ok (.aload_n 0, 1) := by decide +kernel
theorem dX9_restore_8 : decode cX9_restore 8 = .ok (.ldc 157, 2) := by decide +kernel
theorem dX9_restore_10 : decode cX9_restore 10 = .ok (.invokevirtual 82, 3) := by decide +kernel
theorem dX9_restore_13 : decode cX9_restore 13 = .ok (.ireturn, 1) := by decide +kernel
theorem dX9_restore_14 : decode cX9_restore 14 = .ok (.aload_n 0, 1) := by decide +kernel
theorem dX9_restore_15 : decode cX9_restore 15 = .ok (.getfield 12, 3) := by decide +kernel
theorem dX9_restore_18 : decode cX9_restore 18 = .ok (.aload_n 0, 1) := by decide +kernel
theorem dX9_restore_19 : decode cX9_restore 19 = .ok (.getfield 16, 3) := by decide +kernel
theorem dX9_restore_22 : decode cX9_restore 22 = .ok (.invokevirtual 342, 3) := by decide +kernel
theorem dX9_restore_25 : decode cX9_restore 25 = .ok (.aload_n 0, 1) := by decide +kernel
theorem dX9_restore_26 : decode cX9_restore 26 = .ok (.getfield 12, 3) := by decide +kernel
theorem dX9_restore_29 : decode cX9_restore 29 = .ok (.getfield 104, 3) := by decide +kernel
theorem dX9_restore_32 : decode cX9_restore 32 = .ok (.ireturn, 1) := by decide +kernel
theorem dX9_tell_0 : decode cX9_tell 0 = .ok (.aload_n 0, 1) := by decide +kernel
theorem dX9_tell_1 : decode cX9_tell 1 = .ok (.getfield 12, 3) := by decide +kernel
theorem dX9_tell_4 : decode cX9_tell 4 = .ok (.getfield 348, 3) := by decide +kernel
theorem dX9_tell_7 : decode cX9_tell 7 = .ok (.bipush 20, 2) := by decide +kernel
theorem dX9_tell_9 : decode cX9_tell 9 = .ok (.if_icmp .lt 10, 3) := by decide +kernel
theorem dX9_tell_12 : decode cX9_tell 12 = .ok (.aload_n 0, 1) := by decide +kernel
theorem dX9_tell_13 : decode cX9_tell 13 = .ok (.ldc 107, 2) := by decide +kernel
theorem dX9_tell_15 : decode cX9_tell 15 = .ok (.invokevirtual 82, 3) := by decide +kernel
theorem dX9_tell_18 : decode cX9_tell 18 = .ok (.ireturn, 1) := by decide +kernel
theorem dX9_tell_19 : decode cX9_tell 19 = .ok (.aload_n 0, 1) := by decide +kernel
theorem dX9_tell_20 : decode cX9_tell 20 = .ok (.getfield 12, 3) := by decide +kernel
theorem dX9_tell_23 : decode cX9_tell 23 = .ok (.getfield 351, 3) := by decide +kernel
theorem dX9_tell_26 : decode cX9_tell 26 = .ok (.aload_n 0, 1) := by decide +kernel
theorem dX9_tell_27 : decode cX9_tell 27 = .ok (.getfield 12, 3) := by decide +kernel
theorem dX9_tell_30 : decode cX9_tell 30 = .ok (.getfield 348, 3) := by decide +kernel
theorem dX9_tell_33 : decode cX9_tell 33 = .ok (.iload_n 1, 1) := by decide +kernel
theorem dX9_tell_34 : decode cX9_tell 34 = .ok (.iastore, 1) := by decide +kernel
theorem dX9_tell_35 : decode cX9_tell 35 = .ok (.aload_n 0, 1) := by decide +kernel
theorem dX9_tell_36 : decode cX9_tell 36 = .ok (.getfield 12, 3) := by decide +kernel
theorem dX9_tell_39 : decode cX9_tell 39 = .ok (.dup, 1) := by decide +kernel
theorem dX9_tell_40 : decode cX9_tell 40 = .ok (.getfield 348, 3) := by decide +kernel
theorem dX9_tell_43 : decode cX9_tell 43 = .ok (.iconst 1, 1) := by decide +kernel
theorem dX9_tell_44 : decode cX9_tell 44 = .ok (.iadd, 1) := by decide +kernel
theorem dX9_tell_45 : decode cX9_tell 45 = .ok (.putfield 348, 3) := by decide +kernel
theorem dX9_tell_48 : decode cX9_tell 48 = .ok (.aload_n 0, 1) := by decide +kernel
theorem dX9_tell_49 : decode cX9_tell 49 = .ok (.getfield 12, 3) := by decide +kernel
theorem dX9_tell_52 : decode cX9_tell 52 = .ok (.getfield 348, 3) := by decide +kernel
theorem dX9_tell_55 : decode cX9_tell 55 = .ok (.ireturn, 1) := by decide +kernel
theorem dX9_check_0 : decode cX9_check 0 = .ok (.aload_n 0, 1) := by decide +kernel
theorem dX9_check_1 : decode cX9_check 1 = .ok (.getfield 12, 3) := by decide +kernel
theorem dX9_check_4 : decode cX9_check 4 = .ok (.getfield 348, 3) := by decide +kernel
theorem dX9_check_7 : decode cX9_check 7 = .ok (.istore_n 2, 1) := by decide +kernel
theorem dX9_check_8 : decode cX9_check 8 = .ok (.aload_n 0, 1) := by decide +kernel
theorem dX9_check_9 : decode cX9_check 9 = .ok (.getfield 12, 3) := by decide +kernel
theorem dX9_check_12 : decode cX9_check 12 = .ok (.iconst 0, 1) := by decide +kernel
theorem dX9_check_13 : decode cX9_check 13 = .ok (.putfield 348, 3) := by decide +kernel
theorem dX9_check_16 : decode cX9_check 16 = .ok (.iload_n 1, 1) := by decide +kernel
theorem dX9_check_17 : decode cX9_check 17 = .ok (.invokestatic 138, 3) := by decide +kernel
theorem dX9_check_20 : decode cX9_check 20 = .ok (.ifCond .ne 10, 3) := by decide +kernel
theorem dX9_check_23 : decode cX9_check 23 = .ok (.aload_n 0, 1) := by decide +kernel
theorem dX9_check_24 : decode cX9_check 24 = .ok (.ldc 81, 2) := by decide +kernel
theorem dX9_check_26 : decode cX9_check 26 = .ok (.invokevirtual 82, 3) := by decide +kernel
theorem dX9_check_29 : decode cX9_check 29 = .ok (.ireturn, 1) := by decide +kernel
theorem dX9_check_30 : decode cX9_check 30 = .ok (.aload_n 0, 1) := by decide +kernel
theorem dX9_check_31 : decode cX9_check 31 = .ok (.getfield 31, 3) := by decide +kernel
theorem dX9_check_34 : decode cX9_check 34 = .ok (.iload_n 1, 1) := by decide +kernel
theorem dX9_check_35 : decode cX9_check 35 = .ok (.aload_n 0, 1) := by decide +kernel
theorem dX9_check_36 : decode cX9_check 36 = .ok (.getfield 12, 3) := by decide +kernel
theorem dX9_check_39 : decode cX9_check 39 = .ok (.getfield 94, 3) := by decide +kernel
theorem dX9_check_42 : decode cX9_check 42 = .ok (.invokevirtual 195, 3) := by decide +kernel
theorem dX9_check_45 : decode cX9_check 45 = .ok (.iload_n 2, 1) := by decide +kernel
theorem dX9_check_46 : decode cX9_check 46 = .ok (.aload_n 0, 1) := by decide +kernel
theorem dX9_check_47 : decode cX9_check 47 = .ok (.getfield 12, 3) := by decide +kernel
theorem dX9_check_50 : decode cX9_check 50 = .ok (.getfield 104, 3) := by decide +kernel
theorem dX9_check_53 : decode cX9_check 53 = .ok (.invokestatic 285, 3) := by decide +kernel
theorem dX9_check_56 : decode cX9_check 56 = .ok (.istore_n 3, 1) := by decide +kernel
theorem dX9_check_57 : decode cX9_check 57 = .ok (.iconst 0, 1) := by decide +kernel
theorem dX9_check_58 : decode cX9_check 58 = .ok (.istore 4, 2) := by decide +kernel
theorem dX9_check_60 : decode cX9_check 60 = .ok (.iload 4, 2) := by decide +kernel
theorem dX9_check_62 : decode cX9_check 62 = .ok (.iload_n 3, 1) := by decide +kernel
theorem dX9_check_63 : decode cX9_check 63 = .ok (.if_icmp .ge 41, 3) := by decide +kernel
theorem dX9_check_66 : decode cX9_check 66 = .ok (.iload 4, 2) := by decide +kernel
theorem dX9_check_68 : decode cX9_check 68 = .ok (.iload_n 2, 1) := by decide +kernel
theorem dX9_check_69 : decode cX9_check 69 = .ok (.if_icmp .ge 24, 3) := by decide +kernel
theorem dX9_check_72 : decode cX9_check 72 = .ok (.iload 4, 2) := by decide +kernel
theorem dX9_check_74 : decode cX9_check 74 = .ok (.aload_n 0, 1) := by decide +kernel
theorem dX9_check_75 : decode cX9_check 75 = .ok (.getfield 12, 3) := by decide +kernel
theorem dX9_check_78 : decode cX9_check 78 = .ok (.getfield 104, 3) := by decide +kernel
theorem dX9_check_81 : decode cX9_check 81 = .ok (.if_icmp .ge 12, 3) := by decide +kernel
theorem dX9_check_84 : decode cX9_check 84 = .ok (.aload_n 0, 1) := by decide +kernel
theorem dX9_check_85 : decode cX9_check 85 = .ok (.iload 4, 2) := by decide +kernel
theorem dX9_check_87 : decode cX9_check 87 = .ok (.invokevirtual 354, 3) := by decide +kernel
theorem dX9_check_90 : decode cX9_check 90 = .ok (.ifCond .eq 8, 3) := by decide +kernel
theorem dX9_check_93 : decode cX9_check 93 = .ok (.iconst 1, 1) := by decide +kernel
theorem dX9_check_94 : decode cX9_check 94 = .ok (.iload 4, 2) := by decide +kernel
theorem dX9_check_96 : decode cX9_check 96 = .ok (.iadd, 1) := by decide +kernel
theorem dX9_check_97 : decode cX9_check 97 = .ok (.ireturn, 1) := by decide +kernel
theorem dX9_check_98 : decode cX9_check 98 = .ok (.iinc 4 1, 3) := by decide +kernel
theorem dX9_check_101 : decode cX9_check 101 = .ok (.goto (-41), 3) := by decide +kernel
theorem dX9_check_104 : decode cX9_check 104 = .ok (.iconst 0, 1) := by decide +kernel
theorem dX9_check_105 : decode cX9_check 105 = .ok (.ireturn, 1) := by decide +kernel
theorem dX9_count_0 : decode cX9_count 0 = .ok (.iload_n 1, 1) := by decide +kernel
theorem dX9_count_1 : decode cX9_count 1 = .ok (.tableswitch 111 0 7 #[47, 55, 63, 71, 79, 87, 95, 103], 47) := by decide +kernel
theorem dX9_count_48 : decode cX9_count 48 = .ok (.aload_n 0, 1) := by decide +kernel
theorem dX9_count_49 : decode cX9_count 49 = .ok (.getfield 12, 3) := by decide +kernel
theorem dX9_count_52 : decode cX9_count 52 = .ok (.getfield 104, 3) := by decide +kernel
theorem dX9_count_55 : decode cX9_count 55 = .ok (.ireturn, 1) := by decide +kernel
theorem dX9_count_56 : decode cX9_count 56 = .ok (.aload_n 0, 1) := by decide +kernel
theorem dX9_count_57 : decode cX9_count 57 = .ok (.getfield 12, 3) := by decide +kernel
theorem dX9_count_60 : decode cX9_count 60 = .ok (.getfield 144, 3) := by decide +kernel
theorem dX9_count_63 : decode cX9_count 63 = .ok (.ireturn, 1) := by decide +kernel
theorem dX9_count_64 : decode cX9_count 64 = .ok (.aload_n 0, 1) := by decide +kernel
theorem dX9_count_65 : decode cX9_count 65 = .ok (.getfield 12, 3) := by decide +kernel
theorem dX9_count_68 : decode cX9_count 68 = .ok (.invokevirtual 357, 3) := by decide +kernel
theorem dX9_count_71 : decode cX9_count 71 = .ok (.ireturn, 1) := by decide +kernel
theorem dX9_count_72 : decode cX9_count 72 = .ok (.aload_n 0, 1) := by decide +kernel
theorem dX9_count_73 : decode cX9_count 73 = .ok (.getfield 12, 3) := by decide +kernel
theorem dX9_count_76 : decode cX9_count 76 = .ok (.getfield 94, 3) := by decide +kernel
theorem dX9_count_79 : decode cX9_count 79 = .ok (.ireturn, 1) := by decide +kernel
theorem dX9_count_80 : decode cX9_count 80 = .ok (.aload_n 0, 1) := by decide +kernel
theorem dX9_count_81 : decode cX9_count 81 = .ok (.getfield 12, 3) := by decide +kernel
theorem dX9_count_84 : decode cX9_count 84 = .ok (.getfield 201, 3) := by decide +kernel
theorem dX9_count_87 : decode cX9_count 87 = .ok (.ireturn, 1) := by decide +kernel
theorem dX9_count_88 : decode cX9_count 88 = .ok (.aload_n 0, 1) := by decide +kernel
theorem dX9_count_89 : decode cX9_count 89 = .ok (.getfield 12, 3) := by decide +kernel
theorem dX9_count_92 : decode cX9_count 92 = .ok (.getfield 348, 3) := by decide +kernel
theorem dX9_count_95 : decode cX9_count 95 = .ok (.ireturn, 1) := by decide +kernel
theorem dX9_count_96 : decode cX9_count 96 = .ok (.aload_n 0, 1) := by decide +kernel
theorem dX9_count_97 : decode cX9_count 97 = .ok (.getfield 54, 3) := by decide +kernel
theorem dX9_count_100 : decode cX9_count 100 = .ok (.getfield 316, 3) := by decide +kernel
theorem dX9_count_103 : decode cX9_count 103 = .ok (.ireturn, 1) := by decide +kernel
theorem dX9_count_104 : decode cX9_count 104 = .ok (.aload_n 0, 1) := by decide +kernel
theorem dX9_count_105 : decode cX9_count 105 = .ok (.getfield 12, 3) := by decide +kernel
theorem dX9_count_108 : decode cX9_count 108 = .ok (.getfield 309, 3) := by decide +kernel
theorem dX9_count_111 : decode cX9_count 111 = .ok (.ireturn, 1) := by decide +kernel
theorem dX9_count_112 : decode cX9_count 112 = .ok (.aload_n 0, 1) := by decide +kernel
theorem dX9_count_113 : decode cX9_count 113 = .ok (.ldc 81, 2) := by decide +kernel
theorem dX9_count_115 : decode cX9_count 115 = .ok (.invokevirtual 82, 3) := by decide +kernel
theorem dX9_count_118 : decode cX9_count 118 = .ok (.ireturn, 1) := by decide +kernel
theorem dX9_told_0 : decode cX9_told 0 = .ok (.iload_n 1, 1) := by decide +kernel
theorem dX9_told_1 : decode cX9_told 1 = .ok (.iconst 1, 1) := by decide +kernel
theorem dX9_told_2 : decode cX9_told 2 = .ok (.if_icmp .lt 8, 3) := by decide +kernel
theorem dX9_told_5 : decode cX9_told 5 = .ok (.iload_n 1, 1) := by decide +kernel
theorem dX9_told_6 : decode cX9_told 6 = .ok (.iconst 5, 1) := by decide +kernel
theorem dX9_told_7 : decode cX9_told 7 = .ok (.if_icmp .le 10, 3) := by decide +kernel
theorem dX9_told_10 : decode cX9_told 10 = .ok (.aload_n 0, 1) := by decide +kernel
theorem dX9_told_11 : decode cX9_told 11 = .ok (.ldc 81, 2) := by decide +kernel
theorem dX9_told_13 : decode cX9_told 13 = .ok (.invokevirtual 82, 3) := by decide +kernel
theorem dX9_told_16 : decode cX9_told 16 = .ok (.ireturn, 1) := by decide +kernel
theorem dX9_told_17 : decode cX9_told 17 = .ok (.aload_n 0, 1) := by decide +kernel
theorem dX9_told_18 : decode cX9_told 18 = .ok (.getfield 65, 3) := by decide +kernel
theorem dX9_told_21 : decode cX9_told 21 = .ok (.iload_n 1, 1) := by decide +kernel
theorem dX9_told_22 : decode cX9_told 22 = .ok (.iaload, 1) := by decide +kernel
theorem dX9_told_23 : decode cX9_told 23 = .ok (.ireturn, 1) := by decide +kernel
theorem dX9_error_0 : decode cX9_error 0 = .ok (.ldc_w 360, 3) := by decide +kernel
theorem dX9_error_3 : decode cX9_error 3 = .ok (.iload_n 1, 1) := by decide +kernel
theorem dX9_error_4 : decode cX9_error 4 = .ok (.isub, 1) := by decide +kernel
theorem dX9_error_5 : decode cX9_error 5 = .ok (.istore_n 2, 1) := by decide +kernel
theorem dX9_error_6 : decode cX9_error 6 = .ok (.iload_n 2, 1) := by decide +kernel
theorem dX9_error_7 : decode cX9_error 7 = .ok (.iconst 1, 1) := by decide +kernel
theorem dX9_error_8 : decode cX9_error 8 = .ok (.if_icmp .lt 18, 3) := by decide +kernel
theorem dX9_error_11 : decode cX9_error 11 = .ok (.iload_n 2, 1) := by decide +kernel
theorem dX9_error_12 : decode cX9_error 12 = .ok (.iconst 5, 1) := by decide +kernel
theorem dX9_error_13 : decode cX9_error 13 = .ok (.if_icmp .gt 13, 3) := by decide +kernel
theorem dX9_error_16 : decode cX9_error 16 = .ok (.aload_n 0, 1) := by decide +kernel
theorem dX9_error_17 : decode cX9_error 17 = .ok (.getfield 65, 3) := by decide +kernel
theorem dX9_error_20 : decode cX9_error 20 = .ok (.iload_n 2, 1) := by decide +kernel
theorem dX9_error_21 : decode cX9_error 21 = .ok (.dup2, 1) := by decide +kernel
theorem dX9_error_22 : decode cX9_error 22 = .ok (.iaload, 1) := by decide +kernel
theorem dX9_error_23 : decode cX9_error 23 = .ok (.iconst 1, 1) := by decide +kernel
theorem dX9_error_24 : decode cX9_error 24 = .ok (.iadd, 1) := by decide +kernel
theorem dX9_error_25 : decode cX9_error 25 = .ok (.iastore, 1) := by decide +kernel
theorem dX9_error_26 : decode cX9_error 26 = .ok (.iload_n 1, 1) := by decide +kernel
theorem dX9_error_27 : decode cX9_error 27 = .ok (.ireturn, 1) := by decide +kernel
theorem dX9_isBell_0 : decode cX9_isBell 0 = .ok (.iload_n 1, 1) := by decide +kernel
theorem dX9_isBell_1 : decode cX9_isBell 1 = .ok (.ifCond .lt 24, 3) := by decide +kernel
theorem dX9_isBell_4 : decode cX9_isBell 4 = .ok (.iload_n 1, 1) := by decide +kernel
theorem dX9_isBell_5 : decode cX9_isBell 5 = .ok (.aload_n 0, 1) := by decide +kernel
theorem dX9_isBell_6 : decode cX9_isBell 6 = .ok (.getfield 12, 3) := by decide +kernel
theorem dX9_isBell_9 : decode cX9_isBell 9 = .ok (.getfield 104, 3) := by decide +kernel
theorem dX9_isBell_12 : decode cX9_isBell 12 = .ok (.if_icmp .ge 13, 3) := by decide +kernel
theorem dX9_isBell_15 : decode cX9_isBell 15 = .ok (.iload_n 1, 1) := by decide +kernel
theorem dX9_isBell_16 : decode cX9_isBell 16 = .ok (.bipush 8, 2) := by decide +kernel
theorem dX9_isBell_18 : decode cX9_isBell 18 = .ok (.if_icmp .ge 7, 3) := by decide +kernel
theorem dX9_isBell_21 : decode cX9_isBell 21 = .ok (.iconst 1, 1) := by decide +kernel
theorem dX9_isBell_22 : decode cX9_isBell 22 = .ok (.goto 4, 3) := by decide +kernel
theorem dX9_isBell_25 : decode cX9_isBell 25 = .ok (.iconst 0, 1) := by decide +kernel
theorem dX9_isBell_26 : decode cX9_isBell 26 = .ok (.ireturn, 1) := by decide +kernel
theorem dX9_isEar_0 : decode cX9_isEar 0 = .ok (.iload_n 1, 1) := by decide +kernel
theorem dX9_isEar_1 : decode cX9_isEar 1 = .ok (.ifCond .lt 24, 3) := by decide +kernel
theorem dX9_isEar_4 : decode cX9_isEar 4 = .ok (.iload_n 1, 1) := by decide +kernel
theorem dX9_isEar_5 : decode cX9_isEar 5 = .ok (.aload_n 0, 1) := by decide +kernel
theorem dX9_isEar_6 : decode cX9_isEar 6 = .ok (.getfield 12, 3) := by decide +kernel
theorem dX9_isEar_9 : decode cX9_isEar 9 = .ok (.getfield 144, 3) := by decide +kernel
theorem dX9_isEar_12 : decode cX9_isEar 12 = .ok (.if_icmp .ge 13, 3) := by decide +kernel
theorem dX9_isEar_15 : decode cX9_isEar 15 = .ok (.iload_n 1, 1) := by decide +kernel
theorem dX9_isEar_16 : decode cX9_isEar 16 = .ok (.bipush 10, 2) := by decide +kernel
theorem dX9_isEar_18 : decode cX9_isEar 18 = .ok (.if_icmp .ge 7, 3) := by decide +kernel
theorem dX9_isEar_21 : decode cX9_isEar 21 = .ok (.iconst 1, 1) := by decide +kernel
theorem dX9_isEar_22 : decode cX9_isEar 22 = .ok (.goto 4, 3) := by decide +kernel
theorem dX9_isEar_25 : decode cX9_isEar 25 = .ok (.iconst 0, 1) := by decide +kernel
theorem dX9_isEar_26 : decode cX9_isEar 26 = .ok (.ireturn, 1) := by decide +kernel
theorem dX9_isSpot_0 : decode cX9_isSpot 0 = .ok (.iload_n 0, 1) := by decide +kernel
theorem dX9_isSpot_1 : decode cX9_isSpot 1 = .ok (.ifCond .lt 13, 3) := by decide +kernel
theorem dX9_isSpot_4 : decode cX9_isSpot 4 = .ok (.iload_n 0, 1) := by decide +kernel
theorem dX9_isSpot_5 : decode cX9_isSpot 5 = .ok (.bipush 100, 2) := by decide +kernel
theorem dX9_isSpot_7 : decode cX9_isSpot 7 = .ok (.if_icmp .ge 7, 3) := by decide +kernel
theorem dX9_isSpot_10 : decode cX9_isSpot 10 = .ok (.iconst 1, 1) := by decide +kernel
theorem dX9_isSpot_11 : decode cX9_isSpot 11 = .ok (.goto 4, 3) := by decide +kernel
theorem dX9_isSpot_14 : decode cX9_isSpot 14 = .ok (.iconst 0, 1) := by decide +kernel
theorem dX9_isSpot_15 : decode cX9_isSpot 15 = .ok (.ireturn, 1) := by decide +kernel
theorem dX9_isHour_0 : decode cX9_isHour 0 = .ok (.iload_n 0, 1) := by decide +kernel
theorem dX9_isHour_1 : decode cX9_isHour 1 = .ok (.ifCond .lt 13, 3) := by decide +kernel
theorem dX9_isHour_4 : decode cX9_isHour 4 = .ok (.iload_n 0, 1) := by decide +kernel
theorem dX9_isHour_5 : decode cX9_isHour 5 = .ok (.bipush 24, 2) := by decide +kernel
theorem dX9_isHour_7 : decode cX9_isHour 7 = .ok (.if_icmp .ge 7, 3) := by decide +kernel
theorem dX9_isHour_10 : decode cX9_isHour 10 = .ok (.iconst 1, 1) := by decide +kernel
theorem dX9_isHour_11 : decode cX9_isHour 11 = .ok (.goto 4, 3) := by decide +kernel
theorem dX9_isHour_14 : decode cX9_isHour 14 = .ok (.iconst 0, 1) := by decide +kernel
theorem dX9_isHour_15 : decode cX9_isHour 15 = .ok (.ireturn, 1) := by decide +kernel
theorem dX9_isUse_0 : decode cX9_isUse 0 = .ok (.iload_n 0, 1) := by decide +kernel
theorem dX9_isUse_1 : decode cX9_isUse 1 = .ok (.ifCond .eq 8, 3) := by decide +kernel
theorem dX9_isUse_4 : decode cX9_isUse 4 = .ok (.iload_n 0, 1) := by decide +kernel
theorem dX9_isUse_5 : decode cX9_isUse 5 = .ok (.iconst 1, 1) := by decide +kernel
theorem dX9_isUse_6 : decode cX9_isUse 6 = .ok (.if_icmp .ne 7, 3) := by decide +kernel
theorem dX9_isUse_9 : decode cX9_isUse 9 = .ok (.iconst 1, 1) := by decide +kernel
theorem dX9_isUse_10 : decode cX9_isUse 10 = .ok (.goto 4, 3) := by decide +kernel
theorem dX9_isUse_13 : decode cX9_isUse 13 = .ok (.iconst 0, 1) := by decide +kernel
theorem dX9_isUse_14 : decode cX9_isUse 14 = .ok (.ireturn, 1) := by decide +kernel
theorem dX9_isEither_0 : decode cX9_isEither 0 = .ok (.iload_n 0, 1) := by decide +kernel
theorem dX9_isEither_1 : decode cX9_isEither 1 = .ok (.ifCond .eq 8, 3) := by decide +kernel
theorem dX9_isEither_4 : decode cX9_isEither 4 = .ok (.iload_n 0, 1) := by decide +kernel
theorem dX9_isEither_5 : decode cX9_isEither 5 = .ok (.iconst 1, 1) := by decide +kernel
theorem dX9_isEither_6 : decode cX9_isEither 6 = .ok (.if_icmp .ne 7, 3) := by decide +kernel
theorem dX9_isEither_9 : decode cX9_isEither 9 = .ok (.iconst 1, 1) := by decide +kernel
theorem dX9_isEither_10 : decode cX9_isEither 10 = .ok (.goto 4, 3) := by decide +kernel
theorem dX9_isEither_13 : decode cX9_isEither 13 = .ok (.iconst 0, 1) := by decide +kernel
theorem dX9_isEither_14 : decode cX9_isEither 14 = .ok (.ireturn, 1) := by decide +kernel
theorem dX9_canBeSet_0 : decode cX9_canBeSet 0 = .ok (.iload_n 0, 1) := by decide +kernel
theorem dX9_canBeSet_1 : decode cX9_canBeSet 1 = .ok (.tableswitch 77 0 2 #[27, 44, 60], 27) := by decide +kernel
theorem dX9_canBeSet_28 : decode cX9_canBeSet 28 = .ok (.iload_n 1, 1) := by decide +kernel
theorem dX9_canBeSet_29 : decode cX9_canBeSet 29 = .ok (.bipush (-5), 2) := by decide +kernel
theorem dX9_canBeSet_31 : decode cX9_canBeSet 31 = .ok (.if_icmp .lt 12, 3) := by decide +kernel
theorem dX9_canBeSet_34 : decode cX9_canBeSet 34 = .ok (.iload_n 1, 1) := by decide +kernel
theorem dX9_canBeSet_35 : decode cX9_canBeSet 35 = .ok (.iconst 5, 1) := by decide +kernel
theorem dX9_canBeSet_36 : decode cX9_canBeSet 36 = .ok (.if_icmp .gt 7, 3) := by decide +kernel
theorem dX9_canBeSet_39 : decode cX9_canBeSet 39 = .ok (.iconst 1, 1) := by decide +kernel
theorem dX9_canBeSet_40 : decode cX9_canBeSet 40 = .ok (.goto 4, 3) := by decide +kernel
theorem dX9_canBeSet_43 : decode cX9_canBeSet 43 = .ok (.iconst 0, 1) := by decide +kernel
theorem dX9_canBeSet_44 : decode cX9_canBeSet 44 = .ok (.ireturn, 1) := by decide +kernel
theorem dX9_canBeSet_45 : decode cX9_canBeSet 45 = .ok (.iload_n 1, 1) := by decide +kernel
theorem dX9_canBeSet_46 : decode cX9_canBeSet 46 = .ok (.ifCond .lt 13, 3) := by decide +kernel
theorem dX9_canBeSet_49 : decode cX9_canBeSet 49 = .ok (.iload_n 1, 1) := by decide +kernel
theorem dX9_canBeSet_50 : decode cX9_canBeSet 50 = .ok (.bipush 30, 2) := by decide +kernel
theorem dX9_canBeSet_52 : decode cX9_canBeSet 52 = .ok (.if_icmp .gt 7, 3) := by decide +kernel
theorem dX9_canBeSet_55 : decode cX9_canBeSet 55 = .ok (.iconst 1, 1) := by decide +kernel
theorem dX9_canBeSet_56 : decode cX9_canBeSet 56 = .ok (.goto 4, 3) := by decide +kernel
theorem dX9_canBeSet_59 : decode cX9_canBeSet 59 = .ok (.iconst 0, 1) := by decide +kernel
theorem dX9_canBeSet_60 : decode cX9_canBeSet 60 = .ok (.ireturn, 1) := by decide +kernel
theorem dX9_canBeSet_61 : decode cX9_canBeSet 61 = .ok (.iload_n 1, 1) := by decide +kernel
theorem dX9_canBeSet_62 : decode cX9_canBeSet 62 = .ok (.ifCond .lt 14, 3) := by decide +kernel
theorem dX9_canBeSet_65 : decode cX9_canBeSet 65 = .ok (.iload_n 1, 1) := by decide +kernel
theorem dX9_canBeSet_66 : decode cX9_canBeSet 66 = .ok (.sipush 300, 3) := by decide +kernel
theorem dX9_canBeSet_69 : decode cX9_canBeSet 69 = .ok (.if_icmp .gt 7, 3) := by decide +kernel
theorem dX9_canBeSet_72 : decode cX9_canBeSet 72 = .ok (.iconst 1, 1) := by decide +kernel
theorem dX9_canBeSet_73 : decode cX9_canBeSet 73 = .ok (.goto 4, 3) := by decide +kernel
theorem dX9_canBeSet_76 : decode cX9_canBeSet 76 = .ok (.iconst 0, 1) := by decide +kernel
theorem dX9_canBeSet_77 : decode cX9_canBeSet 77 = .ok (.ireturn, 1) := by decide +kernel
theorem dX9_canBeSet_78 : decode cX9_canBeSet 78 = .ok (.iconst 0, 1) := by decide +kernel
theorem dX9_canBeSet_79 : decode cX9_canBeSet 79 = .ok (.ireturn, 1) := by decide +kernel
theorem dX9_heldWithin_0 : decode cX9_heldWithin 0 = .ok (.iload_n 1, 1) := by decide +kernel
theorem dX9_heldWithin_1 : decode cX9_heldWithin 1 = .ok (.iload_n 2, 1) := by decide +kernel
theorem dX9_heldWithin_2 : decode cX9_heldWithin 2 = .ok (.iload_n 0, 1) := by decide +kernel
theorem dX9_heldWithin_3 : decode cX9_heldWithin 3 = .ok (.invokestatic 288, 3) := by decide +kernel
theorem dX9_heldWithin_6 : decode cX9_heldWithin 6 = .ok (.invokestatic 285, 3) := by decide +kernel
theorem dX9_heldWithin_9 : decode cX9_heldWithin 9 = .ok (.ireturn, 1) := by decide +kernel
theorem dX9_wayBetween_0 : decode cX9_wayBetween 0 = .ok (.iload_n 0, 1) := by decide +kernel
theorem dX9_wayBetween_1 : decode cX9_wayBetween 1 = .ok (.iload_n 1, 1) := by decide +kernel
theorem dX9_wayBetween_2 : decode cX9_wayBetween 2 = .ok (.isub, 1) := by decide +kernel
theorem dX9_wayBetween_3 : decode cX9_wayBetween 3 = .ok (.invokestatic 173, 3) := by decide +kernel
theorem dX9_wayBetween_6 : decode cX9_wayBetween 6 = .ok (.istore_n 3, 1) := by decide +kernel
theorem dX9_wayBetween_7 : decode cX9_wayBetween 7 = .ok (.iload_n 2, 1) := by decide +kernel
theorem dX9_wayBetween_8 : decode cX9_wayBetween 8 = .ok (.iload_n 3, 1) := by decide +kernel
theorem dX9_wayBetween_9 : decode cX9_wayBetween 9 = .ok (.imul, 1) := by decide +kernel
theorem dX9_wayBetween_10 : decode cX9_wayBetween 10 = .ok (.iconst 5, 1) := by decide +kernel
theorem dX9_wayBetween_11 : decode cX9_wayBetween 11 = .ok (.idiv, 1) := by decide +kernel
theorem dX9_wayBetween_12 : decode cX9_wayBetween 12 = .ok (.istore 4, 2) := by decide +kernel
theorem dX9_wayBetween_14 : decode cX9_wayBetween 14 = .ok (.iconst 0, 1) := by decide +kernel
theorem dX9_wayBetween_15 : decode cX9_wayBetween 15 = .ok (.iconst 3, 1) := by decide +kernel
theorem dX9_wayBetween_16 : decode cX9_wayBetween 16 = .ok (.iload_n 3, 1) := by decide +kernel
theorem dX9_wayBetween_17 : decode cX9_wayBetween 17 = .ok (.imul, 1) := by decide +kernel
theorem dX9_wayBetween_18 : decode cX9_wayBetween 18 = .ok (.iload_n 1, 1) := by decide +kernel
theorem dX9_wayBetween_19 : decode cX9_wayBetween 19 = .ok (.iload_n 0, 1) := by decide +kernel
theorem dX9_wayBetween_20 : decode cX9_wayBetween 20 = .ok (.if_icmp .le 9, 3) := by decide +kernel
theorem dX9_wayBetween_23 : decode cX9_wayBetween 23 = .ok (.iload 4, 2) := by decide +kernel
theorem dX9_wayBetween_25 : decode cX9_wayBetween 25 = .ok (.ineg, 1) := by decide +kernel
theorem dX9_wayBetween_26 : decode cX9_wayBetween 26 = .ok (.goto 5, 3) := by decide +kernel
theorem dX9_wayBetween_29 : decode cX9_wayBetween 29 = .ok (.iload 4, 2) := by decide +kernel
theorem dX9_wayBetween_31 : decode cX9_wayBetween 31 = .ok (.iadd, 1) := by decide +kernel
theorem dX9_wayBetween_32 : decode cX9_wayBetween 32 = .ok (.invokestatic 285, 3) := by decide +kernel
theorem dX9_wayBetween_35 : decode cX9_wayBetween 35 = .ok (.ireturn, 1) := by decide +kernel
theorem dX9_commonDivisor_0 : decode cX9_commonDivisor 0 = .ok (.iload_n 0, 1) := by decide +kernel
theorem dX9_commonDivisor_1 : decode cX9_commonDivisor 1 = .ok (.istore_n 2, 1) := by decide +kernel
theorem dX9_commonDivisor_2 : decode cX9_commonDivisor 2 = .ok (.iload_n 1, 1) := by decide +kernel
theorem dX9_commonDivisor_3 : decode cX9_commonDivisor 3 = .ok (.istore_n 3, 1) := by decide +kernel
theorem dX9_commonDivisor_4 : decode cX9_commonDivisor 4 = .ok (.iconst 0, 1) := by decide +kernel
theorem dX9_commonDivisor_5 : decode cX9_commonDivisor 5 = .ok (.istore 4, 2) := by decide +kernel
theorem dX9_commonDivisor_7 : decode cX9_commonDivisor 7 = .ok (.iload 4, 2) := by decide +kernel
theorem dX9_commonDivisor_9 : decode cX9_commonDivisor 9 = .ok (.bipush 100, 2) := by decide +kernel
theorem dX9_commonDivisor_11 : decode cX9_commonDivisor 11 = .ok (.if_icmp .ge 23, 3) := by decide +kernel
theorem dX9_commonDivisor_14 : decode cX9_commonDivisor 14 = .ok (.iload_n 3, 1) := by decide +kernel
theorem dX9_commonDivisor_15 : decode cX9_commonDivisor 15 = .ok (.ifCond .eq 19, 3) := by decide +kernel
theorem dX9_commonDivisor_18 : decode cX9_commonDivisor 18 = .ok (.iload_n 2, 1) := by decide +kernel
theorem dX9_commonDivisor_19 : decode cX9_commonDivisor 19 = .ok (.iload_n 3, 1) := by decide +kernel
theorem dX9_commonDivisor_20 : decode cX9_commonDivisor 20 = .ok (.irem, 1) := by decide +kernel
theorem dX9_commonDivisor_21 : decode cX9_commonDivisor 21 = .ok (.istore 5, 2) := by decide +kernel
theorem dX9_commonDivisor_23 : decode cX9_commonDivisor 23 = .ok (.iload_n 3, 1) := by decide +kernel
theorem dX9_commonDivisor_24 : decode cX9_commonDivisor 24 = .ok (.istore_n 2, 1) := by decide +kernel
theorem dX9_commonDivisor_25 : decode cX9_commonDivisor 25 = .ok (.iload 5, 2) := by decide +kernel
theorem dX9_commonDivisor_27 : decode cX9_commonDivisor 27 = .ok (.istore_n 3, 1) := by decide +kernel
theorem dX9_commonDivisor_28 : decode cX9_commonDivisor 28 = .ok (.iinc 4 1, 3) := by decide +kernel
theorem dX9_commonDivisor_31 : decode cX9_commonDivisor 31 = .ok (.goto (-24), 3) := by decide +kernel
theorem dX9_commonDivisor_34 : decode cX9_commonDivisor 34 = .ok (.iload_n 2, 1) := by decide +kernel
theorem dX9_commonDivisor_35 : decode cX9_commonDivisor 35 = .ok (.ireturn, 1) := by decide +kernel
theorem dX9_clashesAsTold_0 : decode cX9_clashesAsTold 0 = .ok (.iload_n 1, 1) := by decide +kernel
theorem dX9_clashesAsTold_1 : decode cX9_clashesAsTold 1 = .ok (.ifCond .lt 9, 3) := by decide +kernel
theorem dX9_clashesAsTold_4 : decode cX9_clashesAsTold 4 = .ok (.iload_n 1, 1) := by decide +kernel
theorem dX9_clashesAsTold_5 : decode cX9_clashesAsTold 5 = .ok (.bipush 8, 2) := by decide +kernel
theorem dX9_clashesAsTold_7 : decode cX9_clashesAsTold 7 = .ok (.if_icmp .lt 5, 3) := by decide +kernel
theorem dX9_clashesAsTold_10 : decode cX9_clashesAsTold 10 = .ok (.iconst 1, 1) := by decide +kernel
theorem dX9_clashesAsTold_11 : decode cX9_clashesAsTold 11 = .ok (.ireturn, 1) := by decide +kernel
theorem dX9_clashesAsTold_12 : decode cX9_clashesAsTold 12 = .ok (.aload_n 0, 1) := by decide +kernel
theorem dX9_clashesAsTold_13 : decode cX9_clashesAsTold 13 = .ok (.getfield 12, 3) := by decide +kernel
theorem dX9_clashesAsTold_16 : decode cX9_clashesAsTold 16 = .ok (.getfield 351, 3) := by decide +kernel
theorem dX9_clashesAsTold_19 : decode cX9_clashesAsTold 19 = .ok (.iload_n 1, 1) := by decide +kernel
theorem dX9_clashesAsTold_20 : decode cX9_clashesAsTold 20 = .ok (.iaload, 1) := by decide +kernel
theorem dX9_clashesAsTold_21 : decode cX9_clashesAsTold 21 = .ok (.istore_n 2, 1) := by decide +kernel
theorem dX9_clashesAsTold_22 : decode cX9_clashesAsTold 22 = .ok (.iload_n 2, 1) := by decide +kernel
theorem dX9_clashesAsTold_23 : decode cX9_clashesAsTold 23 = .ok (.sipush (-900), 3) := by decide +kernel
theorem dX9_clashesAsTold_26 : decode cX9_clashesAsTold 26 = .ok (.if_icmp .lt 10, 3) := by decide +kernel
theorem dX9_clashesAsTold_29 : decode cX9_clashesAsTold 29 = .ok (.iload_n 2, 1) := by decide +kernel
theorem dX9_clashesAsTold_30 : decode cX9_clashesAsTold 30 = .ok (.sipush 900, 3) := by decide +kernel
theorem dX9_clashesAsTold_33 : decode cX9_clashesAsTold 33 = .ok (.if_icmp .le 5, 3) := by decide +kernel
theorem dX9_clashesAsTold_36 : decode cX9_clashesAsTold 36 = .ok (.iconst 1, 1) := by decide +kernel
theorem dX9_clashesAsTold_37 : decode cX9_clashesAsTold 37 = .ok (.ireturn, 1) := by decide +kernel
theorem dX9_clashesAsTold_38 : decode cX9_clashesAsTold 38 = .ok (.iconst 0, 1) := by decide +kernel
theorem dX9_clashesAsTold_39 : decode cX9_clashesAsTold 39 = .ok (.istore_n 3, 1) := by decide +kernel
theorem dX9_clashesAsTold_40 : decode cX9_clashesAsTold 40 = .ok (.iload_n 3, 1) := by decide +kernel
theorem dX9_clashesAsTold_41 : decode cX9_clashesAsTold 41 = .ok (.iload_n 1, 1) := by decide +kernel
theorem dX9_clashesAsTold_42 : decode cX9_clashesAsTold 42 = .ok (.if_icmp .ge 33, 3) := by decide +kernel
theorem dX9_clashesAsTold_45 : decode cX9_clashesAsTold 45 = .ok (.aload_n 0, 1) := by decide +kernel
theorem dX9_clashesAsTold_46 : decode cX9_clashesAsTold 46 = .ok (.getfield 31, 3) := by decide +kernel
theorem dX9_clashesAsTold_49 : decode cX9_clashesAsTold 49 = .ok (.iload_n 3, 1) := by decide +kernel
theorem dX9_clashesAsTold_50 : decode cX9_clashesAsTold 50 = .ok (.aload_n 0, 1) := by decide +kernel
theorem dX9_clashesAsTold_51 : decode cX9_clashesAsTold 51 = .ok (.getfield 12, 3) := by decide +kernel
theorem dX9_clashesAsTold_54 : decode cX9_clashesAsTold 54 = .ok (.getfield 351, 3) := by decide +kernel
theorem dX9_clashesAsTold_57 : decode cX9_clashesAsTold 57 = .ok (.iload_n 3, 1) := by decide +kernel
theorem dX9_clashesAsTold_58 : decode cX9_clashesAsTold 58 = .ok (.iaload, 1) := by decide +kernel
theorem dX9_clashesAsTold_59 : decode cX9_clashesAsTold 59 = .ok (.iload_n 1, 1) := by decide +kernel
theorem dX9_clashesAsTold_60 : decode cX9_clashesAsTold 60 = .ok (.iload_n 2, 1) := by decide +kernel
theorem dX9_clashesAsTold_61 : decode cX9_clashesAsTold 61 = .ok (.invokevirtual 361, 3) := by decide +kernel
theorem dX9_clashesAsTold_64 : decode cX9_clashesAsTold 64 = .ok (.ifCond .eq 5, 3) := by decide +kernel
theorem dX9_clashesAsTold_67 : decode cX9_clashesAsTold 67 = .ok (.iconst 1, 1) := by decide +kernel
theorem dX9_clashesAsTold_68 : decode cX9_clashesAsTold 68 = .ok (.ireturn, 1) := by decide +kernel
theorem dX9_clashesAsTold_69 : decode cX9_clashesAsTold 69 = .ok (.iinc 3 1, 3) := by decide +kernel
theorem dX9_clashesAsTold_72 : decode cX9_clashesAsTold 72 = .ok (.goto (-32), 3) := by decide +kernel
theorem dX9_clashesAsTold_75 : decode cX9_clashesAsTold 75 = .ok (.iconst 0, 1) := by decide +kernel
theorem dX9_clashesAsTold_76 : decode cX9_clashesAsTold 76 = .ok (.ireturn, 1) := by decide +kernel
theorem dX9_readTape_0 : decode cX9_readTape 0 = .ok (.iload_n 1, 1) := by decide +kernel
theorem dX9_readTape_1 : decode cX9_readTape 1 = .ok (.ifCond .ne 9, 3) := by decide +kernel
theorem dX9_readTape_4 : decode cX9_readTape 4 = .ok (.ldc_w 365, 3) := by decide +kernel
theorem dX9_readTape_7 : decode cX9_readTape 7 = .ok (.goto 6, 3) := by decide +kernel
theorem dX9_readTape_10 : decode cX9_readTape 10 = .ok (.ldc_w 367, 3) := by decide +kernel
theorem dX9_readTape_13 : decode cX9_readTape 13 = .ok (.astore_n 2, 1) := by decide +kernel
theorem dX9_readTape_14 : decode cX9_readTape 14 = .ok (.aload_n 0, 1) := by decide +kernel
theorem dX9_readTape_15 : decode cX9_readTape 15 = .ok (.getfield 22, 3) := by decide +kernel
theorem dX9_readTape_18 : decode cX9_readTape 18 = .ok (.aload_n 0, 1) := by decide +kernel
theorem dX9_readTape_19 : decode cX9_readTape 19 = .ok (.getfield 12, 3) := by decide +kernel
theorem dX9_readTape_22 : decode cX9_readTape 22 = .ok (.getfield 369, 3) := by decide +kernel
theorem dX9_readTape_25 : decode cX9_readTape 25 = .ok (.aload_n 0, 1) := by decide +kernel
theorem dX9_readTape_26 : decode cX9_readTape 26 = .ok (.getfield 12, 3) := by decide +kernel
theorem dX9_readTape_29 : decode cX9_readTape 29 = .ok (.getfield 201, 3) := by decide +kernel
theorem dX9_readTape_32 : decode cX9_readTape 32 = .ok (.aload_n 2, 1) := by decide +kernel
theorem dX9_readTape_33 : decode cX9_readTape 33 = .ok (.invokevirtual 372, 3) := by decide +kernel
theorem dX9_readTape_36 : decode cX9_readTape 36 = .ok (.istore_n 3, 1) := by decide +kernel
theorem dX9_readTape_37 : decode cX9_readTape 37 = .ok (.aload_n 0, 1) := by decide +kernel
theorem dX9_readTape_38 : decode cX9_readTape 38 = .ok (.getfield 12, 3) := by decide +kernel
theorem dX9_readTape_41 : decode cX9_readTape 41 = .ok (.iconst 0, 1) := by decide +kernel
theorem dX9_readTape_42 : decode cX9_readTape 42 = .ok (.putfield 201, 3) := by decide +kernel
theorem dX9_readTape_45 : decode cX9_readTape 45 = .ok (.iload_n 3, 1) := by decide +kernel
theorem dX9_readTape_46 : decode cX9_readTape 46 = .ok (.ifCond .ge 38, 3) := by decide +kernel
theorem dX9_readTape_49 : decode cX9_readTape 49 = .ok (.iload_n 1, 1) := by decide +kernel
theorem dX9_readTape_50 : decode cX9_readTape 50 = .ok (.ifCond .ne 13, 3) := by decide +kernel
theorem dX9_readTape_53 : decode cX9_readTape 53 = .ok (.aload_n 0, 1) := by decide +kernel
theorem dX9_readTape_54 : decode cX9_readTape 54 = .ok (.getfield 12, 3) := by decide +kernel
theorem dX9_readTape_57 : decode cX9_readTape 57 = .ok (.getfield 213, 3) := by decide +kernel
theorem dX9_readTape_60 : decode cX9_readTape 60 = .ok (.goto 10, 3) := by decide +kernel
theorem dX9_readTape_63 : decode cX9_readTape 63 = .ok (.aload_n 0, 1) := by decide +kernel
theorem dX9_readTape_64 : decode cX9_readTape 64 = .ok (.getfield 12, 3) := by decide +kernel
theorem dX9_readTape_67 : decode cX9_readTape 67 = .ok (.getfield 376, 3) := by decide +kernel
theorem dX9_readTape_70 : decode cX9_readTape 70 = .ok (.astore 4, 2) := by decide +kernel
theorem dX9_readTape_72 : decode cX9_readTape 72 = .ok (.aload 4, 2) := by decide +kernel
theorem dX9_readTape_74 : decode cX9_readTape 74 = .ok (.aload_n 0, 1) := by decide +kernel
theorem dX9_readTape_75 : decode cX9_readTape 75 = .ok (.getfield 22, 3) := by decide +kernel
theorem dX9_readTape_78 : decode cX9_readTape 78 = .ok (.getfield 379, 3) := by decide +kernel
theorem dX9_readTape_81 : decode cX9_readTape 81 = .ok (.invokevirtual 382, 3) := by decide +kernel
theorem dX9_readTape_84 : decode cX9_readTape 84 = .ok (.iload_n 3, 1) := by decide +kernel
theorem dX9_readTape_85 : decode cX9_readTape 85 = .ok (.ireturn, 1) := by decide +kernel
theorem dX9_beginText_0 : decode cX9_beginText 0 = .ok (.iconst 0, 1) := by decide +kernel
theorem dX9_beginText_1 : decode cX9_beginText 1 = .ok (.istore_n 3, 1) := by decide +kernel
theorem dX9_beginText_2 : decode cX9_beginText 2 = .ok (.iload_n 3, 1) := by decide +kernel
theorem dX9_beginText_3 : decode cX9_beginText 3 = .ok (.aload_n 2, 1) := by decide +kernel
theorem dX9_beginText_4 : decode cX9_beginText 4 = .ok (.invokevirtual 385, 3) := by decide +kernel
theorem dX9_beginText_7 : decode cX9_beginText 7 = .ok (.if_icmp .ge 21, 3) := by decide +kernel
theorem dX9_beginText_10 : decode cX9_beginText 10 = .ok (.aload_n 0, 1) := by decide +kernel
theorem dX9_beginText_11 : decode cX9_beginText 11 = .ok (.getfield 12, 3) := by decide +kernel
theorem dX9_beginText_14 : decode cX9_beginText 14 = .ok (.aload_n 2, 1) := by decide +kernel
theorem dX9_beginText_15 : decode cX9_beginText 15 = .ok (.iload_n 3, 1) := by decide +kernel
theorem dX9_beginText_16 : decode cX9_beginText 16 = .ok (.invokevirtual 390, 3) := by decide +kernel
theorem dX9_beginText_19 : decode cX9_beginText 19 = .ok (.invokevirtual 204, 3) := by decide +kernel
theorem dX9_beginText_22 : decode cX9_beginText 22 = .ok (.iinc 3 1, 3) := by decide +kernel
theorem dX9_beginText_25 : decode cX9_beginText 25 = .ok (.goto (-23), 3) := by decide +kernel
theorem dX9_beginText_28 : decode cX9_beginText 28 = .ok (.aload_n 0, 1) := by decide +kernel
theorem dX9_beginText_29 : decode cX9_beginText 29 = .ok (.iload_n 1, 1) := by decide +kernel
theorem dX9_beginText_30 : decode cX9_beginText 30 = .ok (.invokevirtual 210, 3) := by decide +kernel
theorem dX9_beginText_33 : decode cX9_beginText 33 = .ok (.pop, 1) := by decide +kernel
theorem dX9_beginText_34 : decode cX9_beginText 34 = .ok (.return_, 1) := by decide +kernel
