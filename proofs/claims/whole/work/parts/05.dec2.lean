theorem dX1_init_0 : decode cX1_init 0 = .ok (.aload_n 0, 1) := by decide +kernel
theorem dX1_init_1 : decode cX1_init 1 = .ok (.invokespecial 3, 3) := by decide +kernel
theorem dX1_init_4 : decode cX1_init 4 = .ok (.aload_n 0, 1) := by decide +kernel
theorem dX1_init_5 : decode cX1_init 5 = .ok (.bipush 8, 2) := by decide +kernel
theorem dX1_init_7 : decode cX1_init 7 = .ok (.bipush 10, 2) := by decide +kernel
theorem dX1_init_9 : decode cX1_init 9 = .ok (.multianewarray 9 2, 4) := by decide +kernel
theorem dX1_init_13 : decode cX1_init 13 = .ok (.putfield 11, 3) := by decide +kernel
theorem dX1_init_16 : decode cX1_init 16 = .ok (.aload_n 0, 1) := by decide +kernel
theorem dX1_init_17 : decode cX1_init 17 = .ok (.bipush 10, 2) := by decide +kernel
theorem dX1_init_19 : decode cX1_init 19 = .ok (.newarray .int, 2) := by decide +kernel
theorem dX1_init_21 : decode cX1_init 21 = .ok (.putfield 16, 3) := by decide +kernel
theorem dX1_init_24 : decode cX1_init 24 = .ok (.aload_n 0, 1) := by decide +kernel
theorem dX1_init_25 : decode cX1_init 25 = .ok (.bipush 24, 2) := by decide +kernel
theorem dX1_init_27 : decode cX1_init 27 = .ok (.newarray .int, 2) := by decide +kernel
theorem dX1_init_29 : decode cX1_init 29 = .ok (.putfield 20, 3) := by decide +kernel
theorem dX1_init_32 : decode cX1_init 32 = .ok (.aload_n 0, 1) := by decide +kernel
theorem dX1_init_33 : decode cX1_init 33 = .ok (.aload_n 1, 1) := by decide +kernel
theorem dX1_init_34 : decode cX1_init 34 = .ok (.putfield 23, 3) := by decide +kernel
theorem dX1_init_37 : decode cX1_init 37 = .ok (.return_, 1) := by decide +kernel
theorem dX1_listen_0 : decode cX1_listen 0 = .ok (.iconst 0, 1) := by decide +kernel
theorem dX1_listen_1 : decode cX1_listen 1 = .ok (.istore_n 3, 1) := by decide +kernel
theorem dX1_listen_2 : decode cX1_listen 2 = .ok (.iconst 0, 1) := by decide +kernel
theorem dX1_listen_3 : decode cX1_listen 3 = .ok (.istore 4, 2) := by decide +kernel
theorem dX1_listen_5 : decode cX1_listen 5 = .ok (.iload 4, 2) := by decide +kernel
theorem dX1_listen_7 : decode cX1_listen 7 = .ok (.aload_n 0, 1) := by decide +kernel
theorem dX1_listen_8 : decode cX1_listen 8 = .ok (.getfield 23, 3) := by decide +kernel
theorem dX1_listen_11 : decode cX1_listen 11 = .ok (.getfield 27, 3) := by decide +kernel
theorem dX1_listen_14 : decode cX1_listen 14 = .ok (.if_icmp .ge 33, 3) := by decide +kernel
theorem dX1_listen_17 : decode cX1_listen 17 = .ok (.aload_n 0, 1) := by decide +kernel
theorem dX1_listen_18 : decode cX1_listen 18 = .ok (.getfield 23, 3) := by decide +kernel
theorem dX1_listen_21 : decode cX1_listen 21 = .ok (.getfield 33, 3) := by decide +kernel
theorem dX1_listen_24 : decode cX1_listen 24 = .ok (.iload 4, 2) := by decide +kernel
theorem dX1_listen_26 : decode cX1_listen 26 = .ok (.aaload, 1) := by decide +kernel
theorem dX1_listen_27 : decode cX1_listen 27 = .ok (.iload_n 1, 1) := by decide +kernel
theorem dX1_listen_28 : decode cX1_listen 28 = .ok (.invokevirtual 37, 3) := by decide +kernel
theorem dX1_listen_31 : decode cX1_listen 31 = .ok (.ifCond .eq 10, 3) := by decide +kernel
theorem dX1_listen_34 : decode cX1_listen 34 = .ok (.iload_n 3, 1) := by decide +kernel
theorem dX1_listen_35 : decode cX1_listen 35 = .ok (.iconst 1, 1) := by decide +kernel
theorem dX1_listen_36 : decode cX1_listen 36 = .ok (.iload 4, 2) := by decide +kernel
theorem dX1_listen_38 : decode cX1_listen 38 = .ok (.ishl, 1) := by decide +kernel
theorem dX1_listen_39 : decode cX1_listen 39 = .ok (.ior, 1) := by decide +kernel
theorem dX1_listen_40 : decode cX1_listen 40 = .ok (.istore_n 3, 1) := by decide +kernel
theorem dX1_listen_41 : decode cX1_listen 41 = .ok (.iinc 4 1, 3) := by decide +kernel
theorem dX1_listen_44 : decode cX1_listen 44 = .ok (.goto (-39), 3) := by decide +kernel
theorem dX1_listen_47 : decode cX1_listen 47 = .ok (.aload_n 0, 1) := by decide +kernel
theorem dX1_listen_48 : decode cX1_listen 48 = .ok (.iload_n 3, 1) := by decide +kernel
theorem dX1_listen_49 : decode cX1_listen 49 = .ok (.iload_n 2, 1) := by decide +kernel
theorem dX1_listen_50 : decode cX1_listen 50 = .ok (.invokevirtual 43, 3) := by decide +kernel
theorem dX1_listen_53 : decode cX1_listen 53 = .ok (.return_, 1) := by decide +kernel
theorem dX1_heardAt_0 : decode cX1_heardAt 0 = .ok (.aload_n 0, 1) := by decide +kernel
theorem dX1_heardAt_1 : decode cX1_heardAt 1 = .ok (.getfield 16, 3) := by decide +kernel
theorem dX1_heardAt_4 : decode cX1_heardAt 4 = .ok (.iload_n 1, 1) := by decide +kernel
theorem dX1_heardAt_5 : decode cX1_heardAt 5 = .ok (.iaload, 1) := by decide +kernel
theorem dX1_heardAt_6 : decode cX1_heardAt 6 = .ok (.ireturn, 1) := by decide +kernel
theorem dX1_earsOfClash_0 : decode cX1_earsOfClash 0 = .ok (.iconst 1, 1) := by decide +kernel
theorem dX1_earsOfClash_1 : decode cX1_earsOfClash 1 = .ok (.iload_n 1, 1) := by decide +kernel
theorem dX1_earsOfClash_2 : decode cX1_earsOfClash 2 = .ok (.ishl, 1) := by decide +kernel
theorem dX1_earsOfClash_3 : decode cX1_earsOfClash 3 = .ok (.iconst 1, 1) := by decide +kernel
theorem dX1_earsOfClash_4 : decode cX1_earsOfClash 4 = .ok (.iload_n 3, 1) := by decide +kernel
theorem dX1_earsOfClash_5 : decode cX1_earsOfClash 5 = .ok (.ishl, 1) := by decide +kernel
theorem dX1_earsOfClash_6 : decode cX1_earsOfClash 6 = .ok (.ior, 1) := by decide +kernel
theorem dX1_earsOfClash_7 : decode cX1_earsOfClash 7 = .ok (.istore 5, 2) := by decide +kernel
theorem dX1_earsOfClash_9 : decode cX1_earsOfClash 9 = .ok (.iconst 0, 1) := by decide +kernel
theorem dX1_earsOfClash_10 : decode cX1_earsOfClash 10 = .ok (.istore 6, 2) := by decide +kernel
theorem dX1_earsOfClash_12 : decode cX1_earsOfClash 12 = .ok (.iconst 0, 1) := by decide +kernel
theorem dX1_earsOfClash_13 : decode cX1_earsOfClash 13 = .ok (.istore 7, 2) := by decide +kernel
theorem dX1_earsOfClash_15 : decode cX1_earsOfClash 15 = .ok (.iload 7, 2) := by decide +kernel
theorem dX1_earsOfClash_17 : decode cX1_earsOfClash 17 = .ok (.aload_n 0, 1) := by decide +kernel
theorem dX1_earsOfClash_18 : decode cX1_earsOfClash 18 = .ok (.getfield 23, 3) := by decide +kernel
theorem dX1_earsOfClash_21 : decode cX1_earsOfClash 21 = .ok (.getfield 47, 3) := by decide +kernel
theorem dX1_earsOfClash_24 : decode cX1_earsOfClash 24 = .ok (.if_icmp .ge 74, 3) := by decide +kernel
theorem dX1_earsOfClash_27 : decode cX1_earsOfClash 27 = .ok (.aload_n 0, 1) := by decide +kernel
theorem dX1_earsOfClash_28 : decode cX1_earsOfClash 28 = .ok (.getfield 16, 3) := by decide +kernel
theorem dX1_earsOfClash_31 : decode cX1_earsOfClash 31 = .ok (.iload 7, 2) := by decide +kernel
theorem dX1_earsOfClash_33 : decode cX1_earsOfClash 33 = .ok (.iaload, 1) := by decide +kernel
theorem dX1_earsOfClash_34 : decode cX1_earsOfClash 34 = .ok (.iload 5, 2) := by decide +kernel
theorem dX1_earsOfClash_36 : decode cX1_earsOfClash 36 = .ok (.iand, 1) := by decide +kernel
theorem dX1_earsOfClash_37 : decode cX1_earsOfClash 37 = .ok (.iload 5, 2) := by decide +kernel
theorem dX1_earsOfClash_39 : decode cX1_earsOfClash 39 = .ok (.if_icmp .ne 53, 3) := by decide +kernel
theorem dX1_earsOfClash_42 : decode cX1_earsOfClash 42 = .ok (.iload_n 2, 1) := by decide +kernel
theorem dX1_earsOfClash_43 : decode cX1_earsOfClash 43 = .ok (.aload_n 0, 1) := by decide +kernel
theorem dX1_earsOfClash_44 : decode cX1_earsOfClash 44 = .ok (.getfield 11, 3) := by decide +kernel
theorem dX1_earsOfClash_47 : decode cX1_earsOfClash 47 = .ok (.iload_n 1, 1) := by decide +kernel
theorem dX1_earsOfClash_48 : decode cX1_earsOfClash 48 = .ok (.aaload, 1) := by decide +kernel
theorem dX1_earsOfClash_49 : decode cX1_earsOfClash 49 = .ok (.iload 7, 2) := by decide +kernel
theorem dX1_earsOfClash_51 : decode cX1_earsOfClash 51 = .ok (.iaload, 1) := by decide +kernel
theorem dX1_earsOfClash_52 : decode cX1_earsOfClash 52 = .ok (.iadd, 1) := by decide +kernel
theorem dX1_earsOfClash_53 : decode cX1_earsOfClash 53 = .ok (.iload 4, 2) := by decide +kernel
theorem dX1_earsOfClash_55 : decode cX1_earsOfClash 55 = .ok (.isub, 1) := by decide +kernel
theorem dX1_earsOfClash_56 : decode cX1_earsOfClash 56 = .ok (.aload_n 0, 1) := by decide +kernel
theorem dX1_earsOfClash_57 : decode cX1_earsOfClash 57 = .ok (.getfield 11, 3) := by decide +kernel
theorem dX1_earsOfClash_60 : decode cX1_earsOfClash 60 = .ok (.iload_n 3, 1) := by decide +kernel
theorem dX1_earsOfClash_61 : decode cX1_earsOfClash 61 = .ok (.aaload, 1) := by decide +kernel
theorem dX1_earsOfClash_62 : decode cX1_earsOfClash 62 = .ok (.iload 7, 2) := by decide +kernel
theorem dX1_earsOfClash_64 : decode cX1_earsOfClash 64 = .ok (.iaload, 1) := by decide +kernel
theorem dX1_earsOfClash_65 : decode cX1_earsOfClash 65 = .ok (.isub, 1) := by decide +kernel
theorem dX1_earsOfClash_66 : decode cX1_earsOfClash 66 = .ok (.istore 8, 2) := by decide +kernel
theorem dX1_earsOfClash_68 : decode cX1_earsOfClash 68 = .ok (.iload 8, 2) := by decide +kernel
theorem dX1_earsOfClash_70 : decode cX1_earsOfClash 70 = .ok (.invokestatic 50, 3) := by decide +kernel
theorem dX1_earsOfClash_73 : decode cX1_earsOfClash 73 = .ok (.aload_n 0, 1) := by decide +kernel
theorem dX1_earsOfClash_74 : decode cX1_earsOfClash 74 = .ok (.getfield 23, 3) := by decide +kernel
theorem dX1_earsOfClash_77 : decode cX1_earsOfClash 77 = .ok (.getfield 56, 3) := by decide +kernel
theorem dX1_earsOfClash_80 : decode cX1_earsOfClash 80 = .ok (.if_icmp .gt 12, 3) := by decide +kernel
theorem dX1_earsOfClash_83 : decode cX1_earsOfClash 83 = .ok (.iload 6, 2) := by decide +kernel
theorem dX1_earsOfClash_85 : decode cX1_earsOfClash 85 = .ok (.iconst 1, 1) := by decide +kernel
theorem dX1_earsOfClash_86 : decode cX1_earsOfClash 86 = .ok (.iload 7, 2) := by decide +kernel
theorem dX1_earsOfClash_88 : decode cX1_earsOfClash 88 = .ok (.ishl, 1) := by decide +kernel
theorem dX1_earsOfClash_89 : decode cX1_earsOfClash 89 = .ok (.ior, 1) := by decide +kernel
theorem dX1_earsOfClash_90 : decode cX1_earsOfClash 90 = .ok (.istore 6, 2) := by decide +kernel
theorem dX1_earsOfClash_92 : decode cX1_earsOfClash 92 = .ok (.iinc 7 1, 3) := by decide +kernel
theorem dX1_earsOfClash_95 : decode cX1_earsOfClash 95 = .ok (.goto (-80), 3) := by decide +kernel
theorem dX1_earsOfClash_98 : decode cX1_earsOfClash 98 = .ok (.iload 6, 2) := by decide +kernel
theorem dX1_earsOfClash_100 : decode cX1_earsOfClash 100 = .ok (.ireturn, 1) := by decide +kernel
theorem dX1_earsOfClash__0 : decode cX1_earsOfClash_ 0 = .ok (.aload_n 0, 1) := by decide +kernel
theorem dX1_earsOfClash__1 : decode cX1_earsOfClash_ 1 = .ok (.iload_n 1, 1) := by decide +kernel
theorem dX1_earsOfClash__2 : decode cX1_earsOfClash_ 2 = .ok (.aload_n 0, 1) := by decide +kernel
theorem dX1_earsOfClash__3 : decode cX1_earsOfClash_ 3 = .ok (.getfield 23, 3) := by decide +kernel
theorem dX1_earsOfClash__6 : decode cX1_earsOfClash_ 6 = .ok (.getfield 33, 3) := by decide +kernel
theorem dX1_earsOfClash__9 : decode cX1_earsOfClash_ 9 = .ok (.iload_n 1, 1) := by decide +kernel
theorem dX1_earsOfClash__10 : decode cX1_earsOfClash_ 10 = .ok (.aaload, 1) := by decide +kernel
theorem dX1_earsOfClash__11 : decode cX1_earsOfClash_ 11 = .ok (.getfield 59, 3) := by decide +kernel
theorem dX1_earsOfClash__14 : decode cX1_earsOfClash_ 14 = .ok (.iload_n 2, 1) := by decide +kernel
theorem dX1_earsOfClash__15 : decode cX1_earsOfClash_ 15 = .ok (.aload_n 0, 1) := by decide +kernel
theorem dX1_earsOfClash__16 : decode cX1_earsOfClash_ 16 = .ok (.getfield 23, 3) := by decide +kernel
theorem dX1_earsOfClash__19 : decode cX1_earsOfClash_ 19 = .ok (.getfield 33, 3) := by decide +kernel
theorem dX1_earsOfClash__22 : decode cX1_earsOfClash_ 22 = .ok (.iload_n 2, 1) := by decide +kernel
theorem dX1_earsOfClash__23 : decode cX1_earsOfClash_ 23 = .ok (.aaload, 1) := by decide +kernel
theorem dX1_earsOfClash__24 : decode cX1_earsOfClash_ 24 = .ok (.getfield 59, 3) := by decide +kernel
theorem dX1_earsOfClash__27 : decode cX1_earsOfClash_ 27 = .ok (.invokevirtual 62, 3) := by decide +kernel
theorem dX1_earsOfClash__30 : decode cX1_earsOfClash_ 30 = .ok (.ireturn, 1) := by decide +kernel
theorem dX1_clashCount_0 : decode cX1_clashCount 0 = .ok (.iconst 0, 1) := by decide +kernel
theorem dX1_clashCount_1 : decode cX1_clashCount 1 = .ok (.istore_n 1, 1) := by decide +kernel
theorem dX1_clashCount_2 : decode cX1_clashCount 2 = .ok (.iconst 0, 1) := by decide +kernel
theorem dX1_clashCount_3 : decode cX1_clashCount 3 = .ok (.istore_n 2, 1) := by decide +kernel
theorem dX1_clashCount_4 : decode cX1_clashCount 4 = .ok (.iload_n 2, 1) := by decide +kernel
theorem dX1_clashCount_5 : decode cX1_clashCount 5 = .ok (.aload_n 0, 1) := by decide +kernel
theorem dX1_clashCount_6 : decode cX1_clashCount 6 = .ok (.getfield 23, 3) := by decide +kernel
theorem dX1_clashCount_9 : decode cX1_clashCount 9 = .ok (.getfield 27, 3) := by decide +kernel
theorem dX1_clashCount_12 : decode cX1_clashCount 12 = .ok (.if_icmp .ge 17, 3) := by decide +kernel
theorem dX1_clashCount_15 : decode cX1_clashCount 15 = .ok (.iload_n 1, 1) := by decide +kernel
theorem dX1_clashCount_16 : decode cX1_clashCount 16 = .ok (.aload_n 0, 1) := by decide +kernel
theorem dX1_clashCount_17 : decode cX1_clashCount 17 = .ok (.iload_n 2, 1) := by decide +kernel
theorem dX1_clashCount_18 : decode cX1_clashCount 18 = .ok (.invokevirtual 66, 3) := by decide +kernel
theorem dX1_clashCount_21 : decode cX1_clashCount 21 = .ok (.iadd, 1) := by decide +kernel
theorem dX1_clashCount_22 : decode cX1_clashCount 22 = .ok (.istore_n 1, 1) := by decide +kernel
theorem dX1_clashCount_23 : decode cX1_clashCount 23 = .ok (.iinc 2 1, 3) := by decide +kernel
theorem dX1_clashCount_26 : decode cX1_clashCount 26 = .ok (.goto (-22), 3) := by decide +kernel
theorem dX1_clashCount_29 : decode cX1_clashCount 29 = .ok (.iload_n 1, 1) := by decide +kernel
theorem dX1_clashCount_30 : decode cX1_clashCount 30 = .ok (.iconst 2, 1) := by decide +kernel
theorem dX1_clashCount_31 : decode cX1_clashCount 31 = .ok (.idiv, 1) := by decide +kernel
theorem dX1_clashCount_32 : decode cX1_clashCount 32 = .ok (.ireturn, 1) := by decide +kernel
theorem dX1_clashCountOf_0 : decode cX1_clashCountOf 0 = .ok (.iconst 0, 1) := by decide +kernel
theorem dX1_clashCountOf_1 : decode cX1_clashCountOf 1 = .ok (.istore_n 2, 1) := by decide +kernel
theorem dX1_clashCountOf_2 : decode cX1_clashCountOf 2 = .ok (.iconst 0, 1) := by decide +kernel
theorem dX1_clashCountOf_3 : decode cX1_clashCountOf 3 = .ok (.istore_n 3, 1) := by decide +kernel
theorem dX1_clashCountOf_4 : decode cX1_clashCountOf 4 = .ok (.iload_n 3, 1) := by decide +kernel
theorem dX1_clashCountOf_5 : decode cX1_clashCountOf 5 = .ok (.aload_n 0, 1) := by decide +kernel
theorem dX1_clashCountOf_6 : decode cX1_clashCountOf 6 = .ok (.getfield 23, 3) := by decide +kernel
theorem dX1_clashCountOf_9 : decode cX1_clashCountOf 9 = .ok (.getfield 27, 3) := by decide +kernel
theorem dX1_clashCountOf_12 : decode cX1_clashCountOf 12 = .ok (.if_icmp .ge 26, 3) := by decide +kernel
theorem dX1_clashCountOf_15 : decode cX1_clashCountOf 15 = .ok (.iload_n 3, 1) := by decide +kernel
theorem dX1_clashCountOf_16 : decode cX1_clashCountOf 16 = .ok (.iload_n 1, 1) := by decide +kernel
theorem dX1_clashCountOf_17 : decode cX1_clashCountOf 17 = .ok (.if_icmp .eq 15, 3) := by decide +kernel
theorem dX1_clashCountOf_20 : decode cX1_clashCountOf 20 = .ok (.iload_n 2, 1) := by decide +kernel
theorem dX1_clashCountOf_21 : decode cX1_clashCountOf 21 = .ok (.aload_n 0, 1) := by decide +kernel
theorem dX1_clashCountOf_22 : decode cX1_clashCountOf 22 = .ok (.iload_n 1, 1) := by decide +kernel
theorem dX1_clashCountOf_23 : decode cX1_clashCountOf 23 = .ok (.iload_n 3, 1) := by decide +kernel
theorem dX1_clashCountOf_24 : decode cX1_clashCountOf 24 = .ok (.invokevirtual 69, 3) := by decide +kernel
theorem dX1_clashCountOf_27 : decode cX1_clashCountOf 27 = .ok (.invokestatic 72, 3) := by decide +kernel
theorem dX1_clashCountOf_30 : decode cX1_clashCountOf 30 = .ok (.iadd, 1) := by decide +kernel
theorem dX1_clashCountOf_31 : decode cX1_clashCountOf 31 = .ok (.istore_n 2, 1) := by decide +kernel
theorem dX1_clashCountOf_32 : decode cX1_clashCountOf 32 = .ok (.iinc 3 1, 3) := by decide +kernel
theorem dX1_clashCountOf_35 : decode cX1_clashCountOf 35 = .ok (.goto (-31), 3) := by decide +kernel
theorem dX1_clashCountOf_38 : decode cX1_clashCountOf 38 = .ok (.iload_n 2, 1) := by decide +kernel
theorem dX1_clashCountOf_39 : decode cX1_clashCountOf 39 = .ok (.ireturn, 1) := by decide +kernel
theorem dX1_firstClash_0 : decode cX1_firstClash 0 = .ok (.iconst 0, 1) := by decide +kernel
theorem dX1_firstClash_1 : decode cX1_firstClash 1 = .ok (.istore_n 1, 1) := by decide +kernel
theorem dX1_firstClash_2 : decode cX1_firstClash 2 = .ok (.iload_n 1, 1) := by decide +kernel
theorem dX1_firstClash_3 : decode cX1_firstClash 3 = .ok (.aload_n 0, 1) := by decide +kernel
theorem dX1_firstClash_4 : decode cX1_firstClash 4 = .ok (.getfield 23, 3) := by decide +kernel
theorem dX1_firstClash_7 : decode cX1_firstClash 7 = .ok (.getfield 27, 3) := by decide +kernel
theorem dX1_firstClash_10 : decode cX1_firstClash 10 = .ok (.if_icmp .ge 66, 3) := by decide +kernel
theorem dX1_firstClash_13 : decode cX1_firstClash 13 = .ok (.iload_n 1, 1) := by decide +kernel
theorem dX1_firstClash_14 : decode cX1_firstClash 14 = .ok (.iconst 1, 1) := by decide +kernel
theorem dX1_firstClash_15 : decode cX1_firstClash 15 = .ok (.iadd, 1) := by decide +kernel
theorem dX1_firstClash_16 : decode cX1_firstClash 16 = .ok (.istore_n 2, 1) := by decide +kernel
theorem dX1_firstClash_17 : decode cX1_firstClash 17 = .ok (.iload_n 2, 1) := by decide +kernel
theorem dX1_firstClash_18 : decode cX1_firstClash 18 = .ok (.aload_n 0, 1) := by decide +kernel
theorem dX1_firstClash_19 : decode cX1_firstClash 19 = .ok (.getfield 23, 3) := by decide +kernel
theorem dX1_firstClash_22 : decode cX1_firstClash 22 = .ok (.getfield 27, 3) := by decide +kernel
theorem dX1_firstClash_25 : decode cX1_firstClash 25 = .ok (.if_icmp .ge 45, 3) := by decide +kernel
theorem dX1_firstClash_28 : decode cX1_firstClash 28 = .ok (.aload_n 0, 1) := by decide +kernel
theorem dX1_firstClash_29 : decode cX1_firstClash 29 = .ok (.iload_n 1, 1) := by decide +kernel
theorem dX1_firstClash_30 : decode cX1_firstClash 30 = .ok (.iload_n 2, 1) := by decide +kernel
theorem dX1_firstClash_31 : decode cX1_firstClash 31 = .ok (.invokevirtual 69, 3) := by decide +kernel
theorem dX1_firstClash_34 : decode cX1_firstClash 34 = .ok (.istore_n 3, 1) := by decide +kernel
theorem dX1_firstClash_35 : decode cX1_firstClash 35 = .ok (.iload_n 3, 1) := by decide +kernel
theorem dX1_firstClash_36 : decode cX1_firstClash 36 = .ok (.ifCond .eq 28, 3) := by decide +kernel
theorem dX1_firstClash_39 : decode cX1_firstClash 39 = .ok (.iload_n 3, 1) := by decide +kernel
theorem dX1_firstClash_40 : decode cX1_firstClash 40 = .ok (.iload_n 3, 1) := by decide +kernel
theorem dX1_firstClash_41 : decode cX1_firstClash 41 = .ok (.ineg, 1) := by decide +kernel
theorem dX1_firstClash_42 : decode cX1_firstClash 42 = .ok (.iand, 1) := by decide +kernel
theorem dX1_firstClash_43 : decode cX1_firstClash 43 = .ok (.iconst 1, 1) := by decide +kernel
theorem dX1_firstClash_44 : decode cX1_firstClash 44 = .ok (.isub, 1) := by decide +kernel
theorem dX1_firstClash_45 : decode cX1_firstClash 45 = .ok (.invokestatic 72, 3) := by decide +kernel
theorem dX1_firstClash_48 : decode cX1_firstClash 48 = .ok (.istore 4, 2) := by decide +kernel
theorem dX1_firstClash_50 : decode cX1_firstClash 50 = .ok (.sipush 10000, 3) := by decide +kernel
theorem dX1_firstClash_53 : decode cX1_firstClash 53 = .ok (.iload_n 1, 1) := by decide +kernel
theorem dX1_firstClash_54 : decode cX1_firstClash 54 = .ok (.imul, 1) := by decide +kernel
theorem dX1_firstClash_55 : decode cX1_firstClash 55 = .ok (.bipush 100, 2) := by decide +kernel
theorem dX1_firstClash_57 : decode cX1_firstClash 57 = .ok (.iload_n 2, 1) := by decide +kernel
theorem dX1_firstClash_58 : decode cX1_firstClash 58 = .ok (.imul, 1) := by decide +kernel
theorem dX1_firstClash_59 : decode cX1_firstClash 59 = .ok (.iadd, 1) := by decide +kernel
theorem dX1_firstClash_60 : decode cX1_firstClash 60 = .ok (.iload 4, 2) := by decide +kernel
theorem dX1_firstClash_62 : decode cX1_firstClash 62 = .ok (.iadd, 1) := by decide +kernel
theorem dX1_firstClash_63 : decode cX1_firstClash 63 = .ok (.ireturn, 1) := by decide +kernel
theorem dX1_firstClash_64 : decode cX1_firstClash 64 = .ok (.iinc 2 1, 3) := by decide +kernel
theorem dX1_firstClash_67 : decode cX1_firstClash 67 = .ok (.goto (-50), 3) := by decide +kernel
theorem dX1_firstClash_70 : decode cX1_firstClash 70 = .ok (.iinc 1 1, 3) := by decide +kernel
theorem dX1_firstClash_73 : decode cX1_firstClash 73 = .ok (.goto (-71), 3) := by decide +kernel
theorem dX1_firstClash_76 : decode cX1_firstClash 76 = .ok (.iconst (-1), 1) := by decide +kernel
theorem dX1_firstClash_77 : decode cX1_firstClash 77 = .ok (.ireturn, 1) := by decide +kernel
theorem dX1_quietestHour_0 : decode cX1_quietestHour 0 = .ok (.aload_n 0, 1) := by decide +kernel
theorem dX1_quietestHour_1 : decode cX1_quietestHour 1 = .ok (.iconst 1, 1) := by decide +kernel
theorem dX1_quietestHour_2 : decode cX1_quietestHour 2 = .ok (.aload_n 0, 1) := by decide +kernel
theorem dX1_quietestHour_3 : decode cX1_quietestHour 3 = .ok (.getfield 23, 3) := by decide +kernel
theorem dX1_quietestHour_6 : decode cX1_quietestHour 6 = .ok (.getfield 27, 3) := by decide +kernel
theorem dX1_quietestHour_9 : decode cX1_quietestHour 9 = .ok (.ishl, 1) := by decide +kernel
theorem dX1_quietestHour_10 : decode cX1_quietestHour 10 = .ok (.iconst 1, 1) := by decide +kernel
theorem dX1_quietestHour_11 : decode cX1_quietestHour 11 = .ok (.isub, 1) := by decide +kernel
theorem dX1_quietestHour_12 : decode cX1_quietestHour 12 = .ok (.aload_n 0, 1) := by decide +kernel
theorem dX1_quietestHour_13 : decode cX1_quietestHour 13 = .ok (.getfield 23, 3) := by decide +kernel
theorem dX1_quietestHour_16 : decode cX1_quietestHour 16 = .ok (.getfield 77, 3) := by decide +kernel
theorem dX1_quietestHour_19 : decode cX1_quietestHour 19 = .ok (.invokevirtual 43, 3) := by decide +kernel
theorem dX1_quietestHour_22 : decode cX1_quietestHour 22 = .ok (.iconst 0, 1) := by decide +kernel
theorem dX1_quietestHour_23 : decode cX1_quietestHour 23 = .ok (.istore_n 1, 1) := by decide +kernel
theorem dX1_quietestHour_24 : decode cX1_quietestHour 24 = .ok (.iload_n 1, 1) := by decide +kernel
theorem dX1_quietestHour_25 : decode cX1_quietestHour 25 = .ok (.bipush 24, 2) := by decide +kernel
theorem dX1_quietestHour_27 : decode cX1_quietestHour 27 = .ok (.if_icmp .ge 16, 3) := by decide +kernel
theorem dX1_quietestHour_30 : decode cX1_quietestHour 30 = .ok (.aload_n 0, 1) := by decide +kernel
theorem dX1_quietestHour_31 : decode cX1_quietestHour 31 = .ok (.getfield 20, 3) := by decide +kernel
theorem dX1_quietestHour_34 : decode cX1_quietestHour 34 = .ok (.iload_n 1, 1) := by decide +kernel
theorem dX1_quietestHour_35 : decode cX1_quietestHour 35 = .ok (.iconst 0, 1) := by decide +kernel
theorem dX1_quietestHour_36 : decode cX1_quietestHour 36 = .ok (.iastore, 1) := by decide +kernel
theorem dX1_quietestHour_37 : decode cX1_quietestHour 37 = .ok (.iinc 1 1, 3) := by decide +kernel
theorem dX1_quietestHour_40 : decode cX1_quietestHour 40 = .ok (.goto (-16), 3) := by decide +kernel
theorem dX1_quietestHour_43 : decode cX1_quietestHour 43 = .ok (.iconst 0, 1) := by decide +kernel
theorem dX1_quietestHour_44 : decode cX1_quietestHour 44 = .ok (.istore_n 1, 1) := by decide +kernel
theorem dX1_quietestHour_45 : decode cX1_quietestHour 45 = .ok (.iload_n 1, 1) := by decide +kernel
theorem dX1_quietestHour_46 : decode cX1_quietestHour 46 = .ok (.aload_n 0, 1) := by decide +kernel
theorem dX1_quietestHour_47 : decode cX1_quietestHour 47 = .ok (.getfield 23, 3) := by decide +kernel
theorem dX1_quietestHour_50 : decode cX1_quietestHour 50 = .ok (.getfield 27, 3) := by decide +kernel
theorem dX1_quietestHour_53 : decode cX1_quietestHour 53 = .ok (.if_icmp .ge 45, 3) := by decide +kernel
theorem dX1_quietestHour_56 : decode cX1_quietestHour 56 = .ok (.iload_n 1, 1) := by decide +kernel
theorem dX1_quietestHour_57 : decode cX1_quietestHour 57 = .ok (.iconst 1, 1) := by decide +kernel
theorem dX1_quietestHour_58 : decode cX1_quietestHour 58 = .ok (.iadd, 1) := by decide +kernel
theorem dX1_quietestHour_59 : decode cX1_quietestHour 59 = .ok (.istore_n 2, 1) := by decide +kernel
theorem dX1_quietestHour_60 : decode cX1_quietestHour 60 = .ok (.iload_n 2, 1) := by decide +kernel
theorem dX1_quietestHour_61 : decode cX1_quietestHour 61 = .ok (.aload_n 0, 1) := by decide +kernel
theorem dX1_quietestHour_62 : decode cX1_quietestHour 62 = .ok (.getfield 23, 3) := by decide +kernel
theorem dX1_quietestHour_65 : decode cX1_quietestHour 65 = .ok (.getfield 27, 3) := by decide +kernel
theorem dX1_quietestHour_68 : decode cX1_quietestHour 68 = .ok (.if_icmp .ge 24, 3) := by decide +kernel
theorem dX1_quietestHour_71 : decode cX1_quietestHour 71 = .ok (.aload_n 0, 1) := by decide +kernel
theorem dX1_quietestHour_72 : decode cX1_quietestHour 72 = .ok (.iload_n 1, 1) := by decide +kernel
theorem dX1_quietestHour_73 : decode cX1_quietestHour 73 = .ok (.iload_n 2, 1) := by decide +kernel
theorem dX1_quietestHour_74 : decode cX1_quietestHour 74 = .ok (.aload_n 0, 1) := by decide +kernel
theorem dX1_quietestHour_75 : decode cX1_quietestHour 75 = .ok (.iload_n 1, 1) := by decide +kernel
theorem dX1_quietestHour_76 : decode cX1_quietestHour 76 = .ok (.iload_n 2, 1) := by decide +kernel
theorem dX1_quietestHour_77 : decode cX1_quietestHour 77 = .ok (.invokevirtual 69, 3) := by decide +kernel
theorem dX1_quietestHour_80 : decode cX1_quietestHour 80 = .ok (.invokestatic 72, 3) := by decide +kernel
theorem dX1_quietestHour_83 : decode cX1_quietestHour 83 = .ok (.invokevirtual 80, 3) := by decide +kernel
theorem dX1_quietestHour_86 : decode cX1_quietestHour 86 = .ok (.iinc 2 1, 3) := by decide +kernel
theorem dX1_quietestHour_89 : decode cX1_quietestHour 89 = .ok (.goto (-29), 3) := by decide +kernel
theorem dX1_quietestHour_92 : decode cX1_quietestHour 92 = .ok (.iinc 1 1, 3) := by decide +kernel
theorem dX1_quietestHour_95 : decode cX1_quietestHour 95 = .ok (.goto (-50), 3) := by decide +kernel
theorem dX1_quietestHour_98 : decode cX1_quietestHour 98 = .ok (.iconst 0, 1) := by decide +kernel
theorem dX1_quietestHour_99 : decode cX1_quietestHour 99 = .ok (.istore_n 1, 1) := by decide +kernel
theorem dX1_quietestHour_100 : decode cX1_quietestHour 100 = .ok (.iconst 1, 1) := by decide +kernel
theorem dX1_quietestHour_101 : decode cX1_quietestHour 101 = .ok (.istore_n 2, 1) := by decide +kernel
theorem dX1_quietestHour_102 : decode cX1_quietestHour 102 = .ok (.iload_n 2, 1) := by decide +kernel
theorem dX1_quietestHour_103 : decode cX1_quietestHour 103 = .ok (.bipush 24, 2) := by decide +kernel
theorem dX1_quietestHour_105 : decode cX1_quietestHour 105 = .ok (.if_icmp .ge 26, 3) := by decide +kernel
theorem dX1_quietestHour_108 : decode cX1_quietestHour 108 = .ok (.aload_n 0, 1) := by decide +kernel
theorem dX1_quietestHour_109 : decode cX1_quietestHour 109 = .ok (.getfield 20, 3) := by decide +kernel
theorem dX1_quietestHour_112 : decode cX1_quietestHour 112 = .ok (.iload_n 2, 1) := by decide +kernel
theorem dX1_quietestHour_113 : decode cX1_quietestHour 113 = .ok (.iaload, 1) := by decide +kernel
theorem dX1_quietestHour_114 : decode cX1_quietestHour 114 = .ok (.aload_n 0, 1) := by decide +kernel
theorem dX1_quietestHour_115 : decode cX1_quietestHour 115 = .ok (.getfield 20, 3) := by decide +kernel
theorem dX1_quietestHour_118 : decode cX1_quietestHour 118 = .ok (.iload_n 1, 1) := by decide +kernel
theorem dX1_quietestHour_119 : decode cX1_quietestHour 119 = .ok (.iaload, 1) := by decide +kernel
theorem dX1_quietestHour_120 : decode cX1_quietestHour 120 = .ok (.if_icmp .ge 5, 3) := by decide +kernel
theorem dX1_quietestHour_123 : decode cX1_quietestHour 123 = .ok (.iload_n 2, 1) := by decide +kernel
theorem dX1_quietestHour_124 : decode cX1_quietestHour 124 = .ok (.istore_n 1, 1) := by decide +kernel
theorem dX1_quietestHour_125 : decode cX1_quietestHour 125 = .ok (.iinc 2 1, 3) := by decide +kernel
theorem dX1_quietestHour_128 : decode cX1_quietestHour 128 = .ok (.goto (-26), 3) := by decide +kernel
theorem dX1_quietestHour_131 : decode cX1_quietestHour 131 = .ok (.iload_n 1, 1) := by decide +kernel
theorem dX1_quietestHour_132 : decode cX1_quietestHour 132 = .ok (.ireturn, 1) := by decide +kernel
theorem dX1_clashCountAt_0 : decode cX1_clashCountAt 0 = .ok (.aload_n 0, 1) := by decide +kernel
theorem dX1_clashCountAt_1 : decode cX1_clashCountAt 1 = .ok (.getfield 20, 3) := by decide +kernel
theorem dX1_clashCountAt_4 : decode cX1_clashCountAt 4 = .ok (.iload_n 1, 1) := by decide +kernel
theorem dX1_clashCountAt_5 : decode cX1_clashCountAt 5 = .ok (.iaload, 1) := by decide +kernel
theorem dX1_clashCountAt_6 : decode cX1_clashCountAt 6 = .ok (.ireturn, 1) := by decide +kernel
theorem dX1_gap_0 : decode cX1_gap 0 = .ok (.iconst 1, 1) := by decide +kernel
theorem dX1_gap_1 : decode cX1_gap 1 = .ok (.iload_n 1, 1) := by decide +kernel
theorem dX1_gap_2 : decode cX1_gap 2 = .ok (.ishl, 1) := by decide +kernel
theorem dX1_gap_3 : decode cX1_gap 3 = .ok (.iconst 1, 1) := by decide +kernel
theorem dX1_gap_4 : decode cX1_gap 4 = .ok (.iload_n 2, 1) := by decide +kernel
theorem dX1_gap_5 : decode cX1_gap 5 = .ok (.ishl, 1) := by decide +kernel
theorem dX1_gap_6 : decode cX1_gap 6 = .ok (.ior, 1) := by decide +kernel
theorem dX1_gap_7 : decode cX1_gap 7 = .ok (.istore_n 3, 1) := by decide +kernel
theorem dX1_gap_8 : decode cX1_gap 8 = .ok (.ldc 84, 2) := by decide +kernel
theorem dX1_gap_10 : decode cX1_gap 10 = .ok (.istore 4, 2) := by decide +kernel
theorem dX1_gap_12 : decode cX1_gap 12 = .ok (.iconst 0, 1) := by decide +kernel
theorem dX1_gap_13 : decode cX1_gap 13 = .ok (.istore 5, 2) := by decide +kernel
theorem dX1_gap_15 : decode cX1_gap 15 = .ok (.iload 5, 2) := by decide +kernel
theorem dX1_gap_17 : decode cX1_gap 17 = .ok (.aload_n 0, 1) := by decide +kernel
theorem dX1_gap_18 : decode cX1_gap 18 = .ok (.getfield 23, 3) := by decide +kernel
theorem dX1_gap_21 : decode cX1_gap 21 = .ok (.getfield 47, 3) := by decide +kernel
theorem dX1_gap_24 : decode cX1_gap 24 = .ok (.if_icmp .ge 58, 3) := by decide +kernel
theorem dX1_gap_27 : decode cX1_gap 27 = .ok (.aload_n 0, 1) := by decide +kernel
theorem dX1_gap_28 : decode cX1_gap 28 = .ok (.getfield 16, 3) := by decide +kernel
theorem dX1_gap_31 : decode cX1_gap 31 = .ok (.iload 5, 2) := by decide +kernel
theorem dX1_gap_33 : decode cX1_gap 33 = .ok (.iaload, 1) := by decide +kernel
theorem dX1_gap_34 : decode cX1_gap 34 = .ok (.iload_n 3, 1) := by decide +kernel
theorem dX1_gap_35 : decode cX1_gap 35 = .ok (.iand, 1) := by decide +kernel
theorem dX1_gap_36 : decode cX1_gap 36 = .ok (.iload_n 3, 1) := by decide +kernel
theorem dX1_gap_37 : decode cX1_gap 37 = .ok (.if_icmp .ne 39, 3) := by decide +kernel
theorem dX1_gap_40 : decode cX1_gap 40 = .ok (.iload 4, 2) := by decide +kernel
theorem dX1_gap_42 : decode cX1_gap 42 = .ok (.aload_n 0, 1) := by decide +kernel
theorem dX1_gap_43 : decode cX1_gap 43 = .ok (.getfield 23, 3) := by decide +kernel
theorem dX1_gap_46 : decode cX1_gap 46 = .ok (.getfield 56, 3) := by decide +kernel
theorem dX1_gap_49 : decode cX1_gap 49 = .ok (.iconst 1, 1) := by decide +kernel
theorem dX1_gap_50 : decode cX1_gap 50 = .ok (.iadd, 1) := by decide +kernel
theorem dX1_gap_51 : decode cX1_gap 51 = .ok (.aload_n 0, 1) := by decide +kernel
theorem dX1_gap_52 : decode cX1_gap 52 = .ok (.getfield 11, 3) := by decide +kernel
theorem dX1_gap_55 : decode cX1_gap 55 = .ok (.iload_n 1, 1) := by decide +kernel
theorem dX1_gap_56 : decode cX1_gap 56 = .ok (.aaload, 1) := by decide +kernel
theorem dX1_gap_57 : decode cX1_gap 57 = .ok (.iload 5, 2) := by decide +kernel
theorem dX1_gap_59 : decode cX1_gap 59 = .ok (.iaload, 1) := by decide +kernel
theorem dX1_gap_60 : decode cX1_gap 60 = .ok (.iadd, 1) := by decide +kernel
theorem dX1_gap_61 : decode cX1_gap 61 = .ok (.aload_n 0, 1) := by decide +kernel
theorem dX1_gap_62 : decode cX1_gap 62 = .ok (.getfield 11, 3) := by decide +kernel
theorem dX1_gap_65 : decode cX1_gap 65 = .ok (.iload_n 2, 1) := by decide +kernel
theorem dX1_gap_66 : decode cX1_gap 66 = .ok (.aaload, 1) := by decide +kernel
theorem dX1_gap_67 : decode cX1_gap 67 = .ok (.iload 5, 2) := by decide +kernel
theorem dX1_gap_69 : decode cX1_gap 69 = .ok (.iaload, 1) := by decide +kernel
theorem dX1_gap_70 : decode cX1_gap 70 = .ok (.isub, 1) := by decide +kernel
theorem dX1_gap_71 : decode cX1_gap 71 = .ok (.invokestatic 85, 3) := by decide +kernel
theorem dX1_gap_74 : decode cX1_gap 74 = .ok (.istore 4, 2) := by decide +kernel
theorem dX1_gap_76 : decode cX1_gap 76 = .ok (.iinc 5 1, 3) := by decide +kernel
theorem dX1_gap_79 : decode cX1_gap 79 = .ok (.goto (-64), 3) := by decide +kernel
theorem dX1_gap_82 : decode cX1_gap 82 = .ok (.iload 4, 2) := by decide +kernel
theorem dX1_gap_84 : decode cX1_gap 84 = .ok (.ireturn, 1) := by decide +kernel
theorem dX1_isNear_0 : decode cX1_isNear 0 = .ok (.iconst 0, 1) := by decide +kernel
theorem dX1_isNear_1 : decode cX1_isNear 1 = .ok (.istore 4, 2) := by decide +kernel
theorem dX1_isNear_3 : decode cX1_isNear 3 = .ok (.iload 4, 2) := by decide +kernel
theorem dX1_isNear_5 : decode cX1_isNear 5 = .ok (.aload_n 0, 1) := by decide +kernel
theorem dX1_isNear_6 : decode cX1_isNear 6 = .ok (.getfield 23, 3) := by decide +kernel
theorem dX1_isNear_9 : decode cX1_isNear 9 = .ok (.getfield 27, 3) := by decide +kernel
theorem dX1_isNear_12 : decode cX1_isNear 12 = .ok (.if_icmp .ge 53, 3) := by decide +kernel
theorem dX1_isNear_15 : decode cX1_isNear 15 = .ok (.iload 4, 2) := by decide +kernel
theorem dX1_isNear_17 : decode cX1_isNear 17 = .ok (.iload_n 3, 1) := by decide +kernel
theorem dX1_isNear_18 : decode cX1_isNear 18 = .ok (.if_icmp .eq 41, 3) := by decide +kernel
theorem dX1_isNear_21 : decode cX1_isNear 21 = .ok (.aload_n 0, 1) := by decide +kernel
theorem dX1_isNear_22 : decode cX1_isNear 22 = .ok (.getfield 16, 3) := by decide +kernel
theorem dX1_isNear_25 : decode cX1_isNear 25 = .ok (.iload_n 1, 1) := by decide +kernel
theorem dX1_isNear_26 : decode cX1_isNear 26 = .ok (.iaload, 1) := by decide +kernel
theorem dX1_isNear_27 : decode cX1_isNear 27 = .ok (.iload 4, 2) := by decide +kernel
theorem dX1_isNear_29 : decode cX1_isNear 29 = .ok (.ishr, 1) := by decide +kernel
theorem dX1_isNear_30 : decode cX1_isNear 30 = .ok (.iconst 1, 1) := by decide +kernel
theorem dX1_isNear_31 : decode cX1_isNear 31 = .ok (.iand, 1) := by decide +kernel
theorem dX1_isNear_32 : decode cX1_isNear 32 = .ok (.ifCond .eq 27, 3) := by decide +kernel
theorem dX1_isNear_35 : decode cX1_isNear 35 = .ok (.aload_n 0, 1) := by decide +kernel
theorem dX1_isNear_36 : decode cX1_isNear 36 = .ok (.iload 4, 2) := by decide +kernel
theorem dX1_isNear_38 : decode cX1_isNear 38 = .ok (.iload_n 1, 1) := by decide +kernel
theorem dX1_isNear_39 : decode cX1_isNear 39 = .ok (.invokevirtual 88, 3) := by decide +kernel
theorem dX1_isNear_42 : decode cX1_isNear 42 = .ok (.iload_n 2, 1) := by decide +kernel
theorem dX1_isNear_43 : decode cX1_isNear 43 = .ok (.isub, 1) := by decide +kernel
theorem dX1_isNear_44 : decode cX1_isNear 44 = .ok (.invokestatic 50, 3) := by decide +kernel
theorem dX1_isNear_47 : decode cX1_isNear 47 = .ok (.aload_n 0, 1) := by decide +kernel
theorem dX1_isNear_48 : decode cX1_isNear 48 = .ok (.getfield 23, 3) := by decide +kernel
theorem dX1_isNear_51 : decode cX1_isNear 51 = .ok (.getfield 56, 3) := by decide +kernel
theorem dX1_isNear_54 : decode cX1_isNear 54 = .ok (.if_icmp .gt 5, 3) := by decide +kernel
theorem dX1_isNear_57 : decode cX1_isNear 57 = .ok (.iconst 1, 1) := by decide +kernel
theorem dX1_isNear_58 : decode cX1_isNear 58 = .ok (.ireturn, 1) := by decide +kernel
theorem dX1_isNear_59 : decode cX1_isNear 59 = .ok (.iinc 4 1, 3) := by decide +kernel
theorem dX1_isNear_62 : decode cX1_isNear 62 = .ok (.goto (-59), 3) := by decide +kernel
theorem dX1_isNear_65 : decode cX1_isNear 65 = .ok (.iconst 0, 1) := by decide +kernel
theorem dX1_isNear_66 : decode cX1_isNear 66 = .ok (.ireturn, 1) := by decide +kernel
theorem dX1_secondOf_0 : decode cX1_secondOf 0 = .ok (.aload_n 0, 1) := by decide +kernel
theorem dX1_secondOf_1 : decode cX1_secondOf 1 = .ok (.getfield 23, 3) := by decide +kernel
theorem dX1_secondOf_4 : decode cX1_secondOf 4 = .ok (.getfield 33, 3) := by decide +kernel
theorem dX1_secondOf_7 : decode cX1_secondOf 7 = .ok (.iload_n 1, 1) := by decide +kernel
theorem dX1_secondOf_8 : decode cX1_secondOf 8 = .ok (.aaload, 1) := by decide +kernel
theorem dX1_secondOf_9 : decode cX1_secondOf 9 = .ok (.getfield 59, 3) := by decide +kernel
theorem dX1_secondOf_12 : decode cX1_secondOf 12 = .ok (.aload_n 0, 1) := by decide +kernel
theorem dX1_secondOf_13 : decode cX1_secondOf 13 = .ok (.getfield 11, 3) := by decide +kernel
theorem dX1_secondOf_16 : decode cX1_secondOf 16 = .ok (.iload_n 1, 1) := by decide +kernel
theorem dX1_secondOf_17 : decode cX1_secondOf 17 = .ok (.aaload, 1) := by decide +kernel
theorem dX1_secondOf_18 : decode cX1_secondOf 18 = .ok (.iload_n 2, 1) := by decide +kernel
theorem dX1_secondOf_19 : decode cX1_secondOf 19 = .ok (.iaload, 1) := by decide +kernel
theorem dX1_secondOf_20 : decode cX1_secondOf 20 = .ok (.iadd, 1) := by decide +kernel
theorem dX1_secondOf_21 : decode cX1_secondOf 21 = .ok (.ireturn, 1) := by decide +kernel
theorem dX1_listenTo_0 : decode cX1_listenTo 0 = .ok (.iconst 0, 1) := by decide +kernel
theorem dX1_listenTo_1 : decode cX1_listenTo 1 = .ok (.istore_n 3, 1) := by decide +kernel
theorem dX1_listenTo_2 : decode cX1_listenTo 2 = .ok (.iload_n 3, 1) := by decide +kernel
theorem dX1_listenTo_3 : decode cX1_listenTo 3 = .ok (.aload_n 0, 1) := by decide +kernel
theorem dX1_listenTo_4 : decode cX1_listenTo 4 = .ok (.getfield 23, 3) := by decide +kernel
theorem dX1_listenTo_7 : decode cX1_listenTo 7 = .ok (.getfield 47, 3) := by decide +kernel
theorem dX1_listenTo_10 : decode cX1_listenTo 10 = .ok (.if_icmp .ge 130, 3) := by decide +kernel
theorem dX1_listenTo_13 : decode cX1_listenTo 13 = .ok (.aload_n 0, 1) := by decide +kernel
theorem dX1_listenTo_14 : decode cX1_listenTo 14 = .ok (.getfield 23, 3) := by decide +kernel
theorem dX1_listenTo_17 : decode cX1_listenTo 17 = .ok (.getfield 91, 3) := by decide +kernel
theorem dX1_listenTo_20 : decode cX1_listenTo 20 = .ok (.iload_n 3, 1) := by decide +kernel
theorem dX1_listenTo_21 : decode cX1_listenTo 21 = .ok (.iaload, 1) := by decide +kernel
theorem dX1_listenTo_22 : decode cX1_listenTo 22 = .ok (.istore 4, 2) := by decide +kernel
theorem dX1_listenTo_24 : decode cX1_listenTo 24 = .ok (.aload_n 0, 1) := by decide +kernel
theorem dX1_listenTo_25 : decode cX1_listenTo 25 = .ok (.getfield 16, 3) := by decide +kernel
theorem dX1_listenTo_28 : decode cX1_listenTo 28 = .ok (.iload_n 3, 1) := by decide +kernel
theorem dX1_listenTo_29 : decode cX1_listenTo 29 = .ok (.iconst 0, 1) := by decide +kernel
theorem dX1_listenTo_30 : decode cX1_listenTo 30 = .ok (.iastore, 1) := by decide +kernel
theorem dX1_listenTo_31 : decode cX1_listenTo 31 = .ok (.iconst 0, 1) := by decide +kernel
theorem dX1_listenTo_32 : decode cX1_listenTo 32 = .ok (.istore 5, 2) := by decide +kernel
theorem dX1_listenTo_34 : decode cX1_listenTo 34 = .ok (.iload 5, 2) := by decide +kernel
theorem dX1_listenTo_36 : decode cX1_listenTo 36 = .ok (.aload_n 0, 1) := by decide +kernel
theorem dX1_listenTo_37 : decode cX1_listenTo 37 = .ok (.getfield 23, 3) := by decide +kernel
theorem dX1_listenTo_40 : decode cX1_listenTo 40 = .ok (.getfield 27, 3) := by decide +kernel
theorem dX1_listenTo_43 : decode cX1_listenTo 43 = .ok (.if_icmp .ge 91, 3) := by decide +kernel
theorem dX1_listenTo_46 : decode cX1_listenTo 46 = .ok (.aload_n 0, 1) := by decide +kernel
theorem dX1_listenTo_47 : decode cX1_listenTo 47 = .ok (.getfield 23, 3) := by decide +kernel
theorem dX1_listenTo_50 : decode cX1_listenTo 50 = .ok (.getfield 33, 3) := by decide +kernel
theorem dX1_listenTo_53 : decode cX1_listenTo 53 = .ok (.iload 5, 2) := by decide +kernel
theorem dX1_listenTo_55 : decode cX1_listenTo 55 = .ok (.aaload, 1) := by decide +kernel
theorem dX1_listenTo_56 : decode cX1_listenTo 56 = .ok (.astore 6, 2) := by decide +kernel
theorem dX1_listenTo_58 : decode cX1_listenTo 58 = .ok (.iload_n 1, 1) := by decide +kernel
theorem dX1_listenTo_59 : decode cX1_listenTo 59 = .ok (.iload 5, 2) := by decide +kernel
theorem dX1_listenTo_61 : decode cX1_listenTo 61 = .ok (.ishr, 1) := by decide +kernel
theorem dX1_listenTo_62 : decode cX1_listenTo 62 = .ok (.iconst 1, 1) := by decide +kernel
theorem dX1_listenTo_63 : decode cX1_listenTo 63 = .ok (.iand, 1) := by decide +kernel
theorem dX1_listenTo_64 : decode cX1_listenTo 64 = .ok (.ifCond .eq 64, 3) := by decide +kernel
theorem dX1_listenTo_67 : decode cX1_listenTo 67 = .ok (.aload_n 0, 1) := by decide +kernel
theorem dX1_listenTo_68 : decode cX1_listenTo 68 = .ok (.getfield 23, 3) := by decide +kernel
theorem dX1_listenTo_71 : decode cX1_listenTo 71 = .ok (.aload 6, 2) := by decide +kernel
theorem dX1_listenTo_73 : decode cX1_listenTo 73 = .ok (.getfield 94, 3) := by decide +kernel
theorem dX1_listenTo_76 : decode cX1_listenTo 76 = .ok (.aload 6, 2) := by decide +kernel
theorem dX1_listenTo_78 : decode cX1_listenTo 78 = .ok (.getfield 97, 3) := by decide +kernel
theorem dX1_listenTo_81 : decode cX1_listenTo 81 = .ok (.aload 6, 2) := by decide +kernel
theorem dX1_listenTo_83 : decode cX1_listenTo 83 = .ok (.getfield 100, 3) := by decide +kernel
theorem dX1_listenTo_86 : decode cX1_listenTo 86 = .ok (.iload 4, 2) := by decide +kernel
theorem dX1_listenTo_88 : decode cX1_listenTo 88 = .ok (.iload_n 2, 1) := by decide +kernel
theorem dX1_listenTo_89 : decode cX1_listenTo 89 = .ok (.invokevirtual 103, 3) := by decide +kernel
theorem dX1_listenTo_92 : decode cX1_listenTo 92 = .ok (.ifCond .le 36, 3) := by decide +kernel
theorem dX1_listenTo_95 : decode cX1_listenTo 95 = .ok (.aload_n 0, 1) := by decide +kernel
theorem dX1_listenTo_96 : decode cX1_listenTo 96 = .ok (.getfield 16, 3) := by decide +kernel
theorem dX1_listenTo_99 : decode cX1_listenTo 99 = .ok (.iload_n 3, 1) := by decide +kernel
theorem dX1_listenTo_100 : decode cX1_listenTo 100 = .ok (.dup2, 1) := by decide +kernel
theorem dX1_listenTo_101 : decode cX1_listenTo 101 = .ok (.iaload, 1) := by decide +kernel
theorem dX1_listenTo_102 : decode cX1_listenTo 102 = .ok (.iconst 1, 1) := by decide +kernel
theorem dX1_listenTo_103 : decode cX1_listenTo 103 = .ok (.iload 5, 2) := by decide +kernel
theorem dX1_listenTo_105 : decode cX1_listenTo 105 = .ok (.ishl, 1) := by decide +kernel
theorem dX1_listenTo_106 : decode cX1_listenTo 106 = .ok (.ior, 1) := by decide +kernel
theorem dX1_listenTo_107 : decode cX1_listenTo 107 = .ok (.iastore, 1) := by decide +kernel
theorem dX1_listenTo_108 : decode cX1_listenTo 108 = .ok (.aload_n 0, 1) := by decide +kernel
theorem dX1_listenTo_109 : decode cX1_listenTo 109 = .ok (.getfield 11, 3) := by decide +kernel
theorem dX1_listenTo_112 : decode cX1_listenTo 112 = .ok (.iload 5, 2) := by decide +kernel
theorem dX1_listenTo_114 : decode cX1_listenTo 114 = .ok (.aaload, 1) := by decide +kernel
theorem dX1_listenTo_115 : decode cX1_listenTo 115 = .ok (.iload_n 3, 1) := by decide +kernel
theorem dX1_listenTo_116 : decode cX1_listenTo 116 = .ok (.aload 6, 2) := by decide +kernel
theorem dX1_listenTo_118 : decode cX1_listenTo 118 = .ok (.getfield 100, 3) := by decide +kernel
theorem dX1_listenTo_121 : decode cX1_listenTo 121 = .ok (.iload 4, 2) := by decide +kernel
theorem dX1_listenTo_123 : decode cX1_listenTo 123 = .ok (.iload_n 2, 1) := by decide +kernel
theorem dX1_listenTo_124 : decode cX1_listenTo 124 = .ok (.invokestatic 107, 3) := by decide +kernel
theorem dX1_listenTo_127 : decode cX1_listenTo 127 = .ok (.iastore, 1) := by decide +kernel
theorem dX1_listenTo_128 : decode cX1_listenTo 128 = .ok (.iinc 5 1, 3) := by decide +kernel
theorem dX1_listenTo_131 : decode cX1_listenTo 131 = .ok (.goto (-97), 3) := by decide +kernel
theorem dX1_listenTo_134 : decode cX1_listenTo 134 = .ok (.iinc 3 1, 3) := by decide +kernel
theorem dX1_listenTo_137 : decode cX1_listenTo 137 = .ok (.goto (-135), 3) := by decide +kernel
theorem dX1_listenTo_140 : decode cX1_listenTo 140 = .ok (.return_, 1) := by decide +kernel
theorem dX1_addHourly_0 : decode cX1_addHourly 0 = .ok (.iconst 0, 1) := by decide +kernel
theorem dX1_addHourly_1 : decode cX1_addHourly 1 = .ok (.istore 4, 2) := by decide +kernel
theorem dX1_addHourly_3 : decode cX1_addHourly 3 = .ok (.iload 4, 2) := by decide +kernel
theorem dX1_addHourly_5 : decode cX1_addHourly 5 = .ok (.bipush 24, 2) := by decide +kernel
theorem dX1_addHourly_7 : decode cX1_addHourly 7 = .ok (.if_icmp .ge 58, 3) := by decide +kernel
theorem dX1_addHourly_10 : decode cX1_addHourly 10 = .ok (.iload_n 3, 1) := by decide +kernel
theorem dX1_addHourly_11 : decode cX1_addHourly 11 = .ok (.ifCond .le 54, 3) := by decide +kernel
theorem dX1_addHourly_14 : decode cX1_addHourly 14 = .ok (.aload_n 0, 1) := by decide +kernel
theorem dX1_addHourly_15 : decode cX1_addHourly 15 = .ok (.getfield 23, 3) := by decide +kernel
theorem dX1_addHourly_18 : decode cX1_addHourly 18 = .ok (.getfield 33, 3) := by decide +kernel
theorem dX1_addHourly_21 : decode cX1_addHourly 21 = .ok (.iload_n 1, 1) := by decide +kernel
theorem dX1_addHourly_22 : decode cX1_addHourly 22 = .ok (.aaload, 1) := by decide +kernel
theorem dX1_addHourly_23 : decode cX1_addHourly 23 = .ok (.iload 4, 2) := by decide +kernel
theorem dX1_addHourly_25 : decode cX1_addHourly 25 = .ok (.invokevirtual 37, 3) := by decide +kernel
theorem dX1_addHourly_28 : decode cX1_addHourly 28 = .ok (.ifCond .eq 31, 3) := by decide +kernel
theorem dX1_addHourly_31 : decode cX1_addHourly 31 = .ok (.aload_n 0, 1) := by decide +kernel
theorem dX1_addHourly_32 : decode cX1_addHourly 32 = .ok (.getfield 23, 3) := by decide +kernel
theorem dX1_addHourly_35 : decode cX1_addHourly 35 = .ok (.getfield 33, 3) := by decide +kernel
theorem dX1_addHourly_38 : decode cX1_addHourly 38 = .ok (.iload_n 2, 1) := by decide +kernel
theorem dX1_addHourly_39 : decode cX1_addHourly 39 = .ok (.aaload, 1) := by decide +kernel
theorem dX1_addHourly_40 : decode cX1_addHourly 40 = .ok (.iload 4, 2) := by decide +kernel
theorem dX1_addHourly_42 : decode cX1_addHourly 42 = .ok (.invokevirtual 37, 3) := by decide +kernel
theorem dX1_addHourly_45 : decode cX1_addHourly 45 = .ok (.ifCond .eq 14, 3) := by decide +kernel
theorem dX1_addHourly_48 : decode cX1_addHourly 48 = .ok (.aload_n 0, 1) := by decide +kernel
theorem dX1_addHourly_49 : decode cX1_addHourly 49 = .ok (.getfield 20, 3) := by decide +kernel
theorem dX1_addHourly_52 : decode cX1_addHourly 52 = .ok (.iload 4, 2) := by decide +kernel
theorem dX1_addHourly_54 : decode cX1_addHourly 54 = .ok (.dup2, 1) := by decide +kernel
theorem dX1_addHourly_55 : decode cX1_addHourly 55 = .ok (.iaload, 1) := by decide +kernel
theorem dX1_addHourly_56 : decode cX1_addHourly 56 = .ok (.iload_n 3, 1) := by decide +kernel
theorem dX1_addHourly_57 : decode cX1_addHourly 57 = .ok (.iadd, 1) := by decide +kernel
theorem dX1_addHourly_58 : decode cX1_addHourly 58 = .ok (.iastore, 1) := by decide +kernel
theorem dX1_addHourly_59 : decode cX1_addHourly 59 = .ok (.iinc 4 1, 3) := by decide +kernel
theorem dX1_addHourly_62 : decode cX1_addHourly 62 = .ok (.goto (-59), 3) := by decide +kernel
theorem dX1_addHourly_65 : decode cX1_addHourly 65 = .ok (.return_, 1) := by decide +kernel
theorem dX3_init_0 : decode cX3_init 0 = .ok (.aload_n 0, 1) := by decide +kernel
theorem dX3_init_1 : decode cX3_init 1 = .ok (.invokespecial 3, 3) := by decide +kernel
theorem dX3_init_4 : decode cX3_init 4 = .ok (.aload_n 0, 1) := by decide +kernel
theorem dX3_init_5 : decode cX3_init 5 = .ok (.new 9, 3) := by decide +kernel
theorem dX3_init_8 : decode cX3_init 8 = .ok (.dup, 1) := by decide +kernel
theorem dX3_init_9 : decode cX3_init 9 = .ok (.invokespecial 11, 3) := by decide +kernel
theorem dX3_init_12 : decode cX3_init 12 = .ok (.putfield 12, 3) := by decide +kernel
theorem dX3_init_15 : decode cX3_init 15 = .ok (.aload_n 0, 1) := by decide +kernel
theorem dX3_init_16 : decode cX3_init 16 = .ok (.bipush 50, 2) := by decide +kernel
theorem dX3_init_18 : decode cX3_init 18 = .ok (.newarray .int, 2) := by decide +kernel
theorem dX3_init_20 : decode cX3_init 20 = .ok (.putfield 18, 3) := by decide +kernel
theorem dX3_init_23 : decode cX3_init 23 = .ok (.aload_n 0, 1) := by decide +kernel
theorem dX3_init_24 : decode cX3_init 24 = .ok (.ldc 22, 2) := by decide +kernel
theorem dX3_init_26 : decode cX3_init 26 = .ok (.putfield 24, 3) := by decide +kernel
theorem dX3_init_29 : decode cX3_init 29 = .ok (.return_, 1) := by decide +kernel
theorem dX3_read_0 : decode cX3_read 0 = .ok (.aload_n 0, 1) := by decide +kernel
theorem dX3_read_1 : decode cX3_read 1 = .ok (.iload_n 2, 1) := by decide +kernel
theorem dX3_read_2 : decode cX3_read 2 = .ok (.iconst 0, 1) := by decide +kernel
theorem dX3_read_3 : decode cX3_read 3 = .ok (.bipush 50, 2) := by decide +kernel
theorem dX3_read_5 : decode cX3_read 5 = .ok (.aload_n 1, 1) := by decide +kernel
theorem dX3_read_6 : decode cX3_read 6 = .ok (.arraylength, 1) := by decide +kernel
theorem dX3_read_7 : decode cX3_read 7 = .ok (.invokestatic 28, 3) := by decide +kernel
theorem dX3_read_10 : decode cX3_read 10 = .ok (.invokestatic 34, 3) := by decide +kernel
theorem dX3_read_13 : decode cX3_read 13 = .ok (.putfield 38, 3) := by decide +kernel
theorem dX3_read_16 : decode cX3_read 16 = .ok (.aload_n 1, 1) := by decide +kernel
theorem dX3_read_17 : decode cX3_read 17 = .ok (.iconst 0, 1) := by decide +kernel
theorem dX3_read_18 : decode cX3_read 18 = .ok (.aload_n 0, 1) := by decide +kernel
theorem dX3_read_19 : decode cX3_read 19 = .ok (.getfield 18, 3) := by decide +kernel
theorem dX3_read_22 : decode cX3_read 22 = .ok (.iconst 0, 1) := by decide +kernel
theorem dX3_read_23 : decode cX3_read 23 = .ok (.aload_n 0, 1) := by decide +kernel
theorem dX3_read_24 : decode cX3_read 24 = .ok (.getfield 38, 3) := by decide +kernel
theorem dX3_read_27 : decode cX3_read 27 = .ok (.invokestatic 42, 3) := by decide +kernel
theorem dX3_read_30 : decode cX3_read 30 = .ok (.aload_n 0, 1) := by decide +kernel
theorem dX3_read_31 : decode cX3_read 31 = .ok (.iconst 0, 1) := by decide +kernel
theorem dX3_read_32 : decode cX3_read 32 = .ok (.putfield 48, 3) := by decide +kernel
theorem dX3_read_35 : decode cX3_read 35 = .ok (.aload_n 0, 1) := by decide +kernel
theorem dX3_read_36 : decode cX3_read 36 = .ok (.aload_n 3, 1) := by decide +kernel
theorem dX3_read_37 : decode cX3_read 37 = .ok (.putfield 24, 3) := by decide +kernel
theorem dX3_read_40 : decode cX3_read 40 = .ok (.aload_n 0, 1) := by decide +kernel
theorem dX3_read_41 : decode cX3_read 41 = .ok (.getfield 12, 3) := by decide +kernel
theorem dX3_read_44 : decode cX3_read 44 = .ok (.invokevirtual 51, 3) := by decide +kernel
theorem dX3_read_47 : decode cX3_read 47 = .ok (.aload_n 0, 1) := by decide +kernel
theorem dX3_read_48 : decode cX3_read 48 = .ok (.iconst 0, 1) := by decide +kernel
theorem dX3_read_49 : decode cX3_read 49 = .ok (.iconst 0, 1) := by decide +kernel
theorem dX3_read_50 : decode cX3_read 50 = .ok (.invokevirtual 54, 3) := by decide +kernel
theorem dX3_read_53 : decode cX3_read 53 = .ok (.ifCond .eq 18, 3) := by decide +kernel
theorem dX3_read_56 : decode cX3_read 56 = .ok (.aload_n 0, 1) := by decide +kernel
theorem dX3_read_57 : decode cX3_read 57 = .ok (.getfield 48, 3) := by decide +kernel
theorem dX3_read_60 : decode cX3_read 60 = .ok (.aload_n 0, 1) := by decide +kernel
theorem dX3_read_61 : decode cX3_read 61 = .ok (.getfield 38, 3) := by decide +kernel
theorem dX3_read_64 : decode cX3_read 64 = .ok (.if_icmp .ne 7, 3) := by decide +kernel
theorem dX3_read_67 : decode cX3_read 67 = .ok (.iconst (-1), 1) := by decide +kernel
theorem dX3_read_68 : decode cX3_read 68 = .ok (.goto 7, 3) := by decide +kernel
theorem dX3_read_71 : decode cX3_read 71 = .ok (.aload_n 0, 1) := by decide +kernel
theorem dX3_read_72 : decode cX3_read 72 = .ok (.getfield 48, 3) := by decide +kernel
theorem dX3_read_75 : decode cX3_read 75 = .ok (.ireturn, 1) := by decide +kernel
theorem dX3_readLevel_0 : decode cX3_readLevel 0 = .ok (.iload_n 1, 1) := by decide +kernel
theorem dX3_readLevel_1 : decode cX3_readLevel 1 = .ok (.iconst 5, 1) := by decide +kernel
theorem dX3_readLevel_2 : decode cX3_readLevel 2 = .ok (.if_icmp .lt 9, 3) := by decide +kernel
theorem dX3_readLevel_5 : decode cX3_readLevel 5 = .ok (.aload_n 0, 1) := by decide +kernel
theorem dX3_readLevel_6 : decode cX3_readLevel 6 = .ok (.iload_n 2, 1) := by decide +kernel
theorem dX3_readLevel_7 : decode cX3_readLevel 7 = .ok (.invokevirtual 58, 3) := by decide +kernel
theorem dX3_readLevel_10 : decode cX3_readLevel 10 = .ok (.ireturn, 1) := by decide +kernel
theorem dX3_readLevel_11 : decode cX3_readLevel 11 = .ok (.aload_n 0, 1) := by decide +kernel
theorem dX3_readLevel_12 : decode cX3_readLevel 12 = .ok (.iload_n 1, 1) := by decide +kernel
theorem dX3_readLevel_13 : decode cX3_readLevel 13 = .ok (.iconst 1, 1) := by decide +kernel
theorem dX3_readLevel_14 : decode cX3_readLevel 14 = .ok (.iadd, 1) := by decide +kernel
theorem dX3_readLevel_15 : decode cX3_readLevel 15 = .ok (.iload_n 2, 1) := by decide +kernel
theorem dX3_readLevel_16 : decode cX3_readLevel 16 = .ok (.invokevirtual 54, 3) := by decide +kernel
theorem dX3_readLevel_19 : decode cX3_readLevel 19 = .ok (.ifCond .ne 5, 3) := by decide +kernel
theorem dX3_readLevel_22 : decode cX3_readLevel 22 = .ok (.iconst 0, 1) := by decide +kernel
theorem dX3_readLevel_23 : decode cX3_readLevel 23 = .ok (.ireturn, 1) := by decide +kernel
theorem dX3_readLevel_24 : decode cX3_readLevel 24 = .ok (.iload_n 1, 1) := by decide +kernel
theorem dX3_readLevel_25 : decode cX3_readLevel 25 = .ok (.iconst 2, 1) := by decide +kernel
theorem dX3_readLevel_26 : decode cX3_readLevel 26 = .ok (.if_icmp .ne 7, 3) := by decide +kernel
theorem dX3_readLevel_29 : decode cX3_readLevel 29 = .ok (.iconst 1, 1) := by decide +kernel
theorem dX3_readLevel_30 : decode cX3_readLevel 30 = .ok (.goto 5, 3) := by decide +kernel
theorem dX3_readLevel_33 : decode cX3_readLevel 33 = .ok (.bipush 50, 2) := by decide +kernel
theorem dX3_readLevel_35 : decode cX3_readLevel 35 = .ok (.istore_n 3, 1) := by decide +kernel
theorem dX3_readLevel_36 : decode cX3_readLevel 36 = .ok (.iconst 0, 1) := by decide +kernel
theorem dX3_readLevel_37 : decode cX3_readLevel 37 = .ok (.istore 4, 2) := by decide +kernel
theorem dX3_readLevel_39 : decode cX3_readLevel 39 = .ok (.iload 4, 2) := by decide +kernel
theorem dX3_readLevel_41 : decode cX3_readLevel 41 = .ok (.iload_n 3, 1) := by decide +kernel
theorem dX3_readLevel_42 : decode cX3_readLevel 42 = .ok (.if_icmp .ge 58, 3) := by decide +kernel
theorem dX3_readLevel_45 : decode cX3_readLevel 45 = .ok (.aload_n 0, 1) := by decide +kernel
theorem dX3_readLevel_46 : decode cX3_readLevel 46 = .ok (.invokevirtual 62, 3) := by decide +kernel
theorem dX3_readLevel_49 : decode cX3_readLevel 49 = .ok (.istore 5, 2) := by decide +kernel
theorem dX3_readLevel_51 : decode cX3_readLevel 51 = .ok (.iload 5, 2) := by decide +kernel
theorem dX3_readLevel_53 : decode cX3_readLevel 53 = .ok (.invokestatic 66, 3) := by decide +kernel
theorem dX3_readLevel_56 : decode cX3_readLevel 56 = .ok (.iload_n 1, 1) := by decide +kernel
theorem dX3_readLevel_57 : decode cX3_readLevel 57 = .ok (.if_icmp .eq 5, 3) := by decide +kernel
theorem dX3_readLevel_60 : decode cX3_readLevel 60 = .ok (.iconst 1, 1) := by decide +kernel
theorem dX3_readLevel_61 : decode cX3_readLevel 61 = .ok (.ireturn, 1) := by decide +kernel
theorem dX3_readLevel_62 : decode cX3_readLevel 62 = .ok (.aload_n 0, 1) := by decide +kernel
theorem dX3_readLevel_63 : decode cX3_readLevel 63 = .ok (.dup, 1) := by decide +kernel
theorem dX3_readLevel_64 : decode cX3_readLevel 64 = .ok (.getfield 48, 3) := by decide +kernel
theorem dX3_readLevel_67 : decode cX3_readLevel 67 = .ok (.iconst 1, 1) := by decide +kernel
theorem dX3_readLevel_68 : decode cX3_readLevel 68 = .ok (.iadd, 1) := by decide +kernel
theorem dX3_readLevel_69 : decode cX3_readLevel 69 = .ok (.putfield 48, 3) := by decide +kernel
theorem dX3_readLevel_72 : decode cX3_readLevel 72 = .ok (.aload_n 0, 1) := by decide +kernel
theorem dX3_readLevel_73 : decode cX3_readLevel 73 = .ok (.iload_n 1, 1) := by decide +kernel
theorem dX3_readLevel_74 : decode cX3_readLevel 74 = .ok (.iconst 1, 1) := by decide +kernel
theorem dX3_readLevel_75 : decode cX3_readLevel 75 = .ok (.iadd, 1) := by decide +kernel
theorem dX3_readLevel_76 : decode cX3_readLevel 76 = .ok (.iload_n 2, 1) := by decide +kernel
theorem dX3_readLevel_77 : decode cX3_readLevel 77 = .ok (.invokevirtual 54, 3) := by decide +kernel
theorem dX3_readLevel_80 : decode cX3_readLevel 80 = .ok (.ifCond .ne 5, 3) := by decide +kernel
theorem dX3_readLevel_83 : decode cX3_readLevel 83 = .ok (.iconst 0, 1) := by decide +kernel
theorem dX3_readLevel_84 : decode cX3_readLevel 84 = .ok (.ireturn, 1) := by decide +kernel
theorem dX3_readLevel_85 : decode cX3_readLevel 85 = .ok (.aload_n 0, 1) := by decide +kernel
theorem dX3_readLevel_86 : decode cX3_readLevel 86 = .ok (.getfield 12, 3) := by decide +kernel
theorem dX3_readLevel_89 : decode cX3_readLevel 89 = .ok (.iload 5, 2) := by decide +kernel
theorem dX3_readLevel_91 : decode cX3_readLevel 91 = .ok (.invokevirtual 70, 3) := by decide +kernel
theorem dX3_readLevel_94 : decode cX3_readLevel 94 = .ok (.iinc 4 1, 3) := by decide +kernel
theorem dX3_readLevel_97 : decode cX3_readLevel 97 = .ok (.goto (-58), 3) := by decide +kernel
theorem dX3_readLevel_100 : decode cX3_readLevel 100 = .ok (.iconst 1, 1) := by decide +kernel
theorem dX3_readLevel_101 : decode cX3_readLevel 101 = .ok (.ireturn, 1) := by decide +kernel
theorem dX3_readUnit_0 : decode cX3_readUnit 0 = .ok (.aload_n 0, 1) := by decide +kernel
theorem dX3_readUnit_1 : decode cX3_readUnit 1 = .ok (.invokevirtual 62, 3) := by decide +kernel
theorem dX3_readUnit_4 : decode cX3_readUnit 4 = .ok (.istore_n 2, 1) := by decide +kernel
theorem dX3_readUnit_5 : decode cX3_readUnit 5 = .ok (.iload_n 2, 1) := by decide +kernel
theorem dX3_readUnit_6 : decode cX3_readUnit 6 = .ok (.invokestatic 74, 3) := by decide +kernel
theorem dX3_readUnit_9 : decode cX3_readUnit 9 = .ok (.ifCond .eq 9, 3) := by decide +kernel
theorem dX3_readUnit_12 : decode cX3_readUnit 12 = .ok (.aload_n 0, 1) := by decide +kernel
theorem dX3_readUnit_13 : decode cX3_readUnit 13 = .ok (.invokevirtual 77, 3) := by decide +kernel
theorem dX3_readUnit_16 : decode cX3_readUnit 16 = .ok (.iconst 1, 1) := by decide +kernel
theorem dX3_readUnit_17 : decode cX3_readUnit 17 = .ok (.ireturn, 1) := by decide +kernel
theorem dX3_readUnit_18 : decode cX3_readUnit 18 = .ok (.iload_n 2, 1) := by decide +kernel
theorem dX3_readUnit_19 : decode cX3_readUnit 19 = .ok (.bipush 33, 2) := by decide +kernel
theorem dX3_readUnit_21 : decode cX3_readUnit 21 = .ok (.if_icmp .eq 9, 3) := by decide +kernel
theorem dX3_readUnit_24 : decode cX3_readUnit 24 = .ok (.iload_n 2, 1) := by decide +kernel
theorem dX3_readUnit_25 : decode cX3_readUnit 25 = .ok (.bipush 40, 2) := by decide +kernel
theorem dX3_readUnit_27 : decode cX3_readUnit 27 = .ok (.if_icmp .ne 44, 3) := by decide +kernel
theorem dX3_readUnit_30 : decode cX3_readUnit 30 = .ok (.iload_n 1, 1) := by decide +kernel
theorem dX3_readUnit_31 : decode cX3_readUnit 31 = .ok (.iconst 5, 1) := by decide +kernel
theorem dX3_readUnit_32 : decode cX3_readUnit 32 = .ok (.if_icmp .lt 5, 3) := by decide +kernel
theorem dX3_readUnit_35 : decode cX3_readUnit 35 = .ok (.iconst 0, 1) := by decide +kernel
theorem dX3_readUnit_36 : decode cX3_readUnit 36 = .ok (.ireturn, 1) := by decide +kernel
theorem dX3_readUnit_37 : decode cX3_readUnit 37 = .ok (.aload_n 0, 1) := by decide +kernel
theorem dX3_readUnit_38 : decode cX3_readUnit 38 = .ok (.dup, 1) := by decide +kernel
theorem dX3_readUnit_39 : decode cX3_readUnit 39 = .ok (.getfield 48, 3) := by decide +kernel
theorem dX3_readUnit_42 : decode cX3_readUnit 42 = .ok (.iconst 1, 1) := by decide +kernel
theorem dX3_readUnit_43 : decode cX3_readUnit 43 = .ok (.iadd, 1) := by decide +kernel
theorem dX3_readUnit_44 : decode cX3_readUnit 44 = .ok (.putfield 48, 3) := by decide +kernel
theorem dX3_readUnit_47 : decode cX3_readUnit 47 = .ok (.iload_n 2, 1) := by decide +kernel
theorem dX3_readUnit_48 : decode cX3_readUnit 48 = .ok (.bipush 33, 2) := by decide +kernel
theorem dX3_readUnit_50 : decode cX3_readUnit 50 = .ok (.if_icmp .ne 13, 3) := by decide +kernel
theorem dX3_readUnit_53 : decode cX3_readUnit 53 = .ok (.aload_n 0, 1) := by decide +kernel
theorem dX3_readUnit_54 : decode cX3_readUnit 54 = .ok (.iload_n 1, 1) := by decide +kernel
theorem dX3_readUnit_55 : decode cX3_readUnit 55 = .ok (.iconst 1, 1) := by decide +kernel
theorem dX3_readUnit_56 : decode cX3_readUnit 56 = .ok (.iadd, 1) := by decide +kernel
theorem dX3_readUnit_57 : decode cX3_readUnit 57 = .ok (.invokevirtual 80, 3) := by decide +kernel
theorem dX3_readUnit_60 : decode cX3_readUnit 60 = .ok (.goto 10, 3) := by decide +kernel
theorem dX3_readUnit_63 : decode cX3_readUnit 63 = .ok (.aload_n 0, 1) := by decide +kernel
theorem dX3_readUnit_64 : decode cX3_readUnit 64 = .ok (.iload_n 1, 1) := by decide +kernel
theorem dX3_readUnit_65 : decode cX3_readUnit 65 = .ok (.iconst 1, 1) := by decide +kernel
theorem dX3_readUnit_66 : decode cX3_readUnit 66 = .ok (.iadd, 1) := by decide +kernel
theorem dX3_readUnit_67 : decode cX3_readUnit 67 = .ok (.invokevirtual 83, 3) := by decide +kernel
theorem dX3_readUnit_70 : decode cX3_readUnit 70 = .ok (.ireturn, 1) := by decide +kernel
theorem dX3_readUnit_71 : decode cX3_readUnit 71 = .ok (.iload_n 2, 1) := by decide +kernel
theorem dX3_readUnit_72 : decode cX3_readUnit 72 = .ok (.iconst (-1), 1) := by decide +kernel
theorem dX3_readUnit_73 : decode cX3_readUnit 73 = .ok (.if_icmp .ne 7, 3) := by decide +kernel
theorem dX3_readUnit_76 : decode cX3_readUnit 76 = .ok (.iconst (-1), 1) := by decide +kernel
theorem dX3_readUnit_77 : decode cX3_readUnit 77 = .ok (.goto 12, 3) := by decide +kernel
theorem dX3_readUnit_80 : decode cX3_readUnit 80 = .ok (.aload_n 0, 1) := by decide +kernel
theorem dX3_readUnit_81 : decode cX3_readUnit 81 = .ok (.getfield 24, 3) := by decide +kernel
theorem dX3_readUnit_84 : decode cX3_readUnit 84 = .ok (.iload_n 2, 1) := by decide +kernel
theorem dX3_readUnit_85 : decode cX3_readUnit 85 = .ok (.i2c, 1) := by decide +kernel
theorem dX3_readUnit_86 : decode cX3_readUnit 86 = .ok (.invokevirtual 86, 3) := by decide +kernel
theorem dX3_readUnit_89 : decode cX3_readUnit 89 = .ok (.istore_n 3, 1) := by decide +kernel
theorem dX3_readUnit_90 : decode cX3_readUnit 90 = .ok (.iload_n 3, 1) := by decide +kernel
theorem dX3_readUnit_91 : decode cX3_readUnit 91 = .ok (.ifCond .ge 5, 3) := by decide +kernel
theorem dX3_readUnit_94 : decode cX3_readUnit 94 = .ok (.iconst 0, 1) := by decide +kernel
theorem dX3_readUnit_95 : decode cX3_readUnit 95 = .ok (.ireturn, 1) := by decide +kernel
theorem dX3_readUnit_96 : decode cX3_readUnit 96 = .ok (.aload_n 0, 1) := by decide +kernel
theorem dX3_readUnit_97 : decode cX3_readUnit 97 = .ok (.getfield 12, 3) := by decide +kernel
theorem dX3_readUnit_100 : decode cX3_readUnit 100 = .ok (.iload_n 3, 1) := by decide +kernel
theorem dX3_readUnit_101 : decode cX3_readUnit 101 = .ok (.invokevirtual 91, 3) := by decide +kernel
theorem dX3_readUnit_104 : decode cX3_readUnit 104 = .ok (.aload_n 0, 1) := by decide +kernel
theorem dX3_readUnit_105 : decode cX3_readUnit 105 = .ok (.dup, 1) := by decide +kernel
theorem dX3_readUnit_106 : decode cX3_readUnit 106 = .ok (.getfield 48, 3) := by decide +kernel
theorem dX3_readUnit_109 : decode cX3_readUnit 109 = .ok (.iconst 1, 1) := by decide +kernel
theorem dX3_readUnit_110 : decode cX3_readUnit 110 = .ok (.iadd, 1) := by decide +kernel
theorem dX3_readUnit_111 : decode cX3_readUnit 111 = .ok (.putfield 48, 3) := by decide +kernel
theorem dX3_readUnit_114 : decode cX3_readUnit 114 = .ok (.iconst 1, 1) := by decide +kernel
theorem dX3_readUnit_115 : decode cX3_readUnit 115 = .ok (.ireturn, 1) := by decide +kernel
theorem dX3_readNot_0 : decode cX3_readNot 0 = .ok (.aload_n 0, 1) := by decide +kernel
theorem dX3_readNot_1 : decode cX3_readNot 1 = .ok (.iload_n 1, 1) := by decide +kernel
theorem dX3_readNot_2 : decode cX3_readNot 2 = .ok (.invokevirtual 58, 3) := by decide +kernel
theorem dX3_readNot_5 : decode cX3_readNot 5 = .ok (.ifCond .ne 5, 3) := by decide +kernel
theorem dX3_readNot_8 : decode cX3_readNot 8 = .ok (.iconst 0, 1) := by decide +kernel
theorem dX3_readNot_9 : decode cX3_readNot 9 = .ok (.ireturn, 1) := by decide +kernel
theorem dX3_readNot_10 : decode cX3_readNot 10 = .ok (.aload_n 0, 1) := by decide +kernel
theorem dX3_readNot_11 : decode cX3_readNot 11 = .ok (.getfield 12, 3) := by decide +kernel
theorem dX3_readNot_14 : decode cX3_readNot 14 = .ok (.bipush 33, 2) := by decide +kernel
theorem dX3_readNot_16 : decode cX3_readNot 16 = .ok (.invokevirtual 70, 3) := by decide +kernel
theorem dX3_readNot_19 : decode cX3_readNot 19 = .ok (.iconst 1, 1) := by decide +kernel
theorem dX3_readNot_20 : decode cX3_readNot 20 = .ok (.ireturn, 1) := by decide +kernel
theorem dX3_readBraced_0 : decode cX3_readBraced 0 = .ok (.aload_n 0, 1) := by decide +kernel
theorem dX3_readBraced_1 : decode cX3_readBraced 1 = .ok (.iconst 0, 1) := by decide +kernel
theorem dX3_readBraced_2 : decode cX3_readBraced 2 = .ok (.iload_n 1, 1) := by decide +kernel
theorem dX3_readBraced_3 : decode cX3_readBraced 3 = .ok (.invokevirtual 54, 3) := by decide +kernel
theorem dX3_readBraced_6 : decode cX3_readBraced 6 = .ok (.ifCond .eq 12, 3) := by decide +kernel
theorem dX3_readBraced_9 : decode cX3_readBraced 9 = .ok (.aload_n 0, 1) := by decide +kernel
theorem dX3_readBraced_10 : decode cX3_readBraced 10 = .ok (.invokevirtual 62, 3) := by decide +kernel
theorem dX3_readBraced_13 : decode cX3_readBraced 13 = .ok (.bipush 41, 2) := by decide +kernel
theorem dX3_readBraced_15 : decode cX3_readBraced 15 = .ok (.if_icmp .eq 5, 3) := by decide +kernel
theorem dX3_readBraced_18 : decode cX3_readBraced 18 = .ok (.iconst 0, 1) := by decide +kernel
theorem dX3_readBraced_19 : decode cX3_readBraced 19 = .ok (.ireturn, 1) := by decide +kernel
theorem dX3_readBraced_20 : decode cX3_readBraced 20 = .ok (.aload_n 0, 1) := by decide +kernel
theorem dX3_readBraced_21 : decode cX3_readBraced 21 = .ok (.dup, 1) := by decide +kernel
theorem dX3_readBraced_22 : decode cX3_readBraced 22 = .ok (.getfield 48, 3) := by decide +kernel
theorem dX3_readBraced_25 : decode cX3_readBraced 25 = .ok (.iconst 1, 1) := by decide +kernel
theorem dX3_readBraced_26 : decode cX3_readBraced 26 = .ok (.iadd, 1) := by decide +kernel
theorem dX3_readBraced_27 : decode cX3_readBraced 27 = .ok (.putfield 48, 3) := by decide +kernel
theorem dX3_readBraced_30 : decode cX3_readBraced 30 = .ok (.iconst 1, 1) := by decide +kernel
theorem dX3_readBraced_31 : decode cX3_readBraced 31 = .ok (.ireturn, 1) := by decide +kernel
theorem dX3_readNumber_0 : decode cX3_readNumber 0 = .ok (.iconst 0, 1) := by decide +kernel
theorem dX3_readNumber_1 : decode cX3_readNumber 1 = .ok (.istore_n 1, 1) := by decide +kernel
theorem dX3_readNumber_2 : decode cX3_readNumber 2 = .ok (.iconst 0, 1) := by decide +kernel
theorem dX3_readNumber_3 : decode cX3_readNumber 3 = .ok (.istore_n 2, 1) := by decide +kernel
theorem dX3_readNumber_4 : decode cX3_readNumber 4 = .ok (.iload_n 2, 1) := by decide +kernel
theorem dX3_readNumber_5 : decode cX3_readNumber 5 = .ok (.iconst 4, 1) := by decide +kernel
theorem dX3_readNumber_6 : decode cX3_readNumber 6 = .ok (.if_icmp .ge 42, 3) := by decide +kernel
theorem dX3_readNumber_9 : decode cX3_readNumber 9 = .ok (.aload_n 0, 1) := by decide +kernel
theorem dX3_readNumber_10 : decode cX3_readNumber 10 = .ok (.invokevirtual 62, 3) := by decide +kernel
theorem dX3_readNumber_13 : decode cX3_readNumber 13 = .ok (.invokestatic 74, 3) := by decide +kernel
theorem dX3_readNumber_16 : decode cX3_readNumber 16 = .ok (.ifCond .eq 32, 3) := by decide +kernel
theorem dX3_readNumber_19 : decode cX3_readNumber 19 = .ok (.iload_n 1, 1) := by decide +kernel
theorem dX3_readNumber_20 : decode cX3_readNumber 20 = .ok (.bipush 10, 2) := by decide +kernel
theorem dX3_readNumber_22 : decode cX3_readNumber 22 = .ok (.imul, 1) := by decide +kernel
theorem dX3_readNumber_23 : decode cX3_readNumber 23 = .ok (.aload_n 0, 1) := by decide +kernel
theorem dX3_readNumber_24 : decode cX3_readNumber 24 = .ok (.invokevirtual 62, 3) := by decide +kernel
theorem dX3_readNumber_27 : decode cX3_readNumber 27 = .ok (.iadd, 1) := by decide +kernel
theorem dX3_readNumber_28 : decode cX3_readNumber 28 = .ok (.bipush 48, 2) := by decide +kernel
theorem dX3_readNumber_30 : decode cX3_readNumber 30 = .ok (.isub, 1) := by decide +kernel
theorem dX3_readNumber_31 : decode cX3_readNumber 31 = .ok (.istore_n 1, 1) := by decide +kernel
theorem dX3_readNumber_32 : decode cX3_readNumber 32 = .ok (.aload_n 0, 1) := by decide +kernel
theorem dX3_readNumber_33 : decode cX3_readNumber 33 = .ok (.dup, 1) := by decide +kernel
theorem dX3_readNumber_34 : decode cX3_readNumber 34 = .ok (.getfield 48, 3) := by decide +kernel
theorem dX3_readNumber_37 : decode cX3_readNumber 37 = .ok (.iconst 1, 1) := by decide +kernel
theorem dX3_readNumber_38 : decode cX3_readNumber 38 = .ok (.iadd, 1) := by decide +kernel
theorem dX3_readNumber_39 : decode cX3_readNumber 39 = .ok (.putfield 48, 3) := by decide +kernel
theorem dX3_readNumber_42 : decode cX3_readNumber 42 = .ok (.iinc 2 1, 3) := by decide +kernel
theorem dX3_readNumber_45 : decode cX3_readNumber 45 = .ok (.goto (-41), 3) := by decide +kernel
theorem dX3_readNumber_48 : decode cX3_readNumber 48 = .ok (.aload_n 0, 1) := by decide +kernel
theorem dX3_readNumber_49 : decode cX3_readNumber 49 = .ok (.getfield 12, 3) := by decide +kernel
theorem dX3_readNumber_52 : decode cX3_readNumber 52 = .ok (.iload_n 1, 1) := by decide +kernel
theorem dX3_readNumber_53 : decode cX3_readNumber 53 = .ok (.invokevirtual 94, 3) := by decide +kernel
theorem dX3_readNumber_56 : decode cX3_readNumber 56 = .ok (.return_, 1) := by decide +kernel
theorem dX3_next_0 : decode cX3_next 0 = .ok (.aload_n 0, 1) := by decide +kernel
theorem dX3_next_1 : decode cX3_next 1 = .ok (.getfield 48, 3) := by decide +kernel
theorem dX3_next_4 : decode cX3_next 4 = .ok (.ifCond .lt 26, 3) := by decide +kernel
theorem dX3_next_7 : decode cX3_next 7 = .ok (.aload_n 0, 1) := by decide +kernel
theorem dX3_next_8 : decode cX3_next 8 = .ok (.getfield 48, 3) := by decide +kernel
theorem dX3_next_11 : decode cX3_next 11 = .ok (.aload_n 0, 1) := by decide +kernel
theorem dX3_next_12 : decode cX3_next 12 = .ok (.getfield 38, 3) := by decide +kernel
theorem dX3_next_15 : decode cX3_next 15 = .ok (.if_icmp .ge 15, 3) := by decide +kernel
theorem dX3_next_18 : decode cX3_next 18 = .ok (.aload_n 0, 1) := by decide +kernel
theorem dX3_next_19 : decode cX3_next 19 = .ok (.getfield 18, 3) := by decide +kernel
theorem dX3_next_22 : decode cX3_next 22 = .ok (.aload_n 0, 1) := by decide +kernel
theorem dX3_next_23 : decode cX3_next 23 = .ok (.getfield 48, 3) := by decide +kernel
theorem dX3_next_26 : decode cX3_next 26 = .ok (.iaload, 1) := by decide +kernel
theorem dX3_next_27 : decode cX3_next 27 = .ok (.goto 4, 3) := by decide +kernel
theorem dX3_next_30 : decode cX3_next 30 = .ok (.iconst (-1), 1) := by decide +kernel
theorem dX3_next_31 : decode cX3_next 31 = .ok (.ireturn, 1) := by decide +kernel
theorem dX3_isDigit_0 : decode cX3_isDigit 0 = .ok (.iload_n 0, 1) := by decide +kernel
theorem dX3_isDigit_1 : decode cX3_isDigit 1 = .ok (.bipush 48, 2) := by decide +kernel
theorem dX3_isDigit_3 : decode cX3_isDigit 3 = .ok (.if_icmp .lt 13, 3) := by decide +kernel
theorem dX3_isDigit_6 : decode cX3_isDigit 6 = .ok (.iload_n 0, 1) := by decide +kernel
theorem dX3_isDigit_7 : decode cX3_isDigit 7 = .ok (.bipush 57, 2) := by decide +kernel
theorem dX3_isDigit_9 : decode cX3_isDigit 9 = .ok (.if_icmp .gt 7, 3) := by decide +kernel
theorem dX3_isDigit_12 : decode cX3_isDigit 12 = .ok (.iconst 1, 1) := by decide +kernel
theorem dX3_isDigit_13 : decode cX3_isDigit 13 = .ok (.goto 4, 3) := by decide +kernel
theorem dX3_isDigit_16 : decode cX3_isDigit 16 = .ok (.iconst 0, 1) := by decide +kernel
theorem dX3_isDigit_17 : decode cX3_isDigit 17 = .ok (.ireturn, 1) := by decide +kernel
theorem dX3_levelOf_0 : decode cX3_levelOf 0 = .ok (.iload_n 0, 1) := by decide +kernel
theorem dX3_levelOf_1 : decode cX3_levelOf 1 = .ok (.lookupswitch 101 #[(37, 99), (38, 93), (42, 99), (43, 97), (45, 97), (47, 99), (60, 95), (61, 95), (62, 95), (124, 91)], 91) := by decide +kernel
theorem dX3_levelOf_92 : decode cX3_levelOf 92 = .ok (.iconst 0, 1) := by decide +kernel
theorem dX3_levelOf_93 : decode cX3_levelOf 93 = .ok (.ireturn, 1) := by decide +kernel
theorem dX3_levelOf_94 : decode cX3_levelOf 94 = .ok (.iconst 1, 1) := by decide +kernel
theorem dX3_levelOf_95 : decode cX3_levelOf 95 = .ok (.ireturn, 1) := by decide +kernel
theorem dX3_levelOf_96 : decode cX3_levelOf 96 = .ok (.iconst 2, 1) := by decide +kernel
theorem dX3_levelOf_97 : decode cX3_levelOf 97 = .ok (.ireturn, 1) := by decide +kernel
theorem dX3_levelOf_98 : decode cX3_levelOf 98 = .ok (.iconst 3, 1) := by decide +kernel
theorem dX3_levelOf_99 : decode cX3_levelOf 99 = .ok (.ireturn, 1) := by decide +kernel
theorem dX3_levelOf_100 : decode cX3_levelOf 100 = .ok (.iconst 4, 1) := by decide +kernel
theorem dX3_levelOf_101 : decode cX3_levelOf 101 = .ok (.ireturn, 1) := by decide +kernel
theorem dX3_levelOf_102 : decode cX3_levelOf 102 = .ok (.iconst (-1), 1) := by decide +kernel
theorem dX3_levelOf_103 : decode cX3_levelOf 103 = .ok (.ireturn, 1) := by decide +kernel
theorem dX5_init_0 : decode cX5_init 0 = .ok (.aload_n 0, 1) := by decide +kernel
theorem dX5_init_1 : decode cX5_init 1 = .ok (.invokespecial 3, 3) := by decide +kernel
theorem dX5_init_4 : decode cX5_init 4 = .ok (.aload_n 0, 1) := by decide +kernel
theorem dX5_init_5 : decode cX5_init 5 = .ok (.bipush 8, 2) := by decide +kernel
theorem dX5_init_7 : decode cX5_init 7 = .ok (.newarray .int, 2) := by decide +kernel
theorem dX5_init_9 : decode cX5_init 9 = .ok (.putfield 9, 3) := by decide +kernel
theorem dX5_init_12 : decode cX5_init 12 = .ok (.aload_n 0, 1) := by decide +kernel
theorem dX5_init_13 : decode cX5_init 13 = .ok (.bipush 8, 2) := by decide +kernel
theorem dX5_init_15 : decode cX5_init 15 = .ok (.newarray .int, 2) := by decide +kernel
theorem dX5_init_17 : decode cX5_init 17 = .ok (.putfield 15, 3) := by decide +kernel
theorem dX5_init_20 : decode cX5_init 20 = .ok (.aload_n 0, 1) := by decide +kernel
theorem dX5_init_21 : decode cX5_init 21 = .ok (.aload_n 1, 1) := by decide +kernel
theorem dX5_init_22 : decode cX5_init 22 = .ok (.putfield 18, 3) := by decide +kernel
theorem dX5_init_25 : decode cX5_init 25 = .ok (.aload_n 0, 1) := by decide +kernel
theorem dX5_init_26 : decode cX5_init 26 = .ok (.aload_n 2, 1) := by decide +kernel
theorem dX5_init_27 : decode cX5_init 27 = .ok (.putfield 22, 3) := by decide +kernel
theorem dX5_init_30 : decode cX5_init 30 = .ok (.return_, 1) := by decide +kernel
theorem dX5_offsetOf_0 : decode cX5_offsetOf 0 = .ok (.aload_n 0, 1) := by decide +kernel
theorem dX5_offsetOf_1 : decode cX5_offsetOf 1 = .ok (.getfield 15, 3) := by decide +kernel
theorem dX5_offsetOf_4 : decode cX5_offsetOf 4 = .ok (.iload_n 1, 1) := by decide +kernel
theorem dX5_offsetOf_5 : decode cX5_offsetOf 5 = .ok (.iaload, 1) := by decide +kernel
theorem dX5_offsetOf_6 : decode cX5_offsetOf 6 = .ok (.ireturn, 1) := by decide +kernel
theorem dX5_lineUp_0 : decode cX5_lineUp 0 = .ok (.aload_n 0, 1) := by decide +kernel
theorem dX5_lineUp_1 : decode cX5_lineUp 1 = .ok (.getfield 22, 3) := by decide +kernel
theorem dX5_lineUp_4 : decode cX5_lineUp 4 = .ok (.iload_n 1, 1) := by decide +kernel
theorem dX5_lineUp_5 : decode cX5_lineUp 5 = .ok (.aload_n 0, 1) := by decide +kernel
theorem dX5_lineUp_6 : decode cX5_lineUp 6 = .ok (.getfield 18, 3) := by decide +kernel
theorem dX5_lineUp_9 : decode cX5_lineUp 9 = .ok (.getfield 26, 3) := by decide +kernel
theorem dX5_lineUp_12 : decode cX5_lineUp 12 = .ok (.invokevirtual 32, 3) := by decide +kernel
theorem dX5_lineUp_15 : decode cX5_lineUp 15 = .ok (.aload_n 0, 1) := by decide +kernel
theorem dX5_lineUp_16 : decode cX5_lineUp 16 = .ok (.iconst 0, 1) := by decide +kernel
theorem dX5_lineUp_17 : decode cX5_lineUp 17 = .ok (.putfield 38, 3) := by decide +kernel
theorem dX5_lineUp_20 : decode cX5_lineUp 20 = .ok (.iconst 0, 1) := by decide +kernel
theorem dX5_lineUp_21 : decode cX5_lineUp 21 = .ok (.istore_n 2, 1) := by decide +kernel
theorem dX5_lineUp_22 : decode cX5_lineUp 22 = .ok (.iload_n 2, 1) := by decide +kernel
theorem dX5_lineUp_23 : decode cX5_lineUp 23 = .ok (.aload_n 0, 1) := by decide +kernel
theorem dX5_lineUp_24 : decode cX5_lineUp 24 = .ok (.getfield 18, 3) := by decide +kernel
theorem dX5_lineUp_27 : decode cX5_lineUp 27 = .ok (.getfield 41, 3) := by decide +kernel
theorem dX5_lineUp_30 : decode cX5_lineUp 30 = .ok (.if_icmp .ge 30, 3) := by decide +kernel
theorem dX5_lineUp_33 : decode cX5_lineUp 33 = .ok (.aload_n 0, 1) := by decide +kernel
theorem dX5_lineUp_34 : decode cX5_lineUp 34 = .ok (.getfield 18, 3) := by decide +kernel
theorem dX5_lineUp_37 : decode cX5_lineUp 37 = .ok (.getfield 44, 3) := by decide +kernel
theorem dX5_lineUp_40 : decode cX5_lineUp 40 = .ok (.iload_n 2, 1) := by decide +kernel
theorem dX5_lineUp_41 : decode cX5_lineUp 41 = .ok (.aaload, 1) := by decide +kernel
theorem dX5_lineUp_42 : decode cX5_lineUp 42 = .ok (.iload_n 1, 1) := by decide +kernel
theorem dX5_lineUp_43 : decode cX5_lineUp 43 = .ok (.invokevirtual 48, 3) := by decide +kernel
theorem dX5_lineUp_46 : decode cX5_lineUp 46 = .ok (.ifCond .eq 8, 3) := by decide +kernel
theorem dX5_lineUp_49 : decode cX5_lineUp 49 = .ok (.aload_n 0, 1) := by decide +kernel
theorem dX5_lineUp_50 : decode cX5_lineUp 50 = .ok (.iload_n 2, 1) := by decide +kernel
theorem dX5_lineUp_51 : decode cX5_lineUp 51 = .ok (.invokevirtual 54, 3) := by decide +kernel
theorem dX5_lineUp_54 : decode cX5_lineUp 54 = .ok (.iinc 2 1, 3) := by decide +kernel
theorem dX5_lineUp_57 : decode cX5_lineUp 57 = .ok (.goto (-35), 3) := by decide +kernel
theorem dX5_lineUp_60 : decode cX5_lineUp 60 = .ok (.return_, 1) := by decide +kernel
theorem dX5_goEarly_0 : decode cX5_goEarly 0 = .ok (.iconst 0, 1) := by decide +kernel
theorem dX5_goEarly_1 : decode cX5_goEarly 1 = .ok (.istore_n 2, 1) := by decide +kernel
theorem dX5_goEarly_2 : decode cX5_goEarly 2 = .ok (.iload_n 2, 1) := by decide +kernel
theorem dX5_goEarly_3 : decode cX5_goEarly 3 = .ok (.aload_n 0, 1) := by decide +kernel
theorem dX5_goEarly_4 : decode cX5_goEarly 4 = .ok (.getfield 38, 3) := by decide +kernel
theorem dX5_goEarly_7 : decode cX5_goEarly 7 = .ok (.if_icmp .ge 101, 3) := by decide +kernel
theorem dX5_goEarly_10 : decode cX5_goEarly 10 = .ok (.aload_n 0, 1) := by decide +kernel
theorem dX5_goEarly_11 : decode cX5_goEarly 11 = .ok (.getfield 9, 3) := by decide +kernel
theorem dX5_goEarly_14 : decode cX5_goEarly 14 = .ok (.iload_n 2, 1) := by decide +kernel
theorem dX5_goEarly_15 : decode cX5_goEarly 15 = .ok (.iaload, 1) := by decide +kernel
theorem dX5_goEarly_16 : decode cX5_goEarly 16 = .ok (.istore_n 3, 1) := by decide +kernel
theorem dX5_goEarly_17 : decode cX5_goEarly 17 = .ok (.aload_n 0, 1) := by decide +kernel
theorem dX5_goEarly_18 : decode cX5_goEarly 18 = .ok (.getfield 18, 3) := by decide +kernel
theorem dX5_goEarly_21 : decode cX5_goEarly 21 = .ok (.getfield 44, 3) := by decide +kernel
theorem dX5_goEarly_24 : decode cX5_goEarly 24 = .ok (.iload_n 3, 1) := by decide +kernel
theorem dX5_goEarly_25 : decode cX5_goEarly 25 = .ok (.aaload, 1) := by decide +kernel
theorem dX5_goEarly_26 : decode cX5_goEarly 26 = .ok (.getfield 58, 3) := by decide +kernel
theorem dX5_goEarly_29 : decode cX5_goEarly 29 = .ok (.iload_n 1, 1) := by decide +kernel
theorem dX5_goEarly_30 : decode cX5_goEarly 30 = .ok (.isub, 1) := by decide +kernel
theorem dX5_goEarly_31 : decode cX5_goEarly 31 = .ok (.istore 4, 2) := by decide +kernel
theorem dX5_goEarly_33 : decode cX5_goEarly 33 = .ok (.iconst 0, 1) := by decide +kernel
theorem dX5_goEarly_34 : decode cX5_goEarly 34 = .ok (.istore 5, 2) := by decide +kernel
theorem dX5_goEarly_36 : decode cX5_goEarly 36 = .ok (.iload 5, 2) := by decide +kernel
theorem dX5_goEarly_38 : decode cX5_goEarly 38 = .ok (.iload_n 2, 1) := by decide +kernel
theorem dX5_goEarly_39 : decode cX5_goEarly 39 = .ok (.if_icmp .ge 55, 3) := by decide +kernel
theorem dX5_goEarly_42 : decode cX5_goEarly 42 = .ok (.aload_n 0, 1) := by decide +kernel
theorem dX5_goEarly_43 : decode cX5_goEarly 43 = .ok (.getfield 22, 3) := by decide +kernel
theorem dX5_goEarly_46 : decode cX5_goEarly 46 = .ok (.aload_n 0, 1) := by decide +kernel
theorem dX5_goEarly_47 : decode cX5_goEarly 47 = .ok (.getfield 9, 3) := by decide +kernel
theorem dX5_goEarly_50 : decode cX5_goEarly 50 = .ok (.iload 5, 2) := by decide +kernel
theorem dX5_goEarly_52 : decode cX5_goEarly 52 = .ok (.iaload, 1) := by decide +kernel
theorem dX5_goEarly_53 : decode cX5_goEarly 53 = .ok (.iload_n 3, 1) := by decide +kernel
theorem dX5_goEarly_54 : decode cX5_goEarly 54 = .ok (.invokevirtual 61, 3) := by decide +kernel
theorem dX5_goEarly_57 : decode cX5_goEarly 57 = .ok (.istore 6, 2) := by decide +kernel
theorem dX5_goEarly_59 : decode cX5_goEarly 59 = .ok (.iload 6, 2) := by decide +kernel
theorem dX5_goEarly_61 : decode cX5_goEarly 61 = .ok (.ldc 65, 2) := by decide +kernel
theorem dX5_goEarly_63 : decode cX5_goEarly 63 = .ok (.if_icmp .eq 25, 3) := by decide +kernel
theorem dX5_goEarly_66 : decode cX5_goEarly 66 = .ok (.iload 4, 2) := by decide +kernel
theorem dX5_goEarly_68 : decode cX5_goEarly 68 = .ok (.aload_n 0, 1) := by decide +kernel
theorem dX5_goEarly_69 : decode cX5_goEarly 69 = .ok (.getfield 15, 3) := by decide +kernel
theorem dX5_goEarly_72 : decode cX5_goEarly 72 = .ok (.aload_n 0, 1) := by decide +kernel
theorem dX5_goEarly_73 : decode cX5_goEarly 73 = .ok (.getfield 9, 3) := by decide +kernel
theorem dX5_goEarly_76 : decode cX5_goEarly 76 = .ok (.iload 5, 2) := by decide +kernel
theorem dX5_goEarly_78 : decode cX5_goEarly 78 = .ok (.iaload, 1) := by decide +kernel
theorem dX5_goEarly_79 : decode cX5_goEarly 79 = .ok (.iaload, 1) := by decide +kernel
theorem dX5_goEarly_80 : decode cX5_goEarly 80 = .ok (.iload 6, 2) := by decide +kernel
theorem dX5_goEarly_82 : decode cX5_goEarly 82 = .ok (.iadd, 1) := by decide +kernel
theorem dX5_goEarly_83 : decode cX5_goEarly 83 = .ok (.invokestatic 66, 3) := by decide +kernel
theorem dX5_goEarly_86 : decode cX5_goEarly 86 = .ok (.istore 4, 2) := by decide +kernel
theorem dX5_goEarly_88 : decode cX5_goEarly 88 = .ok (.iinc 5 1, 3) := by decide +kernel
theorem dX5_goEarly_91 : decode cX5_goEarly 91 = .ok (.goto (-55), 3) := by decide +kernel
theorem dX5_goEarly_94 : decode cX5_goEarly 94 = .ok (.aload_n 0, 1) := by decide +kernel
theorem dX5_goEarly_95 : decode cX5_goEarly 95 = .ok (.getfield 15, 3) := by decide +kernel
theorem dX5_goEarly_98 : decode cX5_goEarly 98 = .ok (.iload_n 3, 1) := by decide +kernel
theorem dX5_goEarly_99 : decode cX5_goEarly 99 = .ok (.iload 4, 2) := by decide +kernel
theorem dX5_goEarly_101 : decode cX5_goEarly 101 = .ok (.iastore, 1) := by decide +kernel
theorem dX5_goEarly_102 : decode cX5_goEarly 102 = .ok (.iinc 2 1, 3) := by decide +kernel
theorem dX5_goEarly_105 : decode cX5_goEarly 105 = .ok (.goto (-103), 3) := by decide +kernel
theorem dX5_goEarly_108 : decode cX5_goEarly 108 = .ok (.return_, 1) := by decide +kernel
theorem dX5_goLate_0 : decode cX5_goLate 0 = .ok (.aload_n 0, 1) := by decide +kernel
theorem dX5_goLate_1 : decode cX5_goLate 1 = .ok (.getfield 38, 3) := by decide +kernel
theorem dX5_goLate_4 : decode cX5_goLate 4 = .ok (.iconst 1, 1) := by decide +kernel
theorem dX5_goLate_5 : decode cX5_goLate 5 = .ok (.isub, 1) := by decide +kernel
theorem dX5_goLate_6 : decode cX5_goLate 6 = .ok (.istore_n 2, 1) := by decide +kernel
theorem dX5_goLate_7 : decode cX5_goLate 7 = .ok (.iload_n 2, 1) := by decide +kernel
theorem dX5_goLate_8 : decode cX5_goLate 8 = .ok (.ifCond .lt 106, 3) := by decide +kernel
theorem dX5_goLate_11 : decode cX5_goLate 11 = .ok (.aload_n 0, 1) := by decide +kernel
theorem dX5_goLate_12 : decode cX5_goLate 12 = .ok (.getfield 9, 3) := by decide +kernel
theorem dX5_goLate_15 : decode cX5_goLate 15 = .ok (.iload_n 2, 1) := by decide +kernel
theorem dX5_goLate_16 : decode cX5_goLate 16 = .ok (.iaload, 1) := by decide +kernel
theorem dX5_goLate_17 : decode cX5_goLate 17 = .ok (.istore_n 3, 1) := by decide +kernel
theorem dX5_goLate_18 : decode cX5_goLate 18 = .ok (.aload_n 0, 1) := by decide +kernel
theorem dX5_goLate_19 : decode cX5_goLate 19 = .ok (.getfield 18, 3) := by decide +kernel
theorem dX5_goLate_22 : decode cX5_goLate 22 = .ok (.getfield 44, 3) := by decide +kernel
theorem dX5_goLate_25 : decode cX5_goLate 25 = .ok (.iload_n 3, 1) := by decide +kernel
theorem dX5_goLate_26 : decode cX5_goLate 26 = .ok (.aaload, 1) := by decide +kernel
theorem dX5_goLate_27 : decode cX5_goLate 27 = .ok (.getfield 58, 3) := by decide +kernel
theorem dX5_goLate_30 : decode cX5_goLate 30 = .ok (.iload_n 1, 1) := by decide +kernel
theorem dX5_goLate_31 : decode cX5_goLate 31 = .ok (.iadd, 1) := by decide +kernel
theorem dX5_goLate_32 : decode cX5_goLate 32 = .ok (.istore 4, 2) := by decide +kernel
theorem dX5_goLate_34 : decode cX5_goLate 34 = .ok (.iload_n 2, 1) := by decide +kernel
theorem dX5_goLate_35 : decode cX5_goLate 35 = .ok (.iconst 1, 1) := by decide +kernel
theorem dX5_goLate_36 : decode cX5_goLate 36 = .ok (.iadd, 1) := by decide +kernel
theorem dX5_goLate_37 : decode cX5_goLate 37 = .ok (.istore 5, 2) := by decide +kernel
theorem dX5_goLate_39 : decode cX5_goLate 39 = .ok (.iload 5, 2) := by decide +kernel
theorem dX5_goLate_41 : decode cX5_goLate 41 = .ok (.aload_n 0, 1) := by decide +kernel
theorem dX5_goLate_42 : decode cX5_goLate 42 = .ok (.getfield 38, 3) := by decide +kernel
theorem dX5_goLate_45 : decode cX5_goLate 45 = .ok (.if_icmp .ge 55, 3) := by decide +kernel
theorem dX5_goLate_48 : decode cX5_goLate 48 = .ok (.aload_n 0, 1) := by decide +kernel
theorem dX5_goLate_49 : decode cX5_goLate 49 = .ok (.getfield 22, 3) := by decide +kernel
theorem dX5_goLate_52 : decode cX5_goLate 52 = .ok (.iload_n 3, 1) := by decide +kernel
theorem dX5_goLate_53 : decode cX5_goLate 53 = .ok (.aload_n 0, 1) := by decide +kernel
theorem dX5_goLate_54 : decode cX5_goLate 54 = .ok (.getfield 9, 3) := by decide +kernel
theorem dX5_goLate_57 : decode cX5_goLate 57 = .ok (.iload 5, 2) := by decide +kernel
theorem dX5_goLate_59 : decode cX5_goLate 59 = .ok (.iaload, 1) := by decide +kernel
theorem dX5_goLate_60 : decode cX5_goLate 60 = .ok (.invokevirtual 61, 3) := by decide +kernel
theorem dX5_goLate_63 : decode cX5_goLate 63 = .ok (.istore 6, 2) := by decide +kernel
theorem dX5_goLate_65 : decode cX5_goLate 65 = .ok (.iload 6, 2) := by decide +kernel
theorem dX5_goLate_67 : decode cX5_goLate 67 = .ok (.ldc 65, 2) := by decide +kernel
theorem dX5_goLate_69 : decode cX5_goLate 69 = .ok (.if_icmp .eq 25, 3) := by decide +kernel
theorem dX5_goLate_72 : decode cX5_goLate 72 = .ok (.iload 4, 2) := by decide +kernel
theorem dX5_goLate_74 : decode cX5_goLate 74 = .ok (.aload_n 0, 1) := by decide +kernel
theorem dX5_goLate_75 : decode cX5_goLate 75 = .ok (.getfield 15, 3) := by decide +kernel
theorem dX5_goLate_78 : decode cX5_goLate 78 = .ok (.aload_n 0, 1) := by decide +kernel
theorem dX5_goLate_79 : decode cX5_goLate 79 = .ok (.getfield 9, 3) := by decide +kernel
theorem dX5_goLate_82 : decode cX5_goLate 82 = .ok (.iload 5, 2) := by decide +kernel
theorem dX5_goLate_84 : decode cX5_goLate 84 = .ok (.iaload, 1) := by decide +kernel
theorem dX5_goLate_85 : decode cX5_goLate 85 = .ok (.iaload, 1) := by decide +kernel
theorem dX5_goLate_86 : decode cX5_goLate 86 = .ok (.iload 6, 2) := by decide +kernel
theorem dX5_goLate_88 : decode cX5_goLate 88 = .ok (.isub, 1) := by decide +kernel
theorem dX5_goLate_89 : decode cX5_goLate 89 = .ok (.invokestatic 71, 3) := by decide +kernel
theorem dX5_goLate_92 : decode cX5_goLate 92 = .ok (.istore 4, 2) := by decide +kernel
theorem dX5_goLate_94 : decode cX5_goLate 94 = .ok (.iinc 5 1, 3) := by decide +kernel
theorem dX5_goLate_97 : decode cX5_goLate 97 = .ok (.goto (-58), 3) := by decide +kernel
theorem dX5_goLate_100 : decode cX5_goLate 100 = .ok (.aload_n 0, 1) := by decide +kernel
theorem dX5_goLate_101 : decode cX5_goLate 101 = .ok (.getfield 15, 3) := by decide +kernel
theorem dX5_goLate_104 : decode cX5_goLate 104 = .ok (.iload_n 3, 1) := by decide +kernel
theorem dX5_goLate_105 : decode cX5_goLate 105 = .ok (.iload 4, 2) := by decide +kernel
theorem dX5_goLate_107 : decode cX5_goLate 107 = .ok (.iastore, 1) := by decide +kernel
theorem dX5_goLate_108 : decode cX5_goLate 108 = .ok (.iinc 2 (-1), 3) := by decide +kernel
theorem dX5_goLate_111 : decode cX5_goLate 111 = .ok (.goto (-104), 3) := by decide +kernel
theorem dX5_goLate_114 : decode cX5_goLate 114 = .ok (.return_, 1) := by decide +kernel
theorem dX5_latestBehind_0 : decode cX5_latestBehind 0 = .ok (.iconst 0, 1) := by decide +kernel
theorem dX5_latestBehind_1 : decode cX5_latestBehind 1 = .ok (.istore_n 1, 1) := by decide +kernel
theorem dX5_latestBehind_2 : decode cX5_latestBehind 2 = .ok (.iconst 0, 1) := by decide +kernel
theorem dX5_latestBehind_3 : decode cX5_latestBehind 3 = .ok (.istore_n 2, 1) := by decide +kernel
theorem dX5_latestBehind_4 : decode cX5_latestBehind 4 = .ok (.iload_n 2, 1) := by decide +kernel
theorem dX5_latestBehind_5 : decode cX5_latestBehind 5 = .ok (.aload_n 0, 1) := by decide +kernel
theorem dX5_latestBehind_6 : decode cX5_latestBehind 6 = .ok (.getfield 38, 3) := by decide +kernel
theorem dX5_latestBehind_9 : decode cX5_latestBehind 9 = .ok (.if_icmp .ge 43, 3) := by decide +kernel
theorem dX5_latestBehind_12 : decode cX5_latestBehind 12 = .ok (.iload_n 1, 1) := by decide +kernel
theorem dX5_latestBehind_13 : decode cX5_latestBehind 13 = .ok (.aload_n 0, 1) := by decide +kernel
theorem dX5_latestBehind_14 : decode cX5_latestBehind 14 = .ok (.getfield 15, 3) := by decide +kernel
theorem dX5_latestBehind_17 : decode cX5_latestBehind 17 = .ok (.aload_n 0, 1) := by decide +kernel
theorem dX5_latestBehind_18 : decode cX5_latestBehind 18 = .ok (.getfield 9, 3) := by decide +kernel
theorem dX5_latestBehind_21 : decode cX5_latestBehind 21 = .ok (.iload_n 2, 1) := by decide +kernel
theorem dX5_latestBehind_22 : decode cX5_latestBehind 22 = .ok (.iaload, 1) := by decide +kernel
theorem dX5_latestBehind_23 : decode cX5_latestBehind 23 = .ok (.iaload, 1) := by decide +kernel
theorem dX5_latestBehind_24 : decode cX5_latestBehind 24 = .ok (.aload_n 0, 1) := by decide +kernel
theorem dX5_latestBehind_25 : decode cX5_latestBehind 25 = .ok (.getfield 18, 3) := by decide +kernel
theorem dX5_latestBehind_28 : decode cX5_latestBehind 28 = .ok (.getfield 44, 3) := by decide +kernel
theorem dX5_latestBehind_31 : decode cX5_latestBehind 31 = .ok (.aload_n 0, 1) := by decide +kernel
theorem dX5_latestBehind_32 : decode cX5_latestBehind 32 = .ok (.getfield 9, 3) := by decide +kernel
theorem dX5_latestBehind_35 : decode cX5_latestBehind 35 = .ok (.iload_n 2, 1) := by decide +kernel
theorem dX5_latestBehind_36 : decode cX5_latestBehind 36 = .ok (.iaload, 1) := by decide +kernel
theorem dX5_latestBehind_37 : decode cX5_latestBehind 37 = .ok (.aaload, 1) := by decide +kernel
theorem dX5_latestBehind_38 : decode cX5_latestBehind 38 = .ok (.getfield 58, 3) := by decide +kernel
theorem dX5_latestBehind_41 : decode cX5_latestBehind 41 = .ok (.isub, 1) := by decide +kernel
theorem dX5_latestBehind_42 : decode cX5_latestBehind 42 = .ok (.invokestatic 66, 3) := by decide +kernel
theorem dX5_latestBehind_45 : decode cX5_latestBehind 45 = .ok (.istore_n 1, 1) := by decide +kernel
theorem dX5_latestBehind_46 : decode cX5_latestBehind 46 = .ok (.iinc 2 1, 3) := by decide +kernel
theorem dX5_latestBehind_49 : decode cX5_latestBehind 49 = .ok (.goto (-45), 3) := by decide +kernel
theorem dX5_latestBehind_52 : decode cX5_latestBehind 52 = .ok (.iload_n 1, 1) := by decide +kernel
theorem dX5_latestBehind_53 : decode cX5_latestBehind 53 = .ok (.ireturn, 1) := by decide +kernel
theorem dX5_takeOver_0 : decode cX5_takeOver 0 = .ok (.iconst 0, 1) := by decide +kernel
theorem dX5_takeOver_1 : decode cX5_takeOver 1 = .ok (.istore_n 1, 1) := by decide +kernel
theorem dX5_takeOver_2 : decode cX5_takeOver 2 = .ok (.iconst 0, 1) := by decide +kernel
theorem dX5_takeOver_3 : decode cX5_takeOver 3 = .ok (.istore_n 2, 1) := by decide +kernel
theorem dX5_takeOver_4 : decode cX5_takeOver 4 = .ok (.iload_n 2, 1) := by decide +kernel
theorem dX5_takeOver_5 : decode cX5_takeOver 5 = .ok (.aload_n 0, 1) := by decide +kernel
theorem dX5_takeOver_6 : decode cX5_takeOver 6 = .ok (.getfield 38, 3) := by decide +kernel
theorem dX5_takeOver_9 : decode cX5_takeOver 9 = .ok (.if_icmp .ge 64, 3) := by decide +kernel
theorem dX5_takeOver_12 : decode cX5_takeOver 12 = .ok (.aload_n 0, 1) := by decide +kernel
theorem dX5_takeOver_13 : decode cX5_takeOver 13 = .ok (.getfield 18, 3) := by decide +kernel
theorem dX5_takeOver_16 : decode cX5_takeOver 16 = .ok (.getfield 44, 3) := by decide +kernel
theorem dX5_takeOver_19 : decode cX5_takeOver 19 = .ok (.aload_n 0, 1) := by decide +kernel
theorem dX5_takeOver_20 : decode cX5_takeOver 20 = .ok (.getfield 9, 3) := by decide +kernel
theorem dX5_takeOver_23 : decode cX5_takeOver 23 = .ok (.iload_n 2, 1) := by decide +kernel
theorem dX5_takeOver_24 : decode cX5_takeOver 24 = .ok (.iaload, 1) := by decide +kernel
theorem dX5_takeOver_25 : decode cX5_takeOver 25 = .ok (.aaload, 1) := by decide +kernel
theorem dX5_takeOver_26 : decode cX5_takeOver 26 = .ok (.astore_n 3, 1) := by decide +kernel
theorem dX5_takeOver_27 : decode cX5_takeOver 27 = .ok (.aload_n 0, 1) := by decide +kernel
theorem dX5_takeOver_28 : decode cX5_takeOver 28 = .ok (.getfield 15, 3) := by decide +kernel
theorem dX5_takeOver_31 : decode cX5_takeOver 31 = .ok (.aload_n 0, 1) := by decide +kernel
theorem dX5_takeOver_32 : decode cX5_takeOver 32 = .ok (.getfield 9, 3) := by decide +kernel
theorem dX5_takeOver_35 : decode cX5_takeOver 35 = .ok (.iload_n 2, 1) := by decide +kernel
theorem dX5_takeOver_36 : decode cX5_takeOver 36 = .ok (.iaload, 1) := by decide +kernel
theorem dX5_takeOver_37 : decode cX5_takeOver 37 = .ok (.iaload, 1) := by decide +kernel
theorem dX5_takeOver_38 : decode cX5_takeOver 38 = .ok (.sipush (-900), 3) := by decide +kernel
theorem dX5_takeOver_41 : decode cX5_takeOver 41 = .ok (.sipush 900, 3) := by decide +kernel
theorem dX5_takeOver_44 : decode cX5_takeOver 44 = .ok (.invokestatic 74, 3) := by decide +kernel
theorem dX5_takeOver_47 : decode cX5_takeOver 47 = .ok (.istore 4, 2) := by decide +kernel
theorem dX5_takeOver_49 : decode cX5_takeOver 49 = .ok (.iload 4, 2) := by decide +kernel
theorem dX5_takeOver_51 : decode cX5_takeOver 51 = .ok (.aload_n 3, 1) := by decide +kernel
theorem dX5_takeOver_52 : decode cX5_takeOver 52 = .ok (.getfield 58, 3) := by decide +kernel
theorem dX5_takeOver_55 : decode cX5_takeOver 55 = .ok (.if_icmp .eq 12, 3) := by decide +kernel
theorem dX5_takeOver_58 : decode cX5_takeOver 58 = .ok (.aload_n 3, 1) := by decide +kernel
theorem dX5_takeOver_59 : decode cX5_takeOver 59 = .ok (.iload 4, 2) := by decide +kernel
theorem dX5_takeOver_61 : decode cX5_takeOver 61 = .ok (.putfield 58, 3) := by decide +kernel
theorem dX5_takeOver_64 : decode cX5_takeOver 64 = .ok (.iinc 1 1, 3) := by decide +kernel
theorem dX5_takeOver_67 : decode cX5_takeOver 67 = .ok (.iinc 2 1, 3) := by decide +kernel
theorem dX5_takeOver_70 : decode cX5_takeOver 70 = .ok (.goto (-66), 3) := by decide +kernel
theorem dX5_takeOver_73 : decode cX5_takeOver 73 = .ok (.iload_n 1, 1) := by decide +kernel
theorem dX5_takeOver_74 : decode cX5_takeOver 74 = .ok (.ireturn, 1) := by decide +kernel
theorem dX5_insert_0 : decode cX5_insert 0 = .ok (.aload_n 0, 1) := by decide +kernel
theorem dX5_insert_1 : decode cX5_insert 1 = .ok (.getfield 38, 3) := by decide +kernel
theorem dX5_insert_4 : decode cX5_insert 4 = .ok (.bipush 8, 2) := by decide +kernel
theorem dX5_insert_6 : decode cX5_insert 6 = .ok (.if_icmp .lt 4, 3) := by decide +kernel
theorem dX5_insert_9 : decode cX5_insert 9 = .ok (.return_, 1) := by decide +kernel
theorem dX5_insert_10 : decode cX5_insert 10 = .ok (.aload_n 0, 1) := by decide +kernel
theorem dX5_insert_11 : decode cX5_insert 11 = .ok (.getfield 38, 3) := by decide +kernel
theorem dX5_insert_14 : decode cX5_insert 14 = .ok (.istore_n 2, 1) := by decide +kernel
theorem dX5_insert_15 : decode cX5_insert 15 = .ok (.iconst 0, 1) := by decide +kernel
theorem dX5_insert_16 : decode cX5_insert 16 = .ok (.istore_n 3, 1) := by decide +kernel
theorem dX5_insert_17 : decode cX5_insert 17 = .ok (.iload_n 3, 1) := by decide +kernel
theorem dX5_insert_18 : decode cX5_insert 18 = .ok (.aload_n 0, 1) := by decide +kernel
theorem dX5_insert_19 : decode cX5_insert 19 = .ok (.getfield 38, 3) := by decide +kernel
theorem dX5_insert_22 : decode cX5_insert 22 = .ok (.if_icmp .ge 63, 3) := by decide +kernel
theorem dX5_insert_25 : decode cX5_insert 25 = .ok (.aload_n 0, 1) := by decide +kernel
theorem dX5_insert_26 : decode cX5_insert 26 = .ok (.getfield 18, 3) := by decide +kernel
theorem dX5_insert_29 : decode cX5_insert 29 = .ok (.getfield 44, 3) := by decide +kernel
theorem dX5_insert_32 : decode cX5_insert 32 = .ok (.aload_n 0, 1) := by decide +kernel
theorem dX5_insert_33 : decode cX5_insert 33 = .ok (.getfield 9, 3) := by decide +kernel
theorem dX5_insert_36 : decode cX5_insert 36 = .ok (.iload_n 2, 1) := by decide +kernel
theorem dX5_insert_37 : decode cX5_insert 37 = .ok (.iconst 1, 1) := by decide +kernel
theorem dX5_insert_38 : decode cX5_insert 38 = .ok (.isub, 1) := by decide +kernel
theorem dX5_insert_39 : decode cX5_insert 39 = .ok (.iaload, 1) := by decide +kernel
theorem dX5_insert_40 : decode cX5_insert 40 = .ok (.aaload, 1) := by decide +kernel
theorem dX5_insert_41 : decode cX5_insert 41 = .ok (.getfield 58, 3) := by decide +kernel
theorem dX5_insert_44 : decode cX5_insert 44 = .ok (.aload_n 0, 1) := by decide +kernel
theorem dX5_insert_45 : decode cX5_insert 45 = .ok (.getfield 18, 3) := by decide +kernel
theorem dX5_insert_48 : decode cX5_insert 48 = .ok (.getfield 44, 3) := by decide +kernel
theorem dX5_insert_51 : decode cX5_insert 51 = .ok (.iload_n 1, 1) := by decide +kernel
theorem dX5_insert_52 : decode cX5_insert 52 = .ok (.aaload, 1) := by decide +kernel
theorem dX5_insert_53 : decode cX5_insert 53 = .ok (.getfield 58, 3) := by decide +kernel
theorem dX5_insert_56 : decode cX5_insert 56 = .ok (.if_icmp .gt 6, 3) := by decide +kernel
theorem dX5_insert_59 : decode cX5_insert 59 = .ok (.goto 26, 3) := by decide +kernel
theorem dX5_insert_62 : decode cX5_insert 62 = .ok (.aload_n 0, 1) := by decide +kernel
theorem dX5_insert_63 : decode cX5_insert 63 = .ok (.getfield 9, 3) := by decide +kernel
theorem dX5_insert_66 : decode cX5_insert 66 = .ok (.iload_n 2, 1) := by decide +kernel
theorem dX5_insert_67 : decode cX5_insert 67 = .ok (.aload_n 0, 1) := by decide +kernel
theorem dX5_insert_68 : decode cX5_insert 68 = .ok (.getfield 9, 3) := by decide +kernel
theorem dX5_insert_71 : decode cX5_insert 71 = .ok (.iload_n 2, 1) := by decide +kernel
theorem dX5_insert_72 : decode cX5_insert 72 = .ok (.iconst 1, 1) := by decide +kernel
theorem dX5_insert_73 : decode cX5_insert 73 = .ok (.isub, 1) := by decide +kernel
theorem dX5_insert_74 : decode cX5_insert 74 = .ok (.iaload, 1) := by decide +kernel
theorem dX5_insert_75 : decode cX5_insert 75 = .ok (.iastore, 1) := by decide +kernel
theorem dX5_insert_76 : decode cX5_insert 76 = .ok (.iinc 2 (-1), 3) := by decide +kernel
theorem dX5_insert_79 : decode cX5_insert 79 = .ok (.iinc 3 1, 3) := by decide +kernel
theorem dX5_insert_82 : decode cX5_insert 82 = .ok (.goto (-65), 3) := by decide +kernel
theorem dX5_insert_85 : decode cX5_insert 85 = .ok (.aload_n 0, 1) := by decide +kernel
theorem dX5_insert_86 : decode cX5_insert 86 = .ok (.getfield 9, 3) := by decide +kernel
theorem dX5_insert_89 : decode cX5_insert 89 = .ok (.iload_n 2, 1) := by decide +kernel
theorem dX5_insert_90 : decode cX5_insert 90 = .ok (.iload_n 1, 1) := by decide +kernel
theorem dX5_insert_91 : decode cX5_insert 91 = .ok (.iastore, 1) := by decide +kernel
theorem dX5_insert_92 : decode cX5_insert 92 = .ok (.aload_n 0, 1) := by decide +kernel
theorem dX5_insert_93 : decode cX5_insert 93 = .ok (.dup, 1) := by decide +kernel
theorem dX5_insert_94 : decode cX5_insert 94 = .ok (.getfield 38, 3) := by decide +kernel
theorem dX5_insert_97 : decode cX5_insert 97 = .ok (.iconst 1, 1) := by decide +kernel
theorem dX5_insert_98 : decode cX5_insert 98 = .ok (.iadd, 1) := by decide +kernel
theorem dX5_insert_99 : decode cX5_insert 99 = .ok (.putfield 38, 3) := by decide +kernel
theorem dX5_insert_102 : decode cX5_insert 102 = .ok (.return_, 1) := by decide +kernel
theorem dX6_init_0 : decode cX6_init 0 = .ok (.aload_n 0, 1) := by decide +kernel
theorem dX6_init_1 : decode cX6_init 1 = .ok (.invokespecial 3, 3) := by decide +kernel
theorem dX6_init_4 : decode cX6_init 4 = .ok (.aload_n 0, 1) := by decide +kernel
theorem dX6_init_5 : decode cX6_init 5 = .ok (.bipush 8, 2) := by decide +kernel
theorem dX6_init_7 : decode cX6_init 7 = .ok (.newarray .int, 2) := by decide +kernel
theorem dX6_init_9 : decode cX6_init 9 = .ok (.putfield 9, 3) := by decide +kernel
theorem dX6_init_12 : decode cX6_init 12 = .ok (.aload_n 0, 1) := by decide +kernel
theorem dX6_init_13 : decode cX6_init 13 = .ok (.bipush 10, 2) := by decide +kernel
theorem dX6_init_15 : decode cX6_init 15 = .ok (.newarray .int, 2) := by decide +kernel
theorem dX6_init_17 : decode cX6_init 17 = .ok (.putfield 15, 3) := by decide +kernel
theorem dX6_init_20 : decode cX6_init 20 = .ok (.aload_n 0, 1) := by decide +kernel
theorem dX6_init_21 : decode cX6_init 21 = .ok (.sipush 601, 3) := by decide +kernel
theorem dX6_init_24 : decode cX6_init 24 = .ok (.newarray .int, 2) := by decide +kernel
theorem dX6_init_26 : decode cX6_init 26 = .ok (.putfield 18, 3) := by decide +kernel
theorem dX6_init_29 : decode cX6_init 29 = .ok (.aload_n 0, 1) := by decide +kernel
theorem dX6_init_30 : decode cX6_init 30 = .ok (.aload_n 1, 1) := by decide +kernel
theorem dX6_init_31 : decode cX6_init 31 = .ok (.putfield 21, 3) := by decide +kernel
theorem dX6_init_34 : decode cX6_init 34 = .ok (.aload_n 0, 1) := by decide +kernel
theorem dX6_init_35 : decode cX6_init 35 = .ok (.aload_n 2, 1) := by decide +kernel
theorem dX6_init_36 : decode cX6_init 36 = .ok (.putfield 25, 3) := by decide +kernel
theorem dX6_init_39 : decode cX6_init 39 = .ok (.return_, 1) := by decide +kernel
theorem dX6_cheapestSilence_0 : decode cX6_cheapestSilence 0 = .ok (.iconst 0, 1) := by decide +kernel
theorem dX6_cheapestSilence_1 : decode cX6_cheapestSilence 1 = .ok (.istore_n 1, 1) := by decide +kernel
theorem dX6_cheapestSilence_2 : decode cX6_cheapestSilence 2 = .ok (.iload_n 1, 1) := by decide +kernel
theorem dX6_cheapestSilence_3 : decode cX6_cheapestSilence 3 = .ok (.aload_n 0, 1) := by decide +kernel
theorem dX6_cheapestSilence_4 : decode cX6_cheapestSilence 4 = .ok (.getfield 21, 3) := by decide +kernel
theorem dX6_cheapestSilence_7 : decode cX6_cheapestSilence 7 = .ok (.getfield 29, 3) := by decide +kernel
theorem dX6_cheapestSilence_10 : decode cX6_cheapestSilence 10 = .ok (.if_icmp .ge 64, 3) := by decide +kernel
theorem dX6_cheapestSilence_13 : decode cX6_cheapestSilence 13 = .ok (.aload_n 0, 1) := by decide +kernel
theorem dX6_cheapestSilence_14 : decode cX6_cheapestSilence 14 = .ok (.getfield 9, 3) := by decide +kernel
theorem dX6_cheapestSilence_17 : decode cX6_cheapestSilence 17 = .ok (.iload_n 1, 1) := by decide +kernel
theorem dX6_cheapestSilence_18 : decode cX6_cheapestSilence 18 = .ok (.iconst 0, 1) := by decide +kernel
theorem dX6_cheapestSilence_19 : decode cX6_cheapestSilence 19 = .ok (.iastore, 1) := by decide +kernel
theorem dX6_cheapestSilence_20 : decode cX6_cheapestSilence 20 = .ok (.iconst 0, 1) := by decide +kernel
theorem dX6_cheapestSilence_21 : decode cX6_cheapestSilence 21 = .ok (.istore_n 2, 1) := by decide +kernel
theorem dX6_cheapestSilence_22 : decode cX6_cheapestSilence 22 = .ok (.iload_n 2, 1) := by decide +kernel
theorem dX6_cheapestSilence_23 : decode cX6_cheapestSilence 23 = .ok (.aload_n 0, 1) := by decide +kernel
theorem dX6_cheapestSilence_24 : decode cX6_cheapestSilence 24 = .ok (.getfield 21, 3) := by decide +kernel
theorem dX6_cheapestSilence_27 : decode cX6_cheapestSilence 27 = .ok (.getfield 29, 3) := by decide +kernel
theorem dX6_cheapestSilence_30 : decode cX6_cheapestSilence 30 = .ok (.if_icmp .ge 38, 3) := by decide +kernel
theorem dX6_cheapestSilence_33 : decode cX6_cheapestSilence 33 = .ok (.iload_n 2, 1) := by decide +kernel
theorem dX6_cheapestSilence_34 : decode cX6_cheapestSilence 34 = .ok (.iload_n 1, 1) := by decide +kernel
theorem dX6_cheapestSilence_35 : decode cX6_cheapestSilence 35 = .ok (.if_icmp .eq 27, 3) := by decide +kernel
theorem dX6_cheapestSilence_38 : decode cX6_cheapestSilence 38 = .ok (.aload_n 0, 1) := by decide +kernel
theorem dX6_cheapestSilence_39 : decode cX6_cheapestSilence 39 = .ok (.getfield 25, 3) := by decide +kernel
theorem dX6_cheapestSilence_42 : decode cX6_cheapestSilence 42 = .ok (.iload_n 1, 1) := by decide +kernel
theorem dX6_cheapestSilence_43 : decode cX6_cheapestSilence 43 = .ok (.iload_n 2, 1) := by decide +kernel
theorem dX6_cheapestSilence_44 : decode cX6_cheapestSilence 44 = .ok (.invokevirtual 35, 3) := by decide +kernel
theorem dX6_cheapestSilence_47 : decode cX6_cheapestSilence 47 = .ok (.ifCond .eq 15, 3) := by decide +kernel
theorem dX6_cheapestSilence_50 : decode cX6_cheapestSilence 50 = .ok (.aload_n 0, 1) := by decide +kernel
theorem dX6_cheapestSilence_51 : decode cX6_cheapestSilence 51 = .ok (.getfield 9, 3) := by decide +kernel
theorem dX6_cheapestSilence_54 : decode cX6_cheapestSilence 54 = .ok (.iload_n 1, 1) := by decide +kernel
theorem dX6_cheapestSilence_55 : decode cX6_cheapestSilence 55 = .ok (.dup2, 1) := by decide +kernel
theorem dX6_cheapestSilence_56 : decode cX6_cheapestSilence 56 = .ok (.iaload, 1) := by decide +kernel
theorem dX6_cheapestSilence_57 : decode cX6_cheapestSilence 57 = .ok (.iconst 1, 1) := by decide +kernel
theorem dX6_cheapestSilence_58 : decode cX6_cheapestSilence 58 = .ok (.iload_n 2, 1) := by decide +kernel
theorem dX6_cheapestSilence_59 : decode cX6_cheapestSilence 59 = .ok (.ishl, 1) := by decide +kernel
theorem dX6_cheapestSilence_60 : decode cX6_cheapestSilence 60 = .ok (.ior, 1) := by decide +kernel
theorem dX6_cheapestSilence_61 : decode cX6_cheapestSilence 61 = .ok (.iastore, 1) := by decide +kernel
theorem dX6_cheapestSilence_62 : decode cX6_cheapestSilence 62 = .ok (.iinc 2 1, 3) := by decide +kernel
theorem dX6_cheapestSilence_65 : decode cX6_cheapestSilence 65 = .ok (.goto (-43), 3) := by decide +kernel
theorem dX6_cheapestSilence_68 : decode cX6_cheapestSilence 68 = .ok (.iinc 1 1, 3) := by decide +kernel
theorem dX6_cheapestSilence_71 : decode cX6_cheapestSilence 71 = .ok (.goto (-69), 3) := by decide +kernel
theorem dX6_cheapestSilence_74 : decode cX6_cheapestSilence 74 = .ok (.iconst 1, 1) := by decide +kernel
theorem dX6_cheapestSilence_75 : decode cX6_cheapestSilence 75 = .ok (.aload_n 0, 1) := by decide +kernel
theorem dX6_cheapestSilence_76 : decode cX6_cheapestSilence 76 = .ok (.getfield 21, 3) := by decide +kernel
theorem dX6_cheapestSilence_79 : decode cX6_cheapestSilence 79 = .ok (.getfield 29, 3) := by decide +kernel
theorem dX6_cheapestSilence_82 : decode cX6_cheapestSilence 82 = .ok (.ishl, 1) := by decide +kernel
theorem dX6_cheapestSilence_83 : decode cX6_cheapestSilence 83 = .ok (.iconst 1, 1) := by decide +kernel
theorem dX6_cheapestSilence_84 : decode cX6_cheapestSilence 84 = .ok (.isub, 1) := by decide +kernel
theorem dX6_cheapestSilence_85 : decode cX6_cheapestSilence 85 = .ok (.istore_n 1, 1) := by decide +kernel
theorem dX6_cheapestSilence_86 : decode cX6_cheapestSilence 86 = .ok (.aload_n 0, 1) := by decide +kernel
theorem dX6_cheapestSilence_87 : decode cX6_cheapestSilence 87 = .ok (.getfield 21, 3) := by decide +kernel
theorem dX6_cheapestSilence_90 : decode cX6_cheapestSilence 90 = .ok (.iload_n 1, 1) := by decide +kernel
theorem dX6_cheapestSilence_91 : decode cX6_cheapestSilence 91 = .ok (.invokevirtual 41, 3) := by decide +kernel
theorem dX6_cheapestSilence_94 : decode cX6_cheapestSilence 94 = .ok (.istore_n 2, 1) := by decide +kernel
theorem dX6_cheapestSilence_95 : decode cX6_cheapestSilence 95 = .ok (.iload_n 1, 1) := by decide +kernel
theorem dX6_cheapestSilence_96 : decode cX6_cheapestSilence 96 = .ok (.istore_n 3, 1) := by decide +kernel
theorem dX6_cheapestSilence_97 : decode cX6_cheapestSilence 97 = .ok (.iload_n 3, 1) := by decide +kernel
theorem dX6_cheapestSilence_98 : decode cX6_cheapestSilence 98 = .ok (.ifCond .lt 38, 3) := by decide +kernel
theorem dX6_cheapestSilence_101 : decode cX6_cheapestSilence 101 = .ok (.aload_n 0, 1) := by decide +kernel
theorem dX6_cheapestSilence_102 : decode cX6_cheapestSilence 102 = .ok (.getfield 21, 3) := by decide +kernel
theorem dX6_cheapestSilence_105 : decode cX6_cheapestSilence 105 = .ok (.iload_n 3, 1) := by decide +kernel
theorem dX6_cheapestSilence_106 : decode cX6_cheapestSilence 106 = .ok (.invokevirtual 41, 3) := by decide +kernel
theorem dX6_cheapestSilence_109 : decode cX6_cheapestSilence 109 = .ok (.istore 4, 2) := by decide +kernel
theorem dX6_cheapestSilence_111 : decode cX6_cheapestSilence 111 = .ok (.iload 4, 2) := by decide +kernel
theorem dX6_cheapestSilence_113 : decode cX6_cheapestSilence 113 = .ok (.iload_n 2, 1) := by decide +kernel
theorem dX6_cheapestSilence_114 : decode cX6_cheapestSilence 114 = .ok (.if_icmp .gt 16, 3) := by decide +kernel
theorem dX6_cheapestSilence_117 : decode cX6_cheapestSilence 117 = .ok (.aload_n 0, 1) := by decide +kernel
theorem dX6_cheapestSilence_118 : decode cX6_cheapestSilence 118 = .ok (.iload_n 3, 1) := by decide +kernel
theorem dX6_cheapestSilence_119 : decode cX6_cheapestSilence 119 = .ok (.invokevirtual 45, 3) := by decide +kernel
theorem dX6_cheapestSilence_122 : decode cX6_cheapestSilence 122 = .ok (.ifCond .eq 8, 3) := by decide +kernel
theorem dX6_cheapestSilence_125 : decode cX6_cheapestSilence 125 = .ok (.iload_n 3, 1) := by decide +kernel
theorem dX6_cheapestSilence_126 : decode cX6_cheapestSilence 126 = .ok (.istore_n 1, 1) := by decide +kernel
theorem dX6_cheapestSilence_127 : decode cX6_cheapestSilence 127 = .ok (.iload 4, 2) := by decide +kernel
theorem dX6_cheapestSilence_129 : decode cX6_cheapestSilence 129 = .ok (.istore_n 2, 1) := by decide +kernel
theorem dX6_cheapestSilence_130 : decode cX6_cheapestSilence 130 = .ok (.iinc 3 (-1), 3) := by decide +kernel
theorem dX6_cheapestSilence_133 : decode cX6_cheapestSilence 133 = .ok (.goto (-36), 3) := by decide +kernel
theorem dX6_cheapestSilence_136 : decode cX6_cheapestSilence 136 = .ok (.iload_n 1, 1) := by decide +kernel
theorem dX6_cheapestSilence_137 : decode cX6_cheapestSilence 137 = .ok (.ireturn, 1) := by decide +kernel
theorem dX6_tryShifts_0 : decode cX6_tryShifts 0 = .ok (.iconst 0, 1) := by decide +kernel
theorem dX6_tryShifts_1 : decode cX6_tryShifts 1 = .ok (.istore_n 3, 1) := by decide +kernel
theorem dX6_tryShifts_2 : decode cX6_tryShifts 2 = .ok (.iload_n 3, 1) := by decide +kernel
theorem dX6_tryShifts_3 : decode cX6_tryShifts 3 = .ok (.aload_n 0, 1) := by decide +kernel
theorem dX6_tryShifts_4 : decode cX6_tryShifts 4 = .ok (.getfield 18, 3) := by decide +kernel
theorem dX6_tryShifts_7 : decode cX6_tryShifts 7 = .ok (.arraylength, 1) := by decide +kernel
theorem dX6_tryShifts_8 : decode cX6_tryShifts 8 = .ok (.if_icmp .ge 16, 3) := by decide +kernel
theorem dX6_tryShifts_11 : decode cX6_tryShifts 11 = .ok (.aload_n 0, 1) := by decide +kernel
theorem dX6_tryShifts_12 : decode cX6_tryShifts 12 = .ok (.getfield 18, 3) := by decide +kernel
theorem dX6_tryShifts_15 : decode cX6_tryShifts 15 = .ok (.iload_n 3, 1) := by decide +kernel
theorem dX6_tryShifts_16 : decode cX6_tryShifts 16 = .ok (.iconst 0, 1) := by decide +kernel
theorem dX6_tryShifts_17 : decode cX6_tryShifts 17 = .ok (.iastore, 1) := by decide +kernel
theorem dX6_tryShifts_18 : decode cX6_tryShifts 18 = .ok (.iinc 3 1, 3) := by decide +kernel
theorem dX6_tryShifts_21 : decode cX6_tryShifts 21 = .ok (.goto (-19), 3) := by decide +kernel
theorem dX6_tryShifts_24 : decode cX6_tryShifts 24 = .ok (.bipush (-5), 2) := by decide +kernel
theorem dX6_tryShifts_26 : decode cX6_tryShifts 26 = .ok (.istore_n 3, 1) := by decide +kernel
theorem dX6_tryShifts_27 : decode cX6_tryShifts 27 = .ok (.iload_n 3, 1) := by decide +kernel
theorem dX6_tryShifts_28 : decode cX6_tryShifts 28 = .ok (.iconst 5, 1) := by decide +kernel
theorem dX6_tryShifts_29 : decode cX6_tryShifts 29 = .ok (.if_icmp .gt 51, 3) := by decide +kernel
theorem dX6_tryShifts_32 : decode cX6_tryShifts 32 = .ok (.aload_n 0, 1) := by decide +kernel
theorem dX6_tryShifts_33 : decode cX6_tryShifts 33 = .ok (.getfield 25, 3) := by decide +kernel
theorem dX6_tryShifts_36 : decode cX6_tryShifts 36 = .ok (.iload_n 2, 1) := by decide +kernel
theorem dX6_tryShifts_37 : decode cX6_tryShifts 37 = .ok (.iload_n 3, 1) := by decide +kernel
theorem dX6_tryShifts_38 : decode cX6_tryShifts 38 = .ok (.invokevirtual 49, 3) := by decide +kernel
theorem dX6_tryShifts_41 : decode cX6_tryShifts 41 = .ok (.iconst 0, 1) := by decide +kernel
theorem dX6_tryShifts_42 : decode cX6_tryShifts 42 = .ok (.istore 4, 2) := by decide +kernel
theorem dX6_tryShifts_44 : decode cX6_tryShifts 44 = .ok (.iload 4, 2) := by decide +kernel
theorem dX6_tryShifts_46 : decode cX6_tryShifts 46 = .ok (.aload_n 0, 1) := by decide +kernel
theorem dX6_tryShifts_47 : decode cX6_tryShifts 47 = .ok (.getfield 21, 3) := by decide +kernel
theorem dX6_tryShifts_50 : decode cX6_tryShifts 50 = .ok (.getfield 53, 3) := by decide +kernel
theorem dX6_tryShifts_53 : decode cX6_tryShifts 53 = .ok (.if_icmp .ge 21, 3) := by decide +kernel
theorem dX6_tryShifts_56 : decode cX6_tryShifts 56 = .ok (.aload_n 0, 1) := by decide +kernel
theorem dX6_tryShifts_57 : decode cX6_tryShifts 57 = .ok (.iload_n 1, 1) := by decide +kernel
theorem dX6_tryShifts_58 : decode cX6_tryShifts 58 = .ok (.iload 4, 2) := by decide +kernel
theorem dX6_tryShifts_60 : decode cX6_tryShifts 60 = .ok (.iconst 1, 1) := by decide +kernel
theorem dX6_tryShifts_61 : decode cX6_tryShifts 61 = .ok (.iload_n 3, 1) := by decide +kernel
theorem dX6_tryShifts_62 : decode cX6_tryShifts 62 = .ok (.iconst 5, 1) := by decide +kernel
theorem dX6_tryShifts_63 : decode cX6_tryShifts 63 = .ok (.iadd, 1) := by decide +kernel
theorem dX6_tryShifts_64 : decode cX6_tryShifts 64 = .ok (.ishl, 1) := by decide +kernel
theorem dX6_tryShifts_65 : decode cX6_tryShifts 65 = .ok (.invokevirtual 56, 3) := by decide +kernel
theorem dX6_tryShifts_68 : decode cX6_tryShifts 68 = .ok (.iinc 4 1, 3) := by decide +kernel
theorem dX6_tryShifts_71 : decode cX6_tryShifts 71 = .ok (.goto (-27), 3) := by decide +kernel
theorem dX6_tryShifts_74 : decode cX6_tryShifts 74 = .ok (.iinc 3 1, 3) := by decide +kernel
theorem dX6_tryShifts_77 : decode cX6_tryShifts 77 = .ok (.goto (-50), 3) := by decide +kernel
theorem dX6_tryShifts_80 : decode cX6_tryShifts 80 = .ok (.return_, 1) := by decide +kernel
theorem dX6_windsAgainst_0 : decode cX6_windsAgainst 0 = .ok (.iload_n 1, 1) := by decide +kernel
theorem dX6_windsAgainst_1 : decode cX6_windsAgainst 1 = .ok (.sipush 300, 3) := by decide +kernel
theorem dX6_windsAgainst_4 : decode cX6_windsAgainst 4 = .ok (.iadd, 1) := by decide +kernel
theorem dX6_windsAgainst_5 : decode cX6_windsAgainst 5 = .ok (.istore_n 2, 1) := by decide +kernel
theorem dX6_windsAgainst_6 : decode cX6_windsAgainst 6 = .ok (.iload_n 2, 1) := by decide +kernel
theorem dX6_windsAgainst_7 : decode cX6_windsAgainst 7 = .ok (.ifCond .lt 24, 3) := by decide +kernel
theorem dX6_windsAgainst_10 : decode cX6_windsAgainst 10 = .ok (.iload_n 2, 1) := by decide +kernel
theorem dX6_windsAgainst_11 : decode cX6_windsAgainst 11 = .ok (.aload_n 0, 1) := by decide +kernel
theorem dX6_windsAgainst_12 : decode cX6_windsAgainst 12 = .ok (.getfield 18, 3) := by decide +kernel
theorem dX6_windsAgainst_15 : decode cX6_windsAgainst 15 = .ok (.arraylength, 1) := by decide +kernel
theorem dX6_windsAgainst_16 : decode cX6_windsAgainst 16 = .ok (.if_icmp .ge 15, 3) := by decide +kernel
theorem dX6_windsAgainst_19 : decode cX6_windsAgainst 19 = .ok (.aload_n 0, 1) := by decide +kernel
theorem dX6_windsAgainst_20 : decode cX6_windsAgainst 20 = .ok (.getfield 18, 3) := by decide +kernel
theorem dX6_windsAgainst_23 : decode cX6_windsAgainst 23 = .ok (.iload_n 2, 1) := by decide +kernel
theorem dX6_windsAgainst_24 : decode cX6_windsAgainst 24 = .ok (.iaload, 1) := by decide +kernel
theorem dX6_windsAgainst_25 : decode cX6_windsAgainst 25 = .ok (.invokestatic 60, 3) := by decide +kernel
theorem dX6_windsAgainst_28 : decode cX6_windsAgainst 28 = .ok (.goto 4, 3) := by decide +kernel
theorem dX6_windsAgainst_31 : decode cX6_windsAgainst 31 = .ok (.iconst 0, 1) := by decide +kernel
theorem dX6_windsAgainst_32 : decode cX6_windsAgainst 32 = .ok (.ireturn, 1) := by decide +kernel
theorem dX6_bestShift_0 : decode cX6_bestShift 0 = .ok (.iconst 0, 1) := by decide +kernel
theorem dX6_bestShift_1 : decode cX6_bestShift 1 = .ok (.istore_n 1, 1) := by decide +kernel
theorem dX6_bestShift_2 : decode cX6_bestShift 2 = .ok (.iconst 1, 1) := by decide +kernel
theorem dX6_bestShift_3 : decode cX6_bestShift 3 = .ok (.istore_n 2, 1) := by decide +kernel
theorem dX6_bestShift_4 : decode cX6_bestShift 4 = .ok (.iload_n 2, 1) := by decide +kernel
theorem dX6_bestShift_5 : decode cX6_bestShift 5 = .ok (.aload_n 0, 1) := by decide +kernel
theorem dX6_bestShift_6 : decode cX6_bestShift 6 = .ok (.getfield 21, 3) := by decide +kernel
theorem dX6_bestShift_9 : decode cX6_bestShift 9 = .ok (.getfield 65, 3) := by decide +kernel
theorem dX6_bestShift_12 : decode cX6_bestShift 12 = .ok (.if_icmp .gt 41, 3) := by decide +kernel
theorem dX6_bestShift_15 : decode cX6_bestShift 15 = .ok (.aload_n 0, 1) := by decide +kernel
theorem dX6_bestShift_16 : decode cX6_bestShift 16 = .ok (.iload_n 2, 1) := by decide +kernel
theorem dX6_bestShift_17 : decode cX6_bestShift 17 = .ok (.ineg, 1) := by decide +kernel
theorem dX6_bestShift_18 : decode cX6_bestShift 18 = .ok (.invokevirtual 68, 3) := by decide +kernel
theorem dX6_bestShift_21 : decode cX6_bestShift 21 = .ok (.aload_n 0, 1) := by decide +kernel
theorem dX6_bestShift_22 : decode cX6_bestShift 22 = .ok (.iload_n 1, 1) := by decide +kernel
theorem dX6_bestShift_23 : decode cX6_bestShift 23 = .ok (.invokevirtual 68, 3) := by decide +kernel
theorem dX6_bestShift_26 : decode cX6_bestShift 26 = .ok (.if_icmp .ge 6, 3) := by decide +kernel
theorem dX6_bestShift_29 : decode cX6_bestShift 29 = .ok (.iload_n 2, 1) := by decide +kernel
theorem dX6_bestShift_30 : decode cX6_bestShift 30 = .ok (.ineg, 1) := by decide +kernel
theorem dX6_bestShift_31 : decode cX6_bestShift 31 = .ok (.istore_n 1, 1) := by decide +kernel
theorem dX6_bestShift_32 : decode cX6_bestShift 32 = .ok (.aload_n 0, 1) := by decide +kernel
theorem dX6_bestShift_33 : decode cX6_bestShift 33 = .ok (.iload_n 2, 1) := by decide +kernel
theorem dX6_bestShift_34 : decode cX6_bestShift 34 = .ok (.invokevirtual 68, 3) := by decide +kernel
theorem dX6_bestShift_37 : decode cX6_bestShift 37 = .ok (.aload_n 0, 1) := by decide +kernel
theorem dX6_bestShift_38 : decode cX6_bestShift 38 = .ok (.iload_n 1, 1) := by decide +kernel
theorem dX6_bestShift_39 : decode cX6_bestShift 39 = .ok (.invokevirtual 68, 3) := by decide +kernel
theorem dX6_bestShift_42 : decode cX6_bestShift 42 = .ok (.if_icmp .ge 5, 3) := by decide +kernel
theorem dX6_bestShift_45 : decode cX6_bestShift 45 = .ok (.iload_n 2, 1) := by decide +kernel
theorem dX6_bestShift_46 : decode cX6_bestShift 46 = .ok (.istore_n 1, 1) := by decide +kernel
theorem dX6_bestShift_47 : decode cX6_bestShift 47 = .ok (.iinc 2 1, 3) := by decide +kernel
theorem dX6_bestShift_50 : decode cX6_bestShift 50 = .ok (.goto (-46), 3) := by decide +kernel
theorem dX6_bestShift_53 : decode cX6_bestShift 53 = .ok (.iload_n 1, 1) := by decide +kernel
theorem dX6_bestShift_54 : decode cX6_bestShift 54 = .ok (.ireturn, 1) := by decide +kernel
theorem dX6_clashingSpots_0 : decode cX6_clashingSpots 0 = .ok (.iconst 0, 1) := by decide +kernel
theorem dX6_clashingSpots_1 : decode cX6_clashingSpots 1 = .ok (.istore 4, 2) := by decide +kernel
theorem dX6_clashingSpots_3 : decode cX6_clashingSpots 3 = .ok (.iload_n 2, 1) := by decide +kernel
theorem dX6_clashingSpots_4 : decode cX6_clashingSpots 4 = .ok (.istore 5, 2) := by decide +kernel
theorem dX6_clashingSpots_6 : decode cX6_clashingSpots 6 = .ok (.iload 5, 2) := by decide +kernel
theorem dX6_clashingSpots_8 : decode cX6_clashingSpots 8 = .ok (.iload_n 3, 1) := by decide +kernel
theorem dX6_clashingSpots_9 : decode cX6_clashingSpots 9 = .ok (.if_icmp .gt 22, 3) := by decide +kernel
theorem dX6_clashingSpots_12 : decode cX6_clashingSpots 12 = .ok (.aload_n 0, 1) := by decide +kernel
theorem dX6_clashingSpots_13 : decode cX6_clashingSpots 13 = .ok (.iload_n 1, 1) := by decide +kernel
theorem dX6_clashingSpots_14 : decode cX6_clashingSpots 14 = .ok (.iload 5, 2) := by decide +kernel
theorem dX6_clashingSpots_16 : decode cX6_clashingSpots 16 = .ok (.invokevirtual 71, 3) := by decide +kernel
theorem dX6_clashingSpots_19 : decode cX6_clashingSpots 19 = .ok (.ifCond .eq 6, 3) := by decide +kernel
theorem dX6_clashingSpots_22 : decode cX6_clashingSpots 22 = .ok (.iinc 4 1, 3) := by decide +kernel
theorem dX6_clashingSpots_25 : decode cX6_clashingSpots 25 = .ok (.iinc 5 1, 3) := by decide +kernel
theorem dX6_clashingSpots_28 : decode cX6_clashingSpots 28 = .ok (.goto (-22), 3) := by decide +kernel
theorem dX6_clashingSpots_31 : decode cX6_clashingSpots 31 = .ok (.iload 4, 2) := by decide +kernel
theorem dX6_clashingSpots_33 : decode cX6_clashingSpots 33 = .ok (.ireturn, 1) := by decide +kernel
theorem dX6_loudestAt_0 : decode cX6_loudestAt 0 = .ok (.iconst 0, 1) := by decide +kernel
theorem dX6_loudestAt_1 : decode cX6_loudestAt 1 = .ok (.istore_n 2, 1) := by decide +kernel
theorem dX6_loudestAt_2 : decode cX6_loudestAt 2 = .ok (.iconst 0, 1) := by decide +kernel
theorem dX6_loudestAt_3 : decode cX6_loudestAt 3 = .ok (.istore_n 3, 1) := by decide +kernel
theorem dX6_loudestAt_4 : decode cX6_loudestAt 4 = .ok (.iload_n 3, 1) := by decide +kernel
theorem dX6_loudestAt_5 : decode cX6_loudestAt 5 = .ok (.aload_n 0, 1) := by decide +kernel
theorem dX6_loudestAt_6 : decode cX6_loudestAt 6 = .ok (.getfield 21, 3) := by decide +kernel
theorem dX6_loudestAt_9 : decode cX6_loudestAt 9 = .ok (.getfield 53, 3) := by decide +kernel
theorem dX6_loudestAt_12 : decode cX6_loudestAt 12 = .ok (.if_icmp .ge 55, 3) := by decide +kernel
theorem dX6_loudestAt_15 : decode cX6_loudestAt 15 = .ok (.iload_n 1, 1) := by decide +kernel
theorem dX6_loudestAt_16 : decode cX6_loudestAt 16 = .ok (.aload_n 0, 1) := by decide +kernel
theorem dX6_loudestAt_17 : decode cX6_loudestAt 17 = .ok (.getfield 21, 3) := by decide +kernel
theorem dX6_loudestAt_20 : decode cX6_loudestAt 20 = .ok (.getfield 75, 3) := by decide +kernel
theorem dX6_loudestAt_23 : decode cX6_loudestAt 23 = .ok (.iload_n 3, 1) := by decide +kernel
theorem dX6_loudestAt_24 : decode cX6_loudestAt 24 = .ok (.iaload, 1) := by decide +kernel
theorem dX6_loudestAt_25 : decode cX6_loudestAt 25 = .ok (.aload_n 0, 1) := by decide +kernel
theorem dX6_loudestAt_26 : decode cX6_loudestAt 26 = .ok (.getfield 21, 3) := by decide +kernel
theorem dX6_loudestAt_29 : decode cX6_loudestAt 29 = .ok (.getfield 78, 3) := by decide +kernel
theorem dX6_loudestAt_32 : decode cX6_loudestAt 32 = .ok (.invokestatic 81, 3) := by decide +kernel
theorem dX6_loudestAt_35 : decode cX6_loudestAt 35 = .ok (.istore 4, 2) := by decide +kernel
theorem dX6_loudestAt_37 : decode cX6_loudestAt 37 = .ok (.aload_n 0, 1) := by decide +kernel
theorem dX6_loudestAt_38 : decode cX6_loudestAt 38 = .ok (.getfield 25, 3) := by decide +kernel
theorem dX6_loudestAt_41 : decode cX6_loudestAt 41 = .ok (.iload_n 3, 1) := by decide +kernel
theorem dX6_loudestAt_42 : decode cX6_loudestAt 42 = .ok (.iload 4, 2) := by decide +kernel
theorem dX6_loudestAt_44 : decode cX6_loudestAt 44 = .ok (.iconst (-1), 1) := by decide +kernel
theorem dX6_loudestAt_45 : decode cX6_loudestAt 45 = .ok (.invokevirtual 85, 3) := by decide +kernel
theorem dX6_loudestAt_48 : decode cX6_loudestAt 48 = .ok (.ifCond .eq 13, 3) := by decide +kernel
theorem dX6_loudestAt_51 : decode cX6_loudestAt 51 = .ok (.aload_n 0, 1) := by decide +kernel
theorem dX6_loudestAt_52 : decode cX6_loudestAt 52 = .ok (.getfield 15, 3) := by decide +kernel
theorem dX6_loudestAt_55 : decode cX6_loudestAt 55 = .ok (.iload_n 2, 1) := by decide +kernel
theorem dX6_loudestAt_56 : decode cX6_loudestAt 56 = .ok (.iload_n 3, 1) := by decide +kernel
theorem dX6_loudestAt_57 : decode cX6_loudestAt 57 = .ok (.iastore, 1) := by decide +kernel
theorem dX6_loudestAt_58 : decode cX6_loudestAt 58 = .ok (.iinc 2 1, 3) := by decide +kernel
theorem dX6_loudestAt_61 : decode cX6_loudestAt 61 = .ok (.iinc 3 1, 3) := by decide +kernel
theorem dX6_loudestAt_64 : decode cX6_loudestAt 64 = .ok (.goto (-60), 3) := by decide +kernel
theorem dX6_loudestAt_67 : decode cX6_loudestAt 67 = .ok (.bipush 99, 2) := by decide +kernel
theorem dX6_loudestAt_69 : decode cX6_loudestAt 69 = .ok (.istore_n 3, 1) := by decide +kernel
theorem dX6_loudestAt_70 : decode cX6_loudestAt 70 = .ok (.iload_n 3, 1) := by decide +kernel
theorem dX6_loudestAt_71 : decode cX6_loudestAt 71 = .ok (.ifCond .lt 21, 3) := by decide +kernel
theorem dX6_loudestAt_74 : decode cX6_loudestAt 74 = .ok (.aload_n 0, 1) := by decide +kernel
theorem dX6_loudestAt_75 : decode cX6_loudestAt 75 = .ok (.iload_n 2, 1) := by decide +kernel
theorem dX6_loudestAt_76 : decode cX6_loudestAt 76 = .ok (.iload_n 3, 1) := by decide +kernel
theorem dX6_loudestAt_77 : decode cX6_loudestAt 77 = .ok (.iload_n 1, 1) := by decide +kernel
theorem dX6_loudestAt_78 : decode cX6_loudestAt 78 = .ok (.invokevirtual 89, 3) := by decide +kernel
theorem dX6_loudestAt_81 : decode cX6_loudestAt 81 = .ok (.ifCond .ne 5, 3) := by decide +kernel
theorem dX6_loudestAt_84 : decode cX6_loudestAt 84 = .ok (.iload_n 3, 1) := by decide +kernel
theorem dX6_loudestAt_85 : decode cX6_loudestAt 85 = .ok (.ireturn, 1) := by decide +kernel
theorem dX6_loudestAt_86 : decode cX6_loudestAt 86 = .ok (.iinc 3 (-1), 3) := by decide +kernel
theorem dX6_loudestAt_89 : decode cX6_loudestAt 89 = .ok (.goto (-19), 3) := by decide +kernel
theorem dX6_loudestAt_92 : decode cX6_loudestAt 92 = .ok (.iconst (-1), 1) := by decide +kernel
theorem dX6_loudestAt_93 : decode cX6_loudestAt 93 = .ok (.ireturn, 1) := by decide +kernel
theorem dX6_isSilenced_0 : decode cX6_isSilenced 0 = .ok (.iconst 0, 1) := by decide +kernel
theorem dX6_isSilenced_1 : decode cX6_isSilenced 1 = .ok (.istore_n 2, 1) := by decide +kernel
theorem dX6_isSilenced_2 : decode cX6_isSilenced 2 = .ok (.iload_n 2, 1) := by decide +kernel
theorem dX6_isSilenced_3 : decode cX6_isSilenced 3 = .ok (.aload_n 0, 1) := by decide +kernel
theorem dX6_isSilenced_4 : decode cX6_isSilenced 4 = .ok (.getfield 21, 3) := by decide +kernel
theorem dX6_isSilenced_7 : decode cX6_isSilenced 7 = .ok (.getfield 29, 3) := by decide +kernel
theorem dX6_isSilenced_10 : decode cX6_isSilenced 10 = .ok (.if_icmp .ge 32, 3) := by decide +kernel
theorem dX6_isSilenced_13 : decode cX6_isSilenced 13 = .ok (.iload_n 1, 1) := by decide +kernel
theorem dX6_isSilenced_14 : decode cX6_isSilenced 14 = .ok (.iload_n 2, 1) := by decide +kernel
theorem dX6_isSilenced_15 : decode cX6_isSilenced 15 = .ok (.ishr, 1) := by decide +kernel
theorem dX6_isSilenced_16 : decode cX6_isSilenced 16 = .ok (.iconst 1, 1) := by decide +kernel
theorem dX6_isSilenced_17 : decode cX6_isSilenced 17 = .ok (.iand, 1) := by decide +kernel
theorem dX6_isSilenced_18 : decode cX6_isSilenced 18 = .ok (.ifCond .ne 18, 3) := by decide +kernel
theorem dX6_isSilenced_21 : decode cX6_isSilenced 21 = .ok (.aload_n 0, 1) := by decide +kernel
theorem dX6_isSilenced_22 : decode cX6_isSilenced 22 = .ok (.getfield 9, 3) := by decide +kernel
theorem dX6_isSilenced_25 : decode cX6_isSilenced 25 = .ok (.iload_n 2, 1) := by decide +kernel
theorem dX6_isSilenced_26 : decode cX6_isSilenced 26 = .ok (.iaload, 1) := by decide +kernel
theorem dX6_isSilenced_27 : decode cX6_isSilenced 27 = .ok (.iload_n 1, 1) := by decide +kernel
theorem dX6_isSilenced_28 : decode cX6_isSilenced 28 = .ok (.iconst (-1), 1) := by decide +kernel
theorem dX6_isSilenced_29 : decode cX6_isSilenced 29 = .ok (.ixor, 1) := by decide +kernel
theorem dX6_isSilenced_30 : decode cX6_isSilenced 30 = .ok (.iand, 1) := by decide +kernel
theorem dX6_isSilenced_31 : decode cX6_isSilenced 31 = .ok (.ifCond .eq 5, 3) := by decide +kernel
theorem dX6_isSilenced_34 : decode cX6_isSilenced 34 = .ok (.iconst 0, 1) := by decide +kernel
theorem dX6_isSilenced_35 : decode cX6_isSilenced 35 = .ok (.ireturn, 1) := by decide +kernel
theorem dX6_isSilenced_36 : decode cX6_isSilenced 36 = .ok (.iinc 2 1, 3) := by decide +kernel
theorem dX6_isSilenced_39 : decode cX6_isSilenced 39 = .ok (.goto (-37), 3) := by decide +kernel
theorem dX6_isSilenced_42 : decode cX6_isSilenced 42 = .ok (.iconst 1, 1) := by decide +kernel
theorem dX6_isSilenced_43 : decode cX6_isSilenced 43 = .ok (.ireturn, 1) := by decide +kernel
theorem dX6_markShifts_0 : decode cX6_markShifts 0 = .ok (.aload_n 0, 1) := by decide +kernel
theorem dX6_markShifts_1 : decode cX6_markShifts 1 = .ok (.getfield 25, 3) := by decide +kernel
theorem dX6_markShifts_4 : decode cX6_markShifts 4 = .ok (.iload_n 2, 1) := by decide +kernel
theorem dX6_markShifts_5 : decode cX6_markShifts 5 = .ok (.invokevirtual 92, 3) := by decide +kernel
theorem dX6_markShifts_8 : decode cX6_markShifts 8 = .ok (.istore 4, 2) := by decide +kernel
theorem dX6_markShifts_10 : decode cX6_markShifts 10 = .ok (.iload 4, 2) := by decide +kernel
theorem dX6_markShifts_12 : decode cX6_markShifts 12 = .ok (.iload_n 1, 1) := by decide +kernel
theorem dX6_markShifts_13 : decode cX6_markShifts 13 = .ok (.ishr, 1) := by decide +kernel
theorem dX6_markShifts_14 : decode cX6_markShifts 14 = .ok (.iconst 1, 1) := by decide +kernel
theorem dX6_markShifts_15 : decode cX6_markShifts 15 = .ok (.iand, 1) := by decide +kernel
theorem dX6_markShifts_16 : decode cX6_markShifts 16 = .ok (.ifCond .ne 4, 3) := by decide +kernel
theorem dX6_markShifts_19 : decode cX6_markShifts 19 = .ok (.return_, 1) := by decide +kernel
theorem dX6_markShifts_20 : decode cX6_markShifts 20 = .ok (.iconst 0, 1) := by decide +kernel
theorem dX6_markShifts_21 : decode cX6_markShifts 21 = .ok (.istore 5, 2) := by decide +kernel
theorem dX6_markShifts_23 : decode cX6_markShifts 23 = .ok (.iload 5, 2) := by decide +kernel
theorem dX6_markShifts_25 : decode cX6_markShifts 25 = .ok (.aload_n 0, 1) := by decide +kernel
theorem dX6_markShifts_26 : decode cX6_markShifts 26 = .ok (.getfield 21, 3) := by decide +kernel
theorem dX6_markShifts_29 : decode cX6_markShifts 29 = .ok (.getfield 29, 3) := by decide +kernel
theorem dX6_markShifts_32 : decode cX6_markShifts 32 = .ok (.if_icmp .ge 115, 3) := by decide +kernel
theorem dX6_markShifts_35 : decode cX6_markShifts 35 = .ok (.iload 5, 2) := by decide +kernel
theorem dX6_markShifts_37 : decode cX6_markShifts 37 = .ok (.iload_n 1, 1) := by decide +kernel
theorem dX6_markShifts_38 : decode cX6_markShifts 38 = .ok (.if_icmp .eq 103, 3) := by decide +kernel
theorem dX6_markShifts_41 : decode cX6_markShifts 41 = .ok (.iload 4, 2) := by decide +kernel
theorem dX6_markShifts_43 : decode cX6_markShifts 43 = .ok (.iload 5, 2) := by decide +kernel
theorem dX6_markShifts_45 : decode cX6_markShifts 45 = .ok (.ishr, 1) := by decide +kernel
theorem dX6_markShifts_46 : decode cX6_markShifts 46 = .ok (.iconst 1, 1) := by decide +kernel
theorem dX6_markShifts_47 : decode cX6_markShifts 47 = .ok (.iand, 1) := by decide +kernel
theorem dX6_markShifts_48 : decode cX6_markShifts 48 = .ok (.ifCond .eq 93, 3) := by decide +kernel
theorem dX6_markShifts_51 : decode cX6_markShifts 51 = .ok (.aload_n 0, 1) := by decide +kernel
theorem dX6_markShifts_52 : decode cX6_markShifts 52 = .ok (.getfield 25, 3) := by decide +kernel
theorem dX6_markShifts_55 : decode cX6_markShifts 55 = .ok (.iload 5, 2) := by decide +kernel
theorem dX6_markShifts_57 : decode cX6_markShifts 57 = .ok (.iload_n 2, 1) := by decide +kernel
theorem dX6_markShifts_58 : decode cX6_markShifts 58 = .ok (.invokevirtual 95, 3) := by decide +kernel
theorem dX6_markShifts_61 : decode cX6_markShifts 61 = .ok (.aload_n 0, 1) := by decide +kernel
theorem dX6_markShifts_62 : decode cX6_markShifts 62 = .ok (.getfield 25, 3) := by decide +kernel
theorem dX6_markShifts_65 : decode cX6_markShifts 65 = .ok (.iload_n 1, 1) := by decide +kernel
theorem dX6_markShifts_66 : decode cX6_markShifts 66 = .ok (.iload_n 2, 1) := by decide +kernel
theorem dX6_markShifts_67 : decode cX6_markShifts 67 = .ok (.invokevirtual 95, 3) := by decide +kernel
theorem dX6_markShifts_70 : decode cX6_markShifts 70 = .ok (.isub, 1) := by decide +kernel
theorem dX6_markShifts_71 : decode cX6_markShifts 71 = .ok (.istore 6, 2) := by decide +kernel
theorem dX6_markShifts_73 : decode cX6_markShifts 73 = .ok (.sipush (-300), 3) := by decide +kernel
theorem dX6_markShifts_76 : decode cX6_markShifts 76 = .ok (.iload 6, 2) := by decide +kernel
theorem dX6_markShifts_78 : decode cX6_markShifts 78 = .ok (.aload_n 0, 1) := by decide +kernel
theorem dX6_markShifts_79 : decode cX6_markShifts 79 = .ok (.getfield 21, 3) := by decide +kernel
theorem dX6_markShifts_82 : decode cX6_markShifts 82 = .ok (.getfield 98, 3) := by decide +kernel
theorem dX6_markShifts_85 : decode cX6_markShifts 85 = .ok (.isub, 1) := by decide +kernel
theorem dX6_markShifts_86 : decode cX6_markShifts 86 = .ok (.invokestatic 101, 3) := by decide +kernel
theorem dX6_markShifts_89 : decode cX6_markShifts 89 = .ok (.istore 7, 2) := by decide +kernel
theorem dX6_markShifts_91 : decode cX6_markShifts 91 = .ok (.sipush 300, 3) := by decide +kernel
theorem dX6_markShifts_94 : decode cX6_markShifts 94 = .ok (.iload 6, 2) := by decide +kernel
theorem dX6_markShifts_96 : decode cX6_markShifts 96 = .ok (.aload_n 0, 1) := by decide +kernel
theorem dX6_markShifts_97 : decode cX6_markShifts 97 = .ok (.getfield 21, 3) := by decide +kernel
theorem dX6_markShifts_100 : decode cX6_markShifts 100 = .ok (.getfield 98, 3) := by decide +kernel
theorem dX6_markShifts_103 : decode cX6_markShifts 103 = .ok (.iadd, 1) := by decide +kernel
theorem dX6_markShifts_104 : decode cX6_markShifts 104 = .ok (.invokestatic 106, 3) := by decide +kernel
theorem dX6_markShifts_107 : decode cX6_markShifts 107 = .ok (.istore 8, 2) := by decide +kernel
theorem dX6_markShifts_109 : decode cX6_markShifts 109 = .ok (.iload 7, 2) := by decide +kernel
theorem dX6_markShifts_111 : decode cX6_markShifts 111 = .ok (.istore 9, 2) := by decide +kernel
theorem dX6_markShifts_113 : decode cX6_markShifts 113 = .ok (.iload 9, 2) := by decide +kernel
theorem dX6_markShifts_115 : decode cX6_markShifts 115 = .ok (.iload 8, 2) := by decide +kernel
theorem dX6_markShifts_117 : decode cX6_markShifts 117 = .ok (.if_icmp .gt 24, 3) := by decide +kernel
theorem dX6_markShifts_120 : decode cX6_markShifts 120 = .ok (.aload_n 0, 1) := by decide +kernel
theorem dX6_markShifts_121 : decode cX6_markShifts 121 = .ok (.getfield 18, 3) := by decide +kernel
theorem dX6_markShifts_124 : decode cX6_markShifts 124 = .ok (.iload 9, 2) := by decide +kernel
theorem dX6_markShifts_126 : decode cX6_markShifts 126 = .ok (.sipush 300, 3) := by decide +kernel
theorem dX6_markShifts_129 : decode cX6_markShifts 129 = .ok (.iadd, 1) := by decide +kernel
theorem dX6_markShifts_130 : decode cX6_markShifts 130 = .ok (.dup2, 1) := by decide +kernel
theorem dX6_markShifts_131 : decode cX6_markShifts 131 = .ok (.iaload, 1) := by decide +kernel
theorem dX6_markShifts_132 : decode cX6_markShifts 132 = .ok (.iload_n 3, 1) := by decide +kernel
theorem dX6_markShifts_133 : decode cX6_markShifts 133 = .ok (.ior, 1) := by decide +kernel
theorem dX6_markShifts_134 : decode cX6_markShifts 134 = .ok (.iastore, 1) := by decide +kernel
theorem dX6_markShifts_135 : decode cX6_markShifts 135 = .ok (.iinc 9 1, 3) := by decide +kernel
theorem dX6_markShifts_138 : decode cX6_markShifts 138 = .ok (.goto (-25), 3) := by decide +kernel
theorem dX6_markShifts_141 : decode cX6_markShifts 141 = .ok (.iinc 5 1, 3) := by decide +kernel
theorem dX6_markShifts_144 : decode cX6_markShifts 144 = .ok (.goto (-121), 3) := by decide +kernel
theorem dX6_markShifts_147 : decode cX6_markShifts 147 = .ok (.return_, 1) := by decide +kernel
theorem dX6_clashesFrom_0 : decode cX6_clashesFrom 0 = .ok (.aload_n 0, 1) := by decide +kernel
theorem dX6_clashesFrom_1 : decode cX6_clashesFrom 1 = .ok (.getfield 21, 3) := by decide +kernel
theorem dX6_clashesFrom_4 : decode cX6_clashesFrom 4 = .ok (.getfield 109, 3) := by decide +kernel
theorem dX6_clashesFrom_7 : decode cX6_clashesFrom 7 = .ok (.iload_n 1, 1) := by decide +kernel
theorem dX6_clashesFrom_8 : decode cX6_clashesFrom 8 = .ok (.aaload, 1) := by decide +kernel
theorem dX6_clashesFrom_9 : decode cX6_clashesFrom 9 = .ok (.astore_n 3, 1) := by decide +kernel
theorem dX6_clashesFrom_10 : decode cX6_clashesFrom 10 = .ok (.iconst 0, 1) := by decide +kernel
theorem dX6_clashesFrom_11 : decode cX6_clashesFrom 11 = .ok (.istore 4, 2) := by decide +kernel
theorem dX6_clashesFrom_13 : decode cX6_clashesFrom 13 = .ok (.iload 4, 2) := by decide +kernel
theorem dX6_clashesFrom_15 : decode cX6_clashesFrom 15 = .ok (.aload_n 0, 1) := by decide +kernel
theorem dX6_clashesFrom_16 : decode cX6_clashesFrom 16 = .ok (.getfield 21, 3) := by decide +kernel
theorem dX6_clashesFrom_19 : decode cX6_clashesFrom 19 = .ok (.getfield 53, 3) := by decide +kernel
theorem dX6_clashesFrom_22 : decode cX6_clashesFrom 22 = .ok (.if_icmp .ge 86, 3) := by decide +kernel
theorem dX6_clashesFrom_25 : decode cX6_clashesFrom 25 = .ok (.aload_n 0, 1) := by decide +kernel
theorem dX6_clashesFrom_26 : decode cX6_clashesFrom 26 = .ok (.getfield 21, 3) := by decide +kernel
theorem dX6_clashesFrom_29 : decode cX6_clashesFrom 29 = .ok (.getfield 75, 3) := by decide +kernel
theorem dX6_clashesFrom_32 : decode cX6_clashesFrom 32 = .ok (.iload 4, 2) := by decide +kernel
theorem dX6_clashesFrom_34 : decode cX6_clashesFrom 34 = .ok (.iaload, 1) := by decide +kernel
theorem dX6_clashesFrom_35 : decode cX6_clashesFrom 35 = .ok (.istore 5, 2) := by decide +kernel
theorem dX6_clashesFrom_37 : decode cX6_clashesFrom 37 = .ok (.aload_n 3, 1) := by decide +kernel
theorem dX6_clashesFrom_38 : decode cX6_clashesFrom 38 = .ok (.getfield 113, 3) := by decide +kernel
theorem dX6_clashesFrom_41 : decode cX6_clashesFrom 41 = .ok (.iload_n 2, 1) := by decide +kernel
theorem dX6_clashesFrom_42 : decode cX6_clashesFrom 42 = .ok (.iload 5, 2) := by decide +kernel
theorem dX6_clashesFrom_44 : decode cX6_clashesFrom 44 = .ok (.aload_n 0, 1) := by decide +kernel
theorem dX6_clashesFrom_45 : decode cX6_clashesFrom 45 = .ok (.getfield 21, 3) := by decide +kernel
theorem dX6_clashesFrom_48 : decode cX6_clashesFrom 48 = .ok (.getfield 78, 3) := by decide +kernel
theorem dX6_clashesFrom_51 : decode cX6_clashesFrom 51 = .ok (.invokestatic 81, 3) := by decide +kernel
theorem dX6_clashesFrom_54 : decode cX6_clashesFrom 54 = .ok (.iadd, 1) := by decide +kernel
theorem dX6_clashesFrom_55 : decode cX6_clashesFrom 55 = .ok (.istore 6, 2) := by decide +kernel
theorem dX6_clashesFrom_57 : decode cX6_clashesFrom 57 = .ok (.aload_n 0, 1) := by decide +kernel
theorem dX6_clashesFrom_58 : decode cX6_clashesFrom 58 = .ok (.getfield 25, 3) := by decide +kernel
theorem dX6_clashesFrom_61 : decode cX6_clashesFrom 61 = .ok (.iload 4, 2) := by decide +kernel
theorem dX6_clashesFrom_63 : decode cX6_clashesFrom 63 = .ok (.iload 6, 2) := by decide +kernel
theorem dX6_clashesFrom_65 : decode cX6_clashesFrom 65 = .ok (.iload_n 1, 1) := by decide +kernel
theorem dX6_clashesFrom_66 : decode cX6_clashesFrom 66 = .ok (.invokevirtual 85, 3) := by decide +kernel
theorem dX6_clashesFrom_69 : decode cX6_clashesFrom 69 = .ok (.ifCond .eq 33, 3) := by decide +kernel
theorem dX6_clashesFrom_72 : decode cX6_clashesFrom 72 = .ok (.aload_n 0, 1) := by decide +kernel
theorem dX6_clashesFrom_73 : decode cX6_clashesFrom 73 = .ok (.getfield 21, 3) := by decide +kernel
theorem dX6_clashesFrom_76 : decode cX6_clashesFrom 76 = .ok (.aload_n 3, 1) := by decide +kernel
theorem dX6_clashesFrom_77 : decode cX6_clashesFrom 77 = .ok (.getfield 118, 3) := by decide +kernel
theorem dX6_clashesFrom_80 : decode cX6_clashesFrom 80 = .ok (.aload_n 3, 1) := by decide +kernel
theorem dX6_clashesFrom_81 : decode cX6_clashesFrom 81 = .ok (.getfield 121, 3) := by decide +kernel
theorem dX6_clashesFrom_84 : decode cX6_clashesFrom 84 = .ok (.iload_n 2, 1) := by decide +kernel
theorem dX6_clashesFrom_85 : decode cX6_clashesFrom 85 = .ok (.iload 5, 2) := by decide +kernel
theorem dX6_clashesFrom_87 : decode cX6_clashesFrom 87 = .ok (.aload_n 0, 1) := by decide +kernel
theorem dX6_clashesFrom_88 : decode cX6_clashesFrom 88 = .ok (.getfield 21, 3) := by decide +kernel
theorem dX6_clashesFrom_91 : decode cX6_clashesFrom 91 = .ok (.getfield 78, 3) := by decide +kernel
theorem dX6_clashesFrom_94 : decode cX6_clashesFrom 94 = .ok (.invokevirtual 124, 3) := by decide +kernel
theorem dX6_clashesFrom_97 : decode cX6_clashesFrom 97 = .ok (.ifCond .le 5, 3) := by decide +kernel
theorem dX6_clashesFrom_100 : decode cX6_clashesFrom 100 = .ok (.iconst 1, 1) := by decide +kernel
theorem dX6_clashesFrom_101 : decode cX6_clashesFrom 101 = .ok (.ireturn, 1) := by decide +kernel
theorem dX6_clashesFrom_102 : decode cX6_clashesFrom 102 = .ok (.iinc 4 1, 3) := by decide +kernel
theorem dX6_clashesFrom_105 : decode cX6_clashesFrom 105 = .ok (.goto (-92), 3) := by decide +kernel
theorem dX6_clashesFrom_108 : decode cX6_clashesFrom 108 = .ok (.iconst 0, 1) := by decide +kernel
theorem dX6_clashesFrom_109 : decode cX6_clashesFrom 109 = .ok (.ireturn, 1) := by decide +kernel
theorem dX6_isHeardAtBad_0 : decode cX6_isHeardAtBad 0 = .ok (.iconst 0, 1) := by decide +kernel
theorem dX6_isHeardAtBad_1 : decode cX6_isHeardAtBad 1 = .ok (.istore 4, 2) := by decide +kernel
theorem dX6_isHeardAtBad_3 : decode cX6_isHeardAtBad 3 = .ok (.iload 4, 2) := by decide +kernel
theorem dX6_isHeardAtBad_5 : decode cX6_isHeardAtBad 5 = .ok (.iload_n 1, 1) := by decide +kernel
theorem dX6_isHeardAtBad_6 : decode cX6_isHeardAtBad 6 = .ok (.if_icmp .ge 50, 3) := by decide +kernel
theorem dX6_isHeardAtBad_9 : decode cX6_isHeardAtBad 9 = .ok (.aload_n 0, 1) := by decide +kernel
theorem dX6_isHeardAtBad_10 : decode cX6_isHeardAtBad 10 = .ok (.getfield 21, 3) := by decide +kernel
theorem dX6_isHeardAtBad_13 : decode cX6_isHeardAtBad 13 = .ok (.getfield 75, 3) := by decide +kernel
theorem dX6_isHeardAtBad_16 : decode cX6_isHeardAtBad 16 = .ok (.aload_n 0, 1) := by decide +kernel
theorem dX6_isHeardAtBad_17 : decode cX6_isHeardAtBad 17 = .ok (.getfield 15, 3) := by decide +kernel
theorem dX6_isHeardAtBad_20 : decode cX6_isHeardAtBad 20 = .ok (.iload 4, 2) := by decide +kernel
theorem dX6_isHeardAtBad_22 : decode cX6_isHeardAtBad 22 = .ok (.iaload, 1) := by decide +kernel
theorem dX6_isHeardAtBad_23 : decode cX6_isHeardAtBad 23 = .ok (.iaload, 1) := by decide +kernel
theorem dX6_isHeardAtBad_24 : decode cX6_isHeardAtBad 24 = .ok (.istore 5, 2) := by decide +kernel
theorem dX6_isHeardAtBad_26 : decode cX6_isHeardAtBad 26 = .ok (.aload_n 0, 1) := by decide +kernel
theorem dX6_isHeardAtBad_27 : decode cX6_isHeardAtBad 27 = .ok (.getfield 21, 3) := by decide +kernel
theorem dX6_isHeardAtBad_30 : decode cX6_isHeardAtBad 30 = .ok (.iconst 0, 1) := by decide +kernel
theorem dX6_isHeardAtBad_31 : decode cX6_isHeardAtBad 31 = .ok (.iload_n 2, 1) := by decide +kernel
theorem dX6_isHeardAtBad_32 : decode cX6_isHeardAtBad 32 = .ok (.iload_n 3, 1) := by decide +kernel
theorem dX6_isHeardAtBad_33 : decode cX6_isHeardAtBad 33 = .ok (.iload 5, 2) := by decide +kernel
theorem dX6_isHeardAtBad_35 : decode cX6_isHeardAtBad 35 = .ok (.aload_n 0, 1) := by decide +kernel
theorem dX6_isHeardAtBad_36 : decode cX6_isHeardAtBad 36 = .ok (.getfield 21, 3) := by decide +kernel
theorem dX6_isHeardAtBad_39 : decode cX6_isHeardAtBad 39 = .ok (.getfield 78, 3) := by decide +kernel
theorem dX6_isHeardAtBad_42 : decode cX6_isHeardAtBad 42 = .ok (.invokevirtual 124, 3) := by decide +kernel
theorem dX6_isHeardAtBad_45 : decode cX6_isHeardAtBad 45 = .ok (.ifCond .le 5, 3) := by decide +kernel
theorem dX6_isHeardAtBad_48 : decode cX6_isHeardAtBad 48 = .ok (.iconst 1, 1) := by decide +kernel
theorem dX6_isHeardAtBad_49 : decode cX6_isHeardAtBad 49 = .ok (.ireturn, 1) := by decide +kernel
theorem dX6_isHeardAtBad_50 : decode cX6_isHeardAtBad 50 = .ok (.iinc 4 1, 3) := by decide +kernel
theorem dX6_isHeardAtBad_53 : decode cX6_isHeardAtBad 53 = .ok (.goto (-50), 3) := by decide +kernel
theorem dX6_isHeardAtBad_56 : decode cX6_isHeardAtBad 56 = .ok (.iconst 0, 1) := by decide +kernel
theorem dX6_isHeardAtBad_57 : decode cX6_isHeardAtBad 57 = .ok (.ireturn, 1) := by decide +kernel
theorem dX7_init_0 : decode cX7_init 0 = .ok (.aload_n 0, 1) := by decide +kernel
theorem dX7_init_1 : decode cX7_init 1 = .ok (.invokespecial 3, 3) := by decide +kernel
theorem dX7_init_4 : decode cX7_init 4 = .ok (.aload_n 0, 1) := by decide +kernel
theorem dX7_init_5 : decode cX7_init 5 = .ok (.bipush 101, 2) := by decide +kernel
theorem dX7_init_7 : decode cX7_init 7 = .ok (.newarray .int, 2) := by decide +kernel
theorem dX7_init_9 : decode cX7_init 9 = .ok (.putfield 9, 3) := by decide +kernel
theorem dX7_init_12 : decode cX7_init 12 = .ok (.aload_n 0, 1) := by decide +kernel
theorem dX7_init_13 : decode cX7_init 13 = .ok (.bipush 8, 2) := by decide +kernel
theorem dX7_init_15 : decode cX7_init 15 = .ok (.anewarray 15, 3) := by decide +kernel
theorem dX7_init_18 : decode cX7_init 18 = .ok (.putfield 17, 3) := by decide +kernel
theorem dX7_init_21 : decode cX7_init 21 = .ok (.aload_n 0, 1) := by decide +kernel
theorem dX7_init_22 : decode cX7_init 22 = .ok (.bipush 10, 2) := by decide +kernel
theorem dX7_init_24 : decode cX7_init 24 = .ok (.newarray .int, 2) := by decide +kernel
theorem dX7_init_26 : decode cX7_init 26 = .ok (.putfield 21, 3) := by decide +kernel
theorem dX7_init_29 : decode cX7_init 29 = .ok (.aload_n 0, 1) := by decide +kernel
theorem dX7_init_30 : decode cX7_init 30 = .ok (.iconst 3, 1) := by decide +kernel
theorem dX7_init_31 : decode cX7_init 31 = .ok (.putfield 24, 3) := by decide +kernel
theorem dX7_init_34 : decode cX7_init 34 = .ok (.aload_n 0, 1) := by decide +kernel
theorem dX7_init_35 : decode cX7_init 35 = .ok (.bipush 60, 2) := by decide +kernel
theorem dX7_init_37 : decode cX7_init 37 = .ok (.putfield 28, 3) := by decide +kernel
theorem dX7_init_40 : decode cX7_init 40 = .ok (.aload_n 0, 1) := by decide +kernel
theorem dX7_init_41 : decode cX7_init 41 = .ok (.bipush 50, 2) := by decide +kernel
theorem dX7_init_43 : decode cX7_init 43 = .ok (.newarray .int, 2) := by decide +kernel
theorem dX7_init_45 : decode cX7_init 45 = .ok (.putfield 31, 3) := by decide +kernel
theorem dX7_init_48 : decode cX7_init 48 = .ok (.aload_n 0, 1) := by decide +kernel
theorem dX7_init_49 : decode cX7_init 49 = .ok (.new 34, 3) := by decide +kernel
theorem dX7_init_52 : decode cX7_init 52 = .ok (.dup, 1) := by decide +kernel
theorem dX7_init_53 : decode cX7_init 53 = .ok (.invokespecial 36, 3) := by decide +kernel
theorem dX7_init_56 : decode cX7_init 56 = .ok (.putfield 37, 3) := by decide +kernel
theorem dX7_init_59 : decode cX7_init 59 = .ok (.aload_n 0, 1) := by decide +kernel
theorem dX7_init_60 : decode cX7_init 60 = .ok (.new 34, 3) := by decide +kernel
theorem dX7_init_63 : decode cX7_init 63 = .ok (.dup, 1) := by decide +kernel
theorem dX7_init_64 : decode cX7_init 64 = .ok (.invokespecial 36, 3) := by decide +kernel
theorem dX7_init_67 : decode cX7_init 67 = .ok (.putfield 41, 3) := by decide +kernel
theorem dX7_init_70 : decode cX7_init 70 = .ok (.aload_n 0, 1) := by decide +kernel
theorem dX7_init_71 : decode cX7_init 71 = .ok (.iconst 1, 1) := by decide +kernel
theorem dX7_init_72 : decode cX7_init 72 = .ok (.putfield 44, 3) := by decide +kernel
theorem dX7_init_75 : decode cX7_init 75 = .ok (.aload_n 0, 1) := by decide +kernel
theorem dX7_init_76 : decode cX7_init 76 = .ok (.bipush 20, 2) := by decide +kernel
theorem dX7_init_78 : decode cX7_init 78 = .ok (.newarray .int, 2) := by decide +kernel
theorem dX7_init_80 : decode cX7_init 80 = .ok (.putfield 47, 3) := by decide +kernel
theorem dX7_init_83 : decode cX7_init 83 = .ok (.aload_n 0, 1) := by decide +kernel
theorem dX7_init_84 : decode cX7_init 84 = .ok (.bipush 8, 2) := by decide +kernel
theorem dX7_init_86 : decode cX7_init 86 = .ok (.newarray .int, 2) := by decide +kernel
theorem dX7_init_88 : decode cX7_init 88 = .ok (.putfield 50, 3) := by decide +kernel
theorem dX7_init_91 : decode cX7_init 91 = .ok (.iconst 0, 1) := by decide +kernel
theorem dX7_init_92 : decode cX7_init 92 = .ok (.istore_n 1, 1) := by decide +kernel
theorem dX7_init_93 : decode cX7_init 93 = .ok (.iload_n 1, 1) := by decide +kernel
theorem dX7_init_94 : decode cX7_init 94 = .ok (.bipush 8, 2) := by decide +kernel
theorem dX7_init_96 : decode cX7_init 96 = .ok (.if_icmp .ge 22, 3) := by decide +kernel
theorem dX7_init_99 : decode cX7_init 99 = .ok (.aload_n 0, 1) := by decide +kernel
theorem dX7_init_100 : decode cX7_init 100 = .ok (.getfield 17, 3) := by decide +kernel
theorem dX7_init_103 : decode cX7_init 103 = .ok (.iload_n 1, 1) := by decide +kernel
theorem dX7_init_104 : decode cX7_init 104 = .ok (.new 15, 3) := by decide +kernel
theorem dX7_init_107 : decode cX7_init 107 = .ok (.dup, 1) := by decide +kernel
theorem dX7_init_108 : decode cX7_init 108 = .ok (.invokespecial 53, 3) := by decide +kernel
theorem dX7_init_111 : decode cX7_init 111 = .ok (.aastore, 1) := by decide +kernel
theorem dX7_init_112 : decode cX7_init 112 = .ok (.iinc 1 1, 3) := by decide +kernel
theorem dX7_init_115 : decode cX7_init 115 = .ok (.goto (-22), 3) := by decide +kernel
theorem dX7_init_118 : decode cX7_init 118 = .ok (.return_, 1) := by decide +kernel
theorem dX7_become_0 : decode cX7_become 0 = .ok (.aload_n 1, 1) := by decide +kernel
theorem dX7_become_1 : decode cX7_become 1 = .ok (.getfield 9, 3) := by decide +kernel
theorem dX7_become_4 : decode cX7_become 4 = .ok (.iconst 0, 1) := by decide +kernel
theorem dX7_become_5 : decode cX7_become 5 = .ok (.aload_n 0, 1) := by decide +kernel
theorem dX7_become_6 : decode cX7_become 6 = .ok (.getfield 9, 3) := by decide +kernel
theorem dX7_become_9 : decode cX7_become 9 = .ok (.iconst 0, 1) := by decide +kernel
theorem dX7_become_10 : decode cX7_become 10 = .ok (.bipush 101, 2) := by decide +kernel
theorem dX7_become_12 : decode cX7_become 12 = .ok (.invokestatic 54, 3) := by decide +kernel
theorem dX7_become_15 : decode cX7_become 15 = .ok (.iconst 0, 1) := by decide +kernel
theorem dX7_become_16 : decode cX7_become 16 = .ok (.istore_n 2, 1) := by decide +kernel
theorem dX7_become_17 : decode cX7_become 17 = .ok (.iload_n 2, 1) := by decide +kernel
theorem dX7_become_18 : decode cX7_become 18 = .ok (.bipush 8, 2) := by decide +kernel
theorem dX7_become_20 : decode cX7_become 20 = .ok (.if_icmp .ge 24, 3) := by decide +kernel
theorem dX7_become_23 : decode cX7_become 23 = .ok (.aload_n 0, 1) := by decide +kernel
theorem dX7_become_24 : decode cX7_become 24 = .ok (.getfield 17, 3) := by decide +kernel
theorem dX7_become_27 : decode cX7_become 27 = .ok (.iload_n 2, 1) := by decide +kernel
theorem dX7_become_28 : decode cX7_become 28 = .ok (.aaload, 1) := by decide +kernel
theorem dX7_become_29 : decode cX7_become 29 = .ok (.aload_n 1, 1) := by decide +kernel
theorem dX7_become_30 : decode cX7_become 30 = .ok (.getfield 17, 3) := by decide +kernel
theorem dX7_become_33 : decode cX7_become 33 = .ok (.iload_n 2, 1) := by decide +kernel
theorem dX7_become_34 : decode cX7_become 34 = .ok (.aaload, 1) := by decide +kernel
theorem dX7_become_35 : decode cX7_become 35 = .ok (.invokevirtual 60, 3) := by decide +kernel
theorem dX7_become_38 : decode cX7_become 38 = .ok (.iinc 2 1, 3) := by decide +kernel
theorem dX7_become_41 : decode cX7_become 41 = .ok (.goto (-24), 3) := by decide +kernel
theorem dX7_become_44 : decode cX7_become 44 = .ok (.aload_n 0, 1) := by decide +kernel
theorem dX7_become_45 : decode cX7_become 45 = .ok (.aload_n 1, 1) := by decide +kernel
theorem dX7_become_46 : decode cX7_become 46 = .ok (.getfield 64, 3) := by decide +kernel
theorem dX7_become_49 : decode cX7_become 49 = .ok (.putfield 64, 3) := by decide +kernel
theorem dX7_become_52 : decode cX7_become 52 = .ok (.aload_n 1, 1) := by decide +kernel
theorem dX7_become_53 : decode cX7_become 53 = .ok (.getfield 21, 3) := by decide +kernel
theorem dX7_become_56 : decode cX7_become 56 = .ok (.iconst 0, 1) := by decide +kernel
theorem dX7_become_57 : decode cX7_become 57 = .ok (.aload_n 0, 1) := by decide +kernel
theorem dX7_become_58 : decode cX7_become 58 = .ok (.getfield 21, 3) := by decide +kernel
theorem dX7_become_61 : decode cX7_become 61 = .ok (.iconst 0, 1) := by decide +kernel
theorem dX7_become_62 : decode cX7_become 62 = .ok (.bipush 10, 2) := by decide +kernel
theorem dX7_become_64 : decode cX7_become 64 = .ok (.invokestatic 54, 3) := by decide +kernel
theorem dX7_become_67 : decode cX7_become 67 = .ok (.aload_n 0, 1) := by decide +kernel
theorem dX7_become_68 : decode cX7_become 68 = .ok (.aload_n 1, 1) := by decide +kernel
theorem dX7_become_69 : decode cX7_become 69 = .ok (.getfield 67, 3) := by decide +kernel
theorem dX7_become_72 : decode cX7_become 72 = .ok (.putfield 67, 3) := by decide +kernel
theorem dX7_become_75 : decode cX7_become 75 = .ok (.aload_n 0, 1) := by decide +kernel
theorem dX7_become_76 : decode cX7_become 76 = .ok (.aload_n 1, 1) := by decide +kernel
theorem dX7_become_77 : decode cX7_become 77 = .ok (.getfield 70, 3) := by decide +kernel
theorem dX7_become_80 : decode cX7_become 80 = .ok (.putfield 70, 3) := by decide +kernel
theorem dX7_become_83 : decode cX7_become 83 = .ok (.aload_n 0, 1) := by decide +kernel
theorem dX7_become_84 : decode cX7_become 84 = .ok (.aload_n 1, 1) := by decide +kernel
theorem dX7_become_85 : decode cX7_become 85 = .ok (.getfield 24, 3) := by decide +kernel
theorem dX7_become_88 : decode cX7_become 88 = .ok (.putfield 24, 3) := by decide +kernel
theorem dX7_become_91 : decode cX7_become 91 = .ok (.aload_n 0, 1) := by decide +kernel
theorem dX7_become_92 : decode cX7_become 92 = .ok (.aload_n 1, 1) := by decide +kernel
theorem dX7_become_93 : decode cX7_become 93 = .ok (.getfield 28, 3) := by decide +kernel
theorem dX7_become_96 : decode cX7_become 96 = .ok (.putfield 28, 3) := by decide +kernel
theorem dX7_become_99 : decode cX7_become 99 = .ok (.aload_n 1, 1) := by decide +kernel
theorem dX7_become_100 : decode cX7_become 100 = .ok (.getfield 31, 3) := by decide +kernel
theorem dX7_become_103 : decode cX7_become 103 = .ok (.iconst 0, 1) := by decide +kernel
theorem dX7_become_104 : decode cX7_become 104 = .ok (.aload_n 0, 1) := by decide +kernel
theorem dX7_become_105 : decode cX7_become 105 = .ok (.getfield 31, 3) := by decide +kernel
theorem dX7_become_108 : decode cX7_become 108 = .ok (.iconst 0, 1) := by decide +kernel
theorem dX7_become_109 : decode cX7_become 109 = .ok (.bipush 50, 2) := by decide +kernel
theorem dX7_become_111 : decode cX7_become 111 = .ok (.invokestatic 54, 3) := by decide +kernel
theorem dX7_become_114 : decode cX7_become 114 = .ok (.aload_n 0, 1) := by decide +kernel
theorem dX7_become_115 : decode cX7_become 115 = .ok (.aload_n 1, 1) := by decide +kernel
theorem dX7_become_116 : decode cX7_become 116 = .ok (.getfield 73, 3) := by decide +kernel
theorem dX7_become_119 : decode cX7_become 119 = .ok (.putfield 73, 3) := by decide +kernel
theorem dX7_become_122 : decode cX7_become 122 = .ok (.aload_n 0, 1) := by decide +kernel
theorem dX7_become_123 : decode cX7_become 123 = .ok (.getfield 37, 3) := by decide +kernel
theorem dX7_become_126 : decode cX7_become 126 = .ok (.aload_n 1, 1) := by decide +kernel
theorem dX7_become_127 : decode cX7_become 127 = .ok (.getfield 37, 3) := by decide +kernel
theorem dX7_become_130 : decode cX7_become 130 = .ok (.invokevirtual 76, 3) := by decide +kernel
theorem dX7_become_133 : decode cX7_become 133 = .ok (.aload_n 0, 1) := by decide +kernel
theorem dX7_become_134 : decode cX7_become 134 = .ok (.getfield 41, 3) := by decide +kernel
theorem dX7_become_137 : decode cX7_become 137 = .ok (.aload_n 1, 1) := by decide +kernel
theorem dX7_become_138 : decode cX7_become 138 = .ok (.getfield 41, 3) := by decide +kernel
theorem dX7_become_141 : decode cX7_become 141 = .ok (.invokevirtual 76, 3) := by decide +kernel
theorem dX7_become_144 : decode cX7_become 144 = .ok (.aload_n 0, 1) := by decide +kernel
theorem dX7_become_145 : decode cX7_become 145 = .ok (.aload_n 1, 1) := by decide +kernel
theorem dX7_become_146 : decode cX7_become 146 = .ok (.getfield 44, 3) := by decide +kernel
theorem dX7_become_149 : decode cX7_become 149 = .ok (.putfield 44, 3) := by decide +kernel
theorem dX7_become_152 : decode cX7_become 152 = .ok (.aload_n 1, 1) := by decide +kernel
theorem dX7_become_153 : decode cX7_become 153 = .ok (.getfield 47, 3) := by decide +kernel
theorem dX7_become_156 : decode cX7_become 156 = .ok (.iconst 0, 1) := by decide +kernel
theorem dX7_become_157 : decode cX7_become 157 = .ok (.aload_n 0, 1) := by decide +kernel
theorem dX7_become_158 : decode cX7_become 158 = .ok (.getfield 47, 3) := by decide +kernel
theorem dX7_become_161 : decode cX7_become 161 = .ok (.iconst 0, 1) := by decide +kernel
theorem dX7_become_162 : decode cX7_become 162 = .ok (.bipush 20, 2) := by decide +kernel
theorem dX7_become_164 : decode cX7_become 164 = .ok (.invokestatic 54, 3) := by decide +kernel
theorem dX7_become_167 : decode cX7_become 167 = .ok (.aload_n 0, 1) := by decide +kernel
theorem dX7_become_168 : decode cX7_become 168 = .ok (.aload_n 1, 1) := by decide +kernel
theorem dX7_become_169 : decode cX7_become 169 = .ok (.getfield 79, 3) := by decide +kernel
theorem dX7_become_172 : decode cX7_become 172 = .ok (.putfield 79, 3) := by decide +kernel
theorem dX7_become_175 : decode cX7_become 175 = .ok (.return_, 1) := by decide +kernel
theorem dX7_raise_0 : decode cX7_raise 0 = .ok (.aload_n 0, 1) := by decide +kernel
theorem dX7_raise_1 : decode cX7_raise 1 = .ok (.getfield 9, 3) := by decide +kernel
theorem dX7_raise_4 : decode cX7_raise 4 = .ok (.iload_n 1, 1) := by decide +kernel
theorem dX7_raise_5 : decode cX7_raise 5 = .ok (.iconst 1, 1) := by decide +kernel
theorem dX7_raise_6 : decode cX7_raise 6 = .ok (.iadd, 1) := by decide +kernel
theorem dX7_raise_7 : decode cX7_raise 7 = .ok (.iaload, 1) := by decide +kernel
theorem dX7_raise_8 : decode cX7_raise 8 = .ok (.aload_n 0, 1) := by decide +kernel
theorem dX7_raise_9 : decode cX7_raise 9 = .ok (.getfield 9, 3) := by decide +kernel
theorem dX7_raise_12 : decode cX7_raise 12 = .ok (.iload_n 1, 1) := by decide +kernel
theorem dX7_raise_13 : decode cX7_raise 13 = .ok (.iaload, 1) := by decide +kernel
theorem dX7_raise_14 : decode cX7_raise 14 = .ok (.isub, 1) := by decide +kernel
theorem dX7_raise_15 : decode cX7_raise 15 = .ok (.istore_n 3, 1) := by decide +kernel
theorem dX7_raise_16 : decode cX7_raise 16 = .ok (.iload_n 1, 1) := by decide +kernel
theorem dX7_raise_17 : decode cX7_raise 17 = .ok (.iconst 1, 1) := by decide +kernel
theorem dX7_raise_18 : decode cX7_raise 18 = .ok (.iadd, 1) := by decide +kernel
theorem dX7_raise_19 : decode cX7_raise 19 = .ok (.istore 4, 2) := by decide +kernel
theorem dX7_raise_21 : decode cX7_raise 21 = .ok (.iload 4, 2) := by decide +kernel
theorem dX7_raise_23 : decode cX7_raise 23 = .ok (.bipush 100, 2) := by decide +kernel
theorem dX7_raise_25 : decode cX7_raise 25 = .ok (.if_icmp .gt 22, 3) := by decide +kernel
theorem dX7_raise_28 : decode cX7_raise 28 = .ok (.aload_n 0, 1) := by decide +kernel
theorem dX7_raise_29 : decode cX7_raise 29 = .ok (.getfield 9, 3) := by decide +kernel
theorem dX7_raise_32 : decode cX7_raise 32 = .ok (.iload 4, 2) := by decide +kernel
theorem dX7_raise_34 : decode cX7_raise 34 = .ok (.dup2, 1) := by decide +kernel
theorem dX7_raise_35 : decode cX7_raise 35 = .ok (.iaload, 1) := by decide +kernel
theorem dX7_raise_36 : decode cX7_raise 36 = .ok (.iload_n 2, 1) := by decide +kernel
theorem dX7_raise_37 : decode cX7_raise 37 = .ok (.iload_n 3, 1) := by decide +kernel
theorem dX7_raise_38 : decode cX7_raise 38 = .ok (.isub, 1) := by decide +kernel
theorem dX7_raise_39 : decode cX7_raise 39 = .ok (.iadd, 1) := by decide +kernel
theorem dX7_raise_40 : decode cX7_raise 40 = .ok (.iastore, 1) := by decide +kernel
theorem dX7_raise_41 : decode cX7_raise 41 = .ok (.iinc 4 1, 3) := by decide +kernel
theorem dX7_raise_44 : decode cX7_raise 44 = .ok (.goto (-23), 3) := by decide +kernel
theorem dX7_raise_47 : decode cX7_raise 47 = .ok (.iload_n 3, 1) := by decide +kernel
theorem dX7_raise_48 : decode cX7_raise 48 = .ok (.ireturn, 1) := by decide +kernel
theorem dX7_hidBetween_0 : decode cX7_hidBetween 0 = .ok (.iload_n 1, 1) := by decide +kernel
theorem dX7_hidBetween_1 : decode cX7_hidBetween 1 = .ok (.iload_n 2, 1) := by decide +kernel
theorem dX7_hidBetween_2 : decode cX7_hidBetween 2 = .ok (.invokestatic 82, 3) := by decide +kernel
theorem dX7_hidBetween_5 : decode cX7_hidBetween 5 = .ok (.iconst 1, 1) := by decide +kernel
theorem dX7_hidBetween_6 : decode cX7_hidBetween 6 = .ok (.iadd, 1) := by decide +kernel
theorem dX7_hidBetween_7 : decode cX7_hidBetween 7 = .ok (.istore_n 3, 1) := by decide +kernel
theorem dX7_hidBetween_8 : decode cX7_hidBetween 8 = .ok (.iload_n 1, 1) := by decide +kernel
theorem dX7_hidBetween_9 : decode cX7_hidBetween 9 = .ok (.iload_n 2, 1) := by decide +kernel
theorem dX7_hidBetween_10 : decode cX7_hidBetween 10 = .ok (.invokestatic 88, 3) := by decide +kernel
theorem dX7_hidBetween_13 : decode cX7_hidBetween 13 = .ok (.istore 4, 2) := by decide +kernel
theorem dX7_hidBetween_15 : decode cX7_hidBetween 15 = .ok (.iload_n 3, 1) := by decide +kernel
theorem dX7_hidBetween_16 : decode cX7_hidBetween 16 = .ok (.iload 4, 2) := by decide +kernel
theorem dX7_hidBetween_18 : decode cX7_hidBetween 18 = .ok (.if_icmp .ge 20, 3) := by decide +kernel
theorem dX7_hidBetween_21 : decode cX7_hidBetween 21 = .ok (.aload_n 0, 1) := by decide +kernel
theorem dX7_hidBetween_22 : decode cX7_hidBetween 22 = .ok (.getfield 9, 3) := by decide +kernel
theorem dX7_hidBetween_25 : decode cX7_hidBetween 25 = .ok (.iload 4, 2) := by decide +kernel
theorem dX7_hidBetween_27 : decode cX7_hidBetween 27 = .ok (.iaload, 1) := by decide +kernel
theorem dX7_hidBetween_28 : decode cX7_hidBetween 28 = .ok (.aload_n 0, 1) := by decide +kernel
theorem dX7_hidBetween_29 : decode cX7_hidBetween 29 = .ok (.getfield 9, 3) := by decide +kernel
theorem dX7_hidBetween_32 : decode cX7_hidBetween 32 = .ok (.iload_n 3, 1) := by decide +kernel
theorem dX7_hidBetween_33 : decode cX7_hidBetween 33 = .ok (.iaload, 1) := by decide +kernel
theorem dX7_hidBetween_34 : decode cX7_hidBetween 34 = .ok (.isub, 1) := by decide +kernel
theorem dX7_hidBetween_35 : decode cX7_hidBetween 35 = .ok (.goto 4, 3) := by decide +kernel
theorem dX7_hidBetween_38 : decode cX7_hidBetween 38 = .ok (.iconst 0, 1) := by decide +kernel
theorem dX7_hidBetween_39 : decode cX7_hidBetween 39 = .ok (.ireturn, 1) := by decide +kernel
theorem dX7_strength_0 : decode cX7_strength 0 = .ok (.iload 4, 2) := by decide +kernel
theorem dX7_strength_2 : decode cX7_strength 2 = .ok (.iload_n 3, 1) := by decide +kernel
theorem dX7_strength_3 : decode cX7_strength 3 = .ok (.if_icmp .le 8, 3) := by decide +kernel
theorem dX7_strength_6 : decode cX7_strength 6 = .ok (.iload 5, 2) := by decide +kernel
theorem dX7_strength_8 : decode cX7_strength 8 = .ok (.goto 16, 3) := by decide +kernel
theorem dX7_strength_11 : decode cX7_strength 11 = .ok (.iload 4, 2) := by decide +kernel
theorem dX7_strength_13 : decode cX7_strength 13 = .ok (.iload_n 3, 1) := by decide +kernel
theorem dX7_strength_14 : decode cX7_strength 14 = .ok (.if_icmp .ge 9, 3) := by decide +kernel
theorem dX7_strength_17 : decode cX7_strength 17 = .ok (.iload 5, 2) := by decide +kernel
theorem dX7_strength_19 : decode cX7_strength 19 = .ok (.ineg, 1) := by decide +kernel
theorem dX7_strength_20 : decode cX7_strength 20 = .ok (.goto 4, 3) := by decide +kernel
theorem dX7_strength_23 : decode cX7_strength 23 = .ok (.iconst 0, 1) := by decide +kernel
theorem dX7_strength_24 : decode cX7_strength 24 = .ok (.istore 6, 2) := by decide +kernel
theorem dX7_strength_26 : decode cX7_strength 26 = .ok (.aload_n 0, 1) := by decide +kernel
theorem dX7_strength_27 : decode cX7_strength 27 = .ok (.getfield 37, 3) := by decide +kernel
theorem dX7_strength_30 : decode cX7_strength 30 = .ok (.iload_n 2, 1) := by decide +kernel
theorem dX7_strength_31 : decode cX7_strength 31 = .ok (.iload_n 3, 1) := by decide +kernel
theorem dX7_strength_32 : decode cX7_strength 32 = .ok (.iload 4, 2) := by decide +kernel
theorem dX7_strength_34 : decode cX7_strength 34 = .ok (.isub, 1) := by decide +kernel
theorem dX7_strength_35 : decode cX7_strength 35 = .ok (.invokestatic 91, 3) := by decide +kernel
theorem dX7_strength_38 : decode cX7_strength 38 = .ok (.aload_n 0, 1) := by decide +kernel
theorem dX7_strength_39 : decode cX7_strength 39 = .ok (.iload_n 3, 1) := by decide +kernel
theorem dX7_strength_40 : decode cX7_strength 40 = .ok (.iload 4, 2) := by decide +kernel
theorem dX7_strength_42 : decode cX7_strength 42 = .ok (.invokevirtual 95, 3) := by decide +kernel
theorem dX7_strength_45 : decode cX7_strength 45 = .ok (.iload 6, 2) := by decide +kernel
theorem dX7_strength_47 : decode cX7_strength 47 = .ok (.iload_n 1, 1) := by decide +kernel
theorem dX7_strength_48 : decode cX7_strength 48 = .ok (.invokevirtual 98, 3) := by decide +kernel
theorem dX7_strength_51 : decode cX7_strength 51 = .ok (.ireturn, 1) := by decide +kernel
theorem dX7_addEar_0 : decode cX7_addEar 0 = .ok (.aload_n 0, 1) := by decide +kernel
theorem dX7_addEar_1 : decode cX7_addEar 1 = .ok (.getfield 67, 3) := by decide +kernel
theorem dX7_addEar_4 : decode cX7_addEar 4 = .ok (.bipush 10, 2) := by decide +kernel
theorem dX7_addEar_6 : decode cX7_addEar 6 = .ok (.if_icmp .ge 23, 3) := by decide +kernel
theorem dX7_addEar_9 : decode cX7_addEar 9 = .ok (.aload_n 0, 1) := by decide +kernel
theorem dX7_addEar_10 : decode cX7_addEar 10 = .ok (.getfield 21, 3) := by decide +kernel
theorem dX7_addEar_13 : decode cX7_addEar 13 = .ok (.aload_n 0, 1) := by decide +kernel
theorem dX7_addEar_14 : decode cX7_addEar 14 = .ok (.getfield 67, 3) := by decide +kernel
theorem dX7_addEar_17 : decode cX7_addEar 17 = .ok (.iload_n 1, 1) := by decide +kernel
theorem dX7_addEar_18 : decode cX7_addEar 18 = .ok (.iastore, 1) := by decide +kernel
theorem dX7_addEar_19 : decode cX7_addEar 19 = .ok (.aload_n 0, 1) := by decide +kernel
theorem dX7_addEar_20 : decode cX7_addEar 20 = .ok (.dup, 1) := by decide +kernel
theorem dX7_addEar_21 : decode cX7_addEar 21 = .ok (.getfield 67, 3) := by decide +kernel
theorem dX7_addEar_24 : decode cX7_addEar 24 = .ok (.iconst 1, 1) := by decide +kernel
theorem dX7_addEar_25 : decode cX7_addEar 25 = .ok (.iadd, 1) := by decide +kernel
theorem dX7_addEar_26 : decode cX7_addEar 26 = .ok (.putfield 67, 3) := by decide +kernel
theorem dX7_addEar_29 : decode cX7_addEar 29 = .ok (.return_, 1) := by decide +kernel
theorem dX7_addByte_0 : decode cX7_addByte 0 = .ok (.aload_n 0, 1) := by decide +kernel
theorem dX7_addByte_1 : decode cX7_addByte 1 = .ok (.getfield 73, 3) := by decide +kernel
theorem dX7_addByte_4 : decode cX7_addByte 4 = .ok (.bipush 50, 2) := by decide +kernel
theorem dX7_addByte_6 : decode cX7_addByte 6 = .ok (.if_icmp .ge 23, 3) := by decide +kernel
theorem dX7_addByte_9 : decode cX7_addByte 9 = .ok (.aload_n 0, 1) := by decide +kernel
theorem dX7_addByte_10 : decode cX7_addByte 10 = .ok (.getfield 31, 3) := by decide +kernel
theorem dX7_addByte_13 : decode cX7_addByte 13 = .ok (.aload_n 0, 1) := by decide +kernel
theorem dX7_addByte_14 : decode cX7_addByte 14 = .ok (.getfield 73, 3) := by decide +kernel
theorem dX7_addByte_17 : decode cX7_addByte 17 = .ok (.iload_n 1, 1) := by decide +kernel
theorem dX7_addByte_18 : decode cX7_addByte 18 = .ok (.iastore, 1) := by decide +kernel
theorem dX7_addByte_19 : decode cX7_addByte 19 = .ok (.aload_n 0, 1) := by decide +kernel
theorem dX7_addByte_20 : decode cX7_addByte 20 = .ok (.dup, 1) := by decide +kernel
theorem dX7_addByte_21 : decode cX7_addByte 21 = .ok (.getfield 73, 3) := by decide +kernel
theorem dX7_addByte_24 : decode cX7_addByte 24 = .ok (.iconst 1, 1) := by decide +kernel
theorem dX7_addByte_25 : decode cX7_addByte 25 = .ok (.iadd, 1) := by decide +kernel
theorem dX7_addByte_26 : decode cX7_addByte 26 = .ok (.putfield 73, 3) := by decide +kernel
theorem dX7_addByte_29 : decode cX7_addByte 29 = .ok (.return_, 1) := by decide +kernel
theorem dX7_silentCount_0 : decode cX7_silentCount 0 = .ok (.iconst 0, 1) := by decide +kernel
theorem dX7_silentCount_1 : decode cX7_silentCount 1 = .ok (.istore_n 1, 1) := by decide +kernel
theorem dX7_silentCount_2 : decode cX7_silentCount 2 = .ok (.iconst 0, 1) := by decide +kernel
theorem dX7_silentCount_3 : decode cX7_silentCount 3 = .ok (.istore_n 2, 1) := by decide +kernel
theorem dX7_silentCount_4 : decode cX7_silentCount 4 = .ok (.iload_n 2, 1) := by decide +kernel
theorem dX7_silentCount_5 : decode cX7_silentCount 5 = .ok (.aload_n 0, 1) := by decide +kernel
theorem dX7_silentCount_6 : decode cX7_silentCount 6 = .ok (.getfield 64, 3) := by decide +kernel
theorem dX7_silentCount_9 : decode cX7_silentCount 9 = .ok (.if_icmp .ge 21, 3) := by decide +kernel
theorem dX7_silentCount_12 : decode cX7_silentCount 12 = .ok (.iload_n 1, 1) := by decide +kernel
theorem dX7_silentCount_13 : decode cX7_silentCount 13 = .ok (.aload_n 0, 1) := by decide +kernel
theorem dX7_silentCount_14 : decode cX7_silentCount 14 = .ok (.getfield 17, 3) := by decide +kernel
theorem dX7_silentCount_17 : decode cX7_silentCount 17 = .ok (.iload_n 2, 1) := by decide +kernel
theorem dX7_silentCount_18 : decode cX7_silentCount 18 = .ok (.aaload, 1) := by decide +kernel
theorem dX7_silentCount_19 : decode cX7_silentCount 19 = .ok (.getfield 102, 3) := by decide +kernel
theorem dX7_silentCount_22 : decode cX7_silentCount 22 = .ok (.iadd, 1) := by decide +kernel
theorem dX7_silentCount_23 : decode cX7_silentCount 23 = .ok (.istore_n 1, 1) := by decide +kernel
theorem dX7_silentCount_24 : decode cX7_silentCount 24 = .ok (.iinc 2 1, 3) := by decide +kernel
theorem dX7_silentCount_27 : decode cX7_silentCount 27 = .ok (.goto (-23), 3) := by decide +kernel
theorem dX7_silentCount_30 : decode cX7_silentCount 30 = .ok (.iload_n 1, 1) := by decide +kernel
theorem dX7_silentCount_31 : decode cX7_silentCount 31 = .ok (.ireturn, 1) := by decide +kernel
theorem dX7_ranksOf_0 : decode cX7_ranksOf 0 = .ok (.iconst 0, 1) := by decide +kernel
theorem dX7_ranksOf_1 : decode cX7_ranksOf 1 = .ok (.istore_n 2, 1) := by decide +kernel
theorem dX7_ranksOf_2 : decode cX7_ranksOf 2 = .ok (.iconst 0, 1) := by decide +kernel
theorem dX7_ranksOf_3 : decode cX7_ranksOf 3 = .ok (.istore_n 3, 1) := by decide +kernel
theorem dX7_ranksOf_4 : decode cX7_ranksOf 4 = .ok (.iload_n 3, 1) := by decide +kernel
theorem dX7_ranksOf_5 : decode cX7_ranksOf 5 = .ok (.aload_n 0, 1) := by decide +kernel
theorem dX7_ranksOf_6 : decode cX7_ranksOf 6 = .ok (.getfield 64, 3) := by decide +kernel
theorem dX7_ranksOf_9 : decode cX7_ranksOf 9 = .ok (.if_icmp .ge 29, 3) := by decide +kernel
theorem dX7_ranksOf_12 : decode cX7_ranksOf 12 = .ok (.iload_n 1, 1) := by decide +kernel
theorem dX7_ranksOf_13 : decode cX7_ranksOf 13 = .ok (.iload_n 3, 1) := by decide +kernel
theorem dX7_ranksOf_14 : decode cX7_ranksOf 14 = .ok (.ishr, 1) := by decide +kernel
theorem dX7_ranksOf_15 : decode cX7_ranksOf 15 = .ok (.iconst 1, 1) := by decide +kernel
theorem dX7_ranksOf_16 : decode cX7_ranksOf 16 = .ok (.iand, 1) := by decide +kernel
theorem dX7_ranksOf_17 : decode cX7_ranksOf 17 = .ok (.ifCond .eq 15, 3) := by decide +kernel
theorem dX7_ranksOf_20 : decode cX7_ranksOf 20 = .ok (.iload_n 2, 1) := by decide +kernel
theorem dX7_ranksOf_21 : decode cX7_ranksOf 21 = .ok (.aload_n 0, 1) := by decide +kernel
theorem dX7_ranksOf_22 : decode cX7_ranksOf 22 = .ok (.getfield 17, 3) := by decide +kernel
theorem dX7_ranksOf_25 : decode cX7_ranksOf 25 = .ok (.iload_n 3, 1) := by decide +kernel
theorem dX7_ranksOf_26 : decode cX7_ranksOf 26 = .ok (.aaload, 1) := by decide +kernel
theorem dX7_ranksOf_27 : decode cX7_ranksOf 27 = .ok (.getfield 105, 3) := by decide +kernel
theorem dX7_ranksOf_30 : decode cX7_ranksOf 30 = .ok (.iadd, 1) := by decide +kernel
theorem dX7_ranksOf_31 : decode cX7_ranksOf 31 = .ok (.istore_n 2, 1) := by decide +kernel
theorem dX7_ranksOf_32 : decode cX7_ranksOf 32 = .ok (.iinc 3 1, 3) := by decide +kernel
theorem dX7_ranksOf_35 : decode cX7_ranksOf 35 = .ok (.goto (-31), 3) := by decide +kernel
theorem dX7_ranksOf_38 : decode cX7_ranksOf 38 = .ok (.iload_n 2, 1) := by decide +kernel
theorem dX7_ranksOf_39 : decode cX7_ranksOf 39 = .ok (.ireturn, 1) := by decide +kernel
theorem dX7_spotsTogether_0 : decode cX7_spotsTogether 0 = .ok (.iconst 0, 1) := by decide +kernel
theorem dX7_spotsTogether_1 : decode cX7_spotsTogether 1 = .ok (.istore_n 1, 1) := by decide +kernel
theorem dX7_spotsTogether_2 : decode cX7_spotsTogether 2 = .ok (.iconst 0, 1) := by decide +kernel
theorem dX7_spotsTogether_3 : decode cX7_spotsTogether 3 = .ok (.istore_n 2, 1) := by decide +kernel
theorem dX7_spotsTogether_4 : decode cX7_spotsTogether 4 = .ok (.iload_n 2, 1) := by decide +kernel
theorem dX7_spotsTogether_5 : decode cX7_spotsTogether 5 = .ok (.aload_n 0, 1) := by decide +kernel
theorem dX7_spotsTogether_6 : decode cX7_spotsTogether 6 = .ok (.getfield 64, 3) := by decide +kernel
theorem dX7_spotsTogether_9 : decode cX7_spotsTogether 9 = .ok (.if_icmp .ge 21, 3) := by decide +kernel
theorem dX7_spotsTogether_12 : decode cX7_spotsTogether 12 = .ok (.iload_n 1, 1) := by decide +kernel
theorem dX7_spotsTogether_13 : decode cX7_spotsTogether 13 = .ok (.aload_n 0, 1) := by decide +kernel
theorem dX7_spotsTogether_14 : decode cX7_spotsTogether 14 = .ok (.getfield 17, 3) := by decide +kernel
theorem dX7_spotsTogether_17 : decode cX7_spotsTogether 17 = .ok (.iload_n 2, 1) := by decide +kernel
theorem dX7_spotsTogether_18 : decode cX7_spotsTogether 18 = .ok (.aaload, 1) := by decide +kernel
theorem dX7_spotsTogether_19 : decode cX7_spotsTogether 19 = .ok (.getfield 108, 3) := by decide +kernel
theorem dX7_spotsTogether_22 : decode cX7_spotsTogether 22 = .ok (.iadd, 1) := by decide +kernel
theorem dX7_spotsTogether_23 : decode cX7_spotsTogether 23 = .ok (.istore_n 1, 1) := by decide +kernel
theorem dX7_spotsTogether_24 : decode cX7_spotsTogether 24 = .ok (.iinc 2 1, 3) := by decide +kernel
theorem dX7_spotsTogether_27 : decode cX7_spotsTogether 27 = .ok (.goto (-23), 3) := by decide +kernel
theorem dX7_spotsTogether_30 : decode cX7_spotsTogether 30 = .ok (.iload_n 1, 1) := by decide +kernel
theorem dX7_spotsTogether_31 : decode cX7_spotsTogether 31 = .ok (.ireturn, 1) := by decide +kernel
theorem dX7_grazedSpot_0 : decode cX7_grazedSpot 0 = .ok (.aload_n 0, 1) := by decide +kernel
theorem dX7_grazedSpot_1 : decode cX7_grazedSpot 1 = .ok (.getfield 41, 3) := by decide +kernel
theorem dX7_grazedSpot_4 : decode cX7_grazedSpot 4 = .ok (.iload_n 1, 1) := by decide +kernel
theorem dX7_grazedSpot_5 : decode cX7_grazedSpot 5 = .ok (.iload_n 2, 1) := by decide +kernel
theorem dX7_grazedSpot_6 : decode cX7_grazedSpot 6 = .ok (.iload_n 3, 1) := by decide +kernel
theorem dX7_grazedSpot_7 : decode cX7_grazedSpot 7 = .ok (.iconst 0, 1) := by decide +kernel
theorem dX7_grazedSpot_8 : decode cX7_grazedSpot 8 = .ok (.iconst 0, 1) := by decide +kernel
theorem dX7_grazedSpot_9 : decode cX7_grazedSpot 9 = .ok (.invokevirtual 98, 3) := by decide +kernel
theorem dX7_grazedSpot_12 : decode cX7_grazedSpot 12 = .ok (.iconst 0, 1) := by decide +kernel
theorem dX7_grazedSpot_13 : decode cX7_grazedSpot 13 = .ok (.bipush 99, 2) := by decide +kernel
theorem dX7_grazedSpot_15 : decode cX7_grazedSpot 15 = .ok (.invokestatic 111, 3) := by decide +kernel
theorem dX7_grazedSpot_18 : decode cX7_grazedSpot 18 = .ok (.ireturn, 1) := by decide +kernel
theorem dX7_goDays_0 : decode cX7_goDays 0 = .ok (.iconst 0, 1) := by decide +kernel
theorem dX7_goDays_1 : decode cX7_goDays 1 = .ok (.istore_n 2, 1) := by decide +kernel
theorem dX7_goDays_2 : decode cX7_goDays 2 = .ok (.iload_n 2, 1) := by decide +kernel
theorem dX7_goDays_3 : decode cX7_goDays 3 = .ok (.iload_n 1, 1) := by decide +kernel
theorem dX7_goDays_4 : decode cX7_goDays 4 = .ok (.if_icmp .ge 76, 3) := by decide +kernel
theorem dX7_goDays_7 : decode cX7_goDays 7 = .ok (.iconst 0, 1) := by decide +kernel
theorem dX7_goDays_8 : decode cX7_goDays 8 = .ok (.istore_n 3, 1) := by decide +kernel
theorem dX7_goDays_9 : decode cX7_goDays 9 = .ok (.iload_n 3, 1) := by decide +kernel
theorem dX7_goDays_10 : decode cX7_goDays 10 = .ok (.aload_n 0, 1) := by decide +kernel
theorem dX7_goDays_11 : decode cX7_goDays 11 = .ok (.getfield 64, 3) := by decide +kernel
theorem dX7_goDays_14 : decode cX7_goDays 14 = .ok (.if_icmp .ge 60, 3) := by decide +kernel
theorem dX7_goDays_17 : decode cX7_goDays 17 = .ok (.aload_n 0, 1) := by decide +kernel
theorem dX7_goDays_18 : decode cX7_goDays 18 = .ok (.getfield 17, 3) := by decide +kernel
theorem dX7_goDays_21 : decode cX7_goDays 21 = .ok (.iload_n 3, 1) := by decide +kernel
theorem dX7_goDays_22 : decode cX7_goDays 22 = .ok (.aaload, 1) := by decide +kernel
theorem dX7_goDays_23 : decode cX7_goDays 23 = .ok (.iconst 3, 1) := by decide +kernel
theorem dX7_goDays_24 : decode cX7_goDays 24 = .ok (.invokevirtual 115, 3) := by decide +kernel
theorem dX7_goDays_27 : decode cX7_goDays 27 = .ok (.ifCond .eq 41, 3) := by decide +kernel
theorem dX7_goDays_30 : decode cX7_goDays 30 = .ok (.aload_n 0, 1) := by decide +kernel
theorem dX7_goDays_31 : decode cX7_goDays 31 = .ok (.getfield 17, 3) := by decide +kernel
theorem dX7_goDays_34 : decode cX7_goDays 34 = .ok (.iload_n 3, 1) := by decide +kernel
theorem dX7_goDays_35 : decode cX7_goDays 35 = .ok (.aaload, 1) := by decide +kernel
theorem dX7_goDays_36 : decode cX7_goDays 36 = .ok (.aload_n 0, 1) := by decide +kernel
theorem dX7_goDays_37 : decode cX7_goDays 37 = .ok (.aload_n 0, 1) := by decide +kernel
theorem dX7_goDays_38 : decode cX7_goDays 38 = .ok (.getfield 17, 3) := by decide +kernel
theorem dX7_goDays_41 : decode cX7_goDays 41 = .ok (.iload_n 3, 1) := by decide +kernel
theorem dX7_goDays_42 : decode cX7_goDays 42 = .ok (.aaload, 1) := by decide +kernel
theorem dX7_goDays_43 : decode cX7_goDays 43 = .ok (.getfield 108, 3) := by decide +kernel
theorem dX7_goDays_46 : decode cX7_goDays 46 = .ok (.aload_n 0, 1) := by decide +kernel
theorem dX7_goDays_47 : decode cX7_goDays 47 = .ok (.invokevirtual 119, 3) := by decide +kernel
theorem dX7_goDays_50 : decode cX7_goDays 50 = .ok (.bipush 7, 2) := by decide +kernel
theorem dX7_goDays_52 : decode cX7_goDays 52 = .ok (.irem, 1) := by decide +kernel
theorem dX7_goDays_53 : decode cX7_goDays 53 = .ok (.aload_n 0, 1) := by decide +kernel
theorem dX7_goDays_54 : decode cX7_goDays 54 = .ok (.getfield 17, 3) := by decide +kernel
theorem dX7_goDays_57 : decode cX7_goDays 57 = .ok (.iload_n 3, 1) := by decide +kernel
theorem dX7_goDays_58 : decode cX7_goDays 58 = .ok (.aaload, 1) := by decide +kernel
theorem dX7_goDays_59 : decode cX7_goDays 59 = .ok (.getfield 123, 3) := by decide +kernel
theorem dX7_goDays_62 : decode cX7_goDays 62 = .ok (.invokevirtual 126, 3) := by decide +kernel
theorem dX7_goDays_65 : decode cX7_goDays 65 = .ok (.putfield 108, 3) := by decide +kernel
theorem dX7_goDays_68 : decode cX7_goDays 68 = .ok (.iinc 3 1, 3) := by decide +kernel
theorem dX7_goDays_71 : decode cX7_goDays 71 = .ok (.goto (-62), 3) := by decide +kernel
theorem dX7_goDays_74 : decode cX7_goDays 74 = .ok (.iinc 2 1, 3) := by decide +kernel
theorem dX7_goDays_77 : decode cX7_goDays 77 = .ok (.goto (-75), 3) := by decide +kernel
theorem dX7_goDays_80 : decode cX7_goDays 80 = .ok (.return_, 1) := by decide +kernel
theorem dX7_spotAhead_0 : decode cX7_spotAhead 0 = .ok (.aload_n 0, 1) := by decide +kernel
theorem dX7_spotAhead_1 : decode cX7_spotAhead 1 = .ok (.getfield 44, 3) := by decide +kernel
theorem dX7_spotAhead_4 : decode cX7_spotAhead 4 = .ok (.istore_n 3, 1) := by decide +kernel
theorem dX7_spotAhead_5 : decode cX7_spotAhead 5 = .ok (.iconst 0, 1) := by decide +kernel
theorem dX7_spotAhead_6 : decode cX7_spotAhead 6 = .ok (.istore 4, 2) := by decide +kernel
theorem dX7_spotAhead_8 : decode cX7_spotAhead 8 = .ok (.iload 4, 2) := by decide +kernel
theorem dX7_spotAhead_10 : decode cX7_spotAhead 10 = .ok (.aload_n 0, 1) := by decide +kernel
theorem dX7_spotAhead_11 : decode cX7_spotAhead 11 = .ok (.getfield 64, 3) := by decide +kernel
theorem dX7_spotAhead_14 : decode cX7_spotAhead 14 = .ok (.if_icmp .ge 26, 3) := by decide +kernel
theorem dX7_spotAhead_17 : decode cX7_spotAhead 17 = .ok (.aload_n 0, 1) := by decide +kernel
theorem dX7_spotAhead_18 : decode cX7_spotAhead 18 = .ok (.getfield 50, 3) := by decide +kernel
theorem dX7_spotAhead_21 : decode cX7_spotAhead 21 = .ok (.iload 4, 2) := by decide +kernel
theorem dX7_spotAhead_23 : decode cX7_spotAhead 23 = .ok (.aload_n 0, 1) := by decide +kernel
theorem dX7_spotAhead_24 : decode cX7_spotAhead 24 = .ok (.getfield 17, 3) := by decide +kernel
theorem dX7_spotAhead_27 : decode cX7_spotAhead 27 = .ok (.iload 4, 2) := by decide +kernel
theorem dX7_spotAhead_29 : decode cX7_spotAhead 29 = .ok (.aaload, 1) := by decide +kernel
theorem dX7_spotAhead_30 : decode cX7_spotAhead 30 = .ok (.getfield 108, 3) := by decide +kernel
theorem dX7_spotAhead_33 : decode cX7_spotAhead 33 = .ok (.iastore, 1) := by decide +kernel
theorem dX7_spotAhead_34 : decode cX7_spotAhead 34 = .ok (.iinc 4 1, 3) := by decide +kernel
theorem dX7_spotAhead_37 : decode cX7_spotAhead 37 = .ok (.goto (-29), 3) := by decide +kernel
theorem dX7_spotAhead_40 : decode cX7_spotAhead 40 = .ok (.aload_n 0, 1) := by decide +kernel
theorem dX7_spotAhead_41 : decode cX7_spotAhead 41 = .ok (.iload_n 1, 1) := by decide +kernel
theorem dX7_spotAhead_42 : decode cX7_spotAhead 42 = .ok (.invokevirtual 129, 3) := by decide +kernel
theorem dX7_spotAhead_45 : decode cX7_spotAhead 45 = .ok (.aload_n 0, 1) := by decide +kernel
theorem dX7_spotAhead_46 : decode cX7_spotAhead 46 = .ok (.getfield 17, 3) := by decide +kernel
theorem dX7_spotAhead_49 : decode cX7_spotAhead 49 = .ok (.iload_n 2, 1) := by decide +kernel
theorem dX7_spotAhead_50 : decode cX7_spotAhead 50 = .ok (.aaload, 1) := by decide +kernel
theorem dX7_spotAhead_51 : decode cX7_spotAhead 51 = .ok (.getfield 108, 3) := by decide +kernel
theorem dX7_spotAhead_54 : decode cX7_spotAhead 54 = .ok (.istore 4, 2) := by decide +kernel
theorem dX7_spotAhead_56 : decode cX7_spotAhead 56 = .ok (.aload_n 0, 1) := by decide +kernel
theorem dX7_spotAhead_57 : decode cX7_spotAhead 57 = .ok (.iload_n 3, 1) := by decide +kernel
theorem dX7_spotAhead_58 : decode cX7_spotAhead 58 = .ok (.putfield 44, 3) := by decide +kernel
theorem dX7_spotAhead_61 : decode cX7_spotAhead 61 = .ok (.iconst 0, 1) := by decide +kernel
theorem dX7_spotAhead_62 : decode cX7_spotAhead 62 = .ok (.istore 5, 2) := by decide +kernel
theorem dX7_spotAhead_64 : decode cX7_spotAhead 64 = .ok (.iload 5, 2) := by decide +kernel
theorem dX7_spotAhead_66 : decode cX7_spotAhead 66 = .ok (.aload_n 0, 1) := by decide +kernel
theorem dX7_spotAhead_67 : decode cX7_spotAhead 67 = .ok (.getfield 64, 3) := by decide +kernel
theorem dX7_spotAhead_70 : decode cX7_spotAhead 70 = .ok (.if_icmp .ge 26, 3) := by decide +kernel
theorem dX7_spotAhead_73 : decode cX7_spotAhead 73 = .ok (.aload_n 0, 1) := by decide +kernel
theorem dX7_spotAhead_74 : decode cX7_spotAhead 74 = .ok (.getfield 17, 3) := by decide +kernel
theorem dX7_spotAhead_77 : decode cX7_spotAhead 77 = .ok (.iload 5, 2) := by decide +kernel
theorem dX7_spotAhead_79 : decode cX7_spotAhead 79 = .ok (.aaload, 1) := by decide +kernel
theorem dX7_spotAhead_80 : decode cX7_spotAhead 80 = .ok (.aload_n 0, 1) := by decide +kernel
theorem dX7_spotAhead_81 : decode cX7_spotAhead 81 = .ok (.getfield 50, 3) := by decide +kernel
theorem dX7_spotAhead_84 : decode cX7_spotAhead 84 = .ok (.iload 5, 2) := by decide +kernel
theorem dX7_spotAhead_86 : decode cX7_spotAhead 86 = .ok (.iaload, 1) := by decide +kernel
theorem dX7_spotAhead_87 : decode cX7_spotAhead 87 = .ok (.putfield 108, 3) := by decide +kernel
theorem dX7_spotAhead_90 : decode cX7_spotAhead 90 = .ok (.iinc 5 1, 3) := by decide +kernel
theorem dX7_spotAhead_93 : decode cX7_spotAhead 93 = .ok (.goto (-29), 3) := by decide +kernel
theorem dX7_spotAhead_96 : decode cX7_spotAhead 96 = .ok (.iload 4, 2) := by decide +kernel
theorem dX7_spotAhead_98 : decode cX7_spotAhead 98 = .ok (.ireturn, 1) := by decide +kernel
theorem dX7_draw_0 : decode cX7_draw 0 = .ok (.aload_n 0, 1) := by decide +kernel
theorem dX7_draw_1 : decode cX7_draw 1 = .ok (.aload_n 0, 1) := by decide +kernel
theorem dX7_draw_2 : decode cX7_draw 2 = .ok (.getfield 44, 3) := by decide +kernel
theorem dX7_draw_5 : decode cX7_draw 5 = .ok (.ldc 133, 2) := by decide +kernel
theorem dX7_draw_7 : decode cX7_draw 7 = .ok (.imul, 1) := by decide +kernel
theorem dX7_draw_8 : decode cX7_draw 8 = .ok (.sipush 12345, 3) := by decide +kernel
theorem dX7_draw_11 : decode cX7_draw 11 = .ok (.iadd, 1) := by decide +kernel
theorem dX7_draw_12 : decode cX7_draw 12 = .ok (.putfield 44, 3) := by decide +kernel
theorem dX7_draw_15 : decode cX7_draw 15 = .ok (.aload_n 0, 1) := by decide +kernel
theorem dX7_draw_16 : decode cX7_draw 16 = .ok (.getfield 44, 3) := by decide +kernel
theorem dX7_draw_19 : decode cX7_draw 19 = .ok (.bipush 8, 2) := by decide +kernel
theorem dX7_draw_21 : decode cX7_draw 21 = .ok (.iushr, 1) := by decide +kernel
theorem dX7_draw_22 : decode cX7_draw 22 = .ok (.ireturn, 1) := by decide +kernel
