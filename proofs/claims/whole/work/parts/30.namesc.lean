theorem dX3_init_0 : decode cX3_init 0 = .ok (.aload_n 0, 1) := by decide +kernel
theorem dX3_init_1 : decode cX3_init 1 = .ok (.invokespecial 1, 3) := by decide +kernel
theorem dX3_init_4 : decode cX3_init 4 = .ok (.aload_n 0, 1) := by decide +kernel
theorem dX3_init_5 : decode cX3_init 5 = .ok (.bipush 16, 2) := by decide +kernel
theorem dX3_init_7 : decode cX3_init 7 = .ok (.newarray .int, 2) := by decide +kernel
theorem dX3_init_9 : decode cX3_init 9 = .ok (.putfield 7, 3) := by decide +kernel
theorem dX3_init_12 : decode cX3_init 12 = .ok (.aload_n 0, 1) := by decide +kernel
theorem dX3_init_13 : decode cX3_init 13 = .ok (.bipush 8, 2) := by decide +kernel
theorem dX3_init_15 : decode cX3_init 15 = .ok (.newarray .int, 2) := by decide +kernel
theorem dX3_init_17 : decode cX3_init 17 = .ok (.putfield 13, 3) := by decide +kernel
theorem dX3_init_20 : decode cX3_init 20 = .ok (.aload_n 0, 1) := by decide +kernel
theorem dX3_init_21 : decode cX3_init 21 = .ok (.bipush 8, 2) := by decide +kernel
theorem dX3_init_23 : decode cX3_init 23 = .ok (.newarray .int, 2) := by decide +kernel
theorem dX3_init_25 : decode cX3_init 25 = .ok (.putfield 16, 3) := by decide +kernel
theorem dX3_init_28 : decode cX3_init 28 = .ok (.aload_n 0, 1) := by decide +kernel
theorem dX3_init_29 : decode cX3_init 29 = .ok (.bipush 8, 2) := by decide +kernel
theorem dX3_init_31 : decode cX3_init 31 = .ok (.newarray .int, 2) := by decide +kernel
theorem dX3_init_33 : decode cX3_init 33 = .ok (.putfield 19, 3) := by decide +kernel
theorem dX3_init_36 : decode cX3_init 36 = .ok (.aload_n 0, 1) := by decide +kernel
theorem dX3_init_37 : decode cX3_init 37 = .ok (.bipush 8, 2) := by decide +kernel
theorem dX3_init_39 : decode cX3_init 39 = .ok (.newarray .int, 2) := by decide +kernel
theorem dX3_init_41 : decode cX3_init 41 = .ok (.putfield 22, 3) := by decide +kernel
theorem dX3_init_44 : decode cX3_init 44 = .ok (.aload_n 0, 1) := by decide +kernel
theorem dX3_init_45 : decode cX3_init 45 = .ok (.bipush 8, 2) := by decide +kernel
theorem dX3_init_47 : decode cX3_init 47 = .ok (.newarray .int, 2) := by decide +kernel
theorem dX3_init_49 : decode cX3_init 49 = .ok (.putfield 25, 3) := by decide +kernel
theorem dX3_init_52 : decode cX3_init 52 = .ok (.aload_n 0, 1) := by decide +kernel
theorem dX3_init_53 : decode cX3_init 53 = .ok (.bipush 8, 2) := by decide +kernel
theorem dX3_init_55 : decode cX3_init 55 = .ok (.newarray .int, 2) := by decide +kernel
theorem dX3_init_57 : decode cX3_init 57 = .ok (.putfield 28, 3) := by decide +kernel
theorem dX3_init_60 : decode cX3_init 60 = .ok (.aload_n 0, 1) := by decide +kernel
theorem dX3_init_61 : decode cX3_init 61 = .ok (.bipush 8, 2) := by decide +kernel
theorem dX3_init_63 : decode cX3_init 63 = .ok (.newarray .int, 2) := by decide +kernel
theorem dX3_init_65 : decode cX3_init 65 = .ok (.putfield 31, 3) := by decide +kernel
theorem dX3_init_68 : decode cX3_init 68 = .ok (.aload_n 0, 1) := by decide +kernel
theorem dX3_init_69 : decode cX3_init 69 = .ok (.bipush 8, 2) := by decide +kernel
theorem dX3_init_71 : decode cX3_init 71 = .ok (.newarray .int, 2) := by decide +kernel
theorem dX3_init_73 : decode cX3_init 73 = .ok (.putfield 34, 3) := by decide +kernel
theorem dX3_init_76 : decode cX3_init 76 = .ok (.aload_n 0, 1) := by decide +kernel
theorem dX3_init_77 : decode cX3_init 77 = .ok (.bipush 8, 2) := by decide +kernel
theorem dX3_init_79 : decode cX3_init 79 = .ok (.newarray .int, 2) := by decide +kernel
theorem dX3_init_81 : decode cX3_init 81 = .ok (.putfield 37, 3) := by decide +kernel
theorem dX3_init_84 : decode cX3_init 84 = .ok (.aload_n 0, 1) := by decide +kernel
theorem dX3_init_85 : decode cX3_init 85 = .ok (.bipush 8, 2) := by decide +kernel
theorem dX3_init_87 : decode cX3_init 87 = .ok (.newarray .int, 2) := by decide +kernel
theorem dX3_init_89 : decode cX3_init 89 = .ok (.putfield 40, 3) := by decide +kernel
theorem dX3_init_92 : decode cX3_init 92 = .ok (.aload_n 0, 1) := by decide +kernel
theorem dX3_init_93 : decode cX3_init 93 = .ok (.sipush 128, 3) := by decide +kernel
theorem dX3_init_96 : decode cX3_init 96 = .ok (.newarray .int, 2) := by decide +kernel
theorem dX3_init_98 : decode cX3_init 98 = .ok (.putfield 43, 3) := by decide +kernel
theorem dX3_init_101 : decode cX3_init 101 = .ok (.iconst 0, 1) := by decide +kernel
theorem dX3_init_102 : decode cX3_init 102 = .ok (.istore_n 1, 1) := by decide +kernel
theorem dX3_init_103 : decode cX3_init 103 = .ok (.iload_n 1, 1) := by decide +kernel
theorem dX3_init_104 : decode cX3_init 104 = .ok (.bipush 8, 2) := by decide +kernel
theorem dX3_init_106 : decode cX3_init 106 = .ok (.if_icmp .ge 16, 3) := by decide +kernel
theorem dX3_init_109 : decode cX3_init 109 = .ok (.aload_n 0, 1) := by decide +kernel
theorem dX3_init_110 : decode cX3_init 110 = .ok (.getfield 19, 3) := by decide +kernel
theorem dX3_init_113 : decode cX3_init 113 = .ok (.iload_n 1, 1) := by decide +kernel
theorem dX3_init_114 : decode cX3_init 114 = .ok (.iconst (-1), 1) := by decide +kernel
theorem dX3_init_115 : decode cX3_init 115 = .ok (.iastore, 1) := by decide +kernel
theorem dX3_init_116 : decode cX3_init 116 = .ok (.iinc 1 1, 3) := by decide +kernel
theorem dX3_init_119 : decode cX3_init 119 = .ok (.goto (-16), 3) := by decide +kernel
theorem dX3_init_122 : decode cX3_init 122 = .ok (.return_, 1) := by decide +kernel
theorem dX3_thrown_0 : decode cX3_thrown 0 = .ok (.aload_n 0, 1) := by decide +kernel
theorem dX3_thrown_1 : decode cX3_thrown 1 = .ok (.getfield 46, 3) := by decide +kernel
theorem dX3_thrown_4 : decode cX3_thrown 4 = .ok (.ireturn, 1) := by decide +kernel
theorem dX3_fails_0 : decode cX3_fails 0 = .ok (.aload_n 0, 1) := by decide +kernel
theorem dX3_fails_1 : decode cX3_fails 1 = .ok (.iload_n 1, 1) := by decide +kernel
theorem dX3_fails_2 : decode cX3_fails 2 = .ok (.putfield 46, 3) := by decide +kernel
theorem dX3_fails_5 : decode cX3_fails 5 = .ok (.iconst 0, 1) := by decide +kernel
theorem dX3_fails_6 : decode cX3_fails 6 = .ok (.ireturn, 1) := by decide +kernel
theorem dX3_asks_0 : decode cX3_asks 0 = .ok (.aload_n 0, 1) := by decide +kernel
theorem dX3_asks_1 : decode cX3_asks 1 = .ok (.iload_n 1, 1) := by decide +kernel
theorem dX3_asks_2 : decode cX3_asks 2 = .ok (.ifCond .eq 7, 3) := by decide +kernel
theorem dX3_asks_5 : decode cX3_asks 5 = .ok (.iconst 0, 1) := by decide +kernel
theorem dX3_asks_6 : decode cX3_asks 6 = .ok (.goto 4, 3) := by decide +kernel
theorem dX3_asks_9 : decode cX3_asks 9 = .ok (.iconst 1, 1) := by decide +kernel
theorem dX3_asks_10 : decode cX3_asks 10 = .ok (.putfield 46, 3) := by decide +kernel
theorem dX3_asks_13 : decode cX3_asks 13 = .ok (.iload_n 1, 1) := by decide +kernel
theorem dX3_asks_14 : decode cX3_asks 14 = .ok (.ireturn, 1) := by decide +kernel
theorem dX3_isThread_0 : decode cX3_isThread 0 = .ok (.iload_n 0, 1) := by decide +kernel
theorem dX3_isThread_1 : decode cX3_isThread 1 = .ok (.ifCond .lt 13, 3) := by decide +kernel
theorem dX3_isThread_4 : decode cX3_isThread 4 = .ok (.iload_n 0, 1) := by decide +kernel
theorem dX3_isThread_5 : decode cX3_isThread 5 = .ok (.bipush 8, 2) := by decide +kernel
theorem dX3_isThread_7 : decode cX3_isThread 7 = .ok (.if_icmp .ge 7, 3) := by decide +kernel
theorem dX3_isThread_10 : decode cX3_isThread 10 = .ok (.iconst 1, 1) := by decide +kernel
theorem dX3_isThread_11 : decode cX3_isThread 11 = .ok (.goto 4, 3) := by decide +kernel
theorem dX3_isThread_14 : decode cX3_isThread 14 = .ok (.iconst 0, 1) := by decide +kernel
theorem dX3_isThread_15 : decode cX3_isThread 15 = .ok (.ireturn, 1) := by decide +kernel
theorem dX3_isAddress_0 : decode cX3_isAddress 0 = .ok (.iload_n 0, 1) := by decide +kernel
theorem dX3_isAddress_1 : decode cX3_isAddress 1 = .ok (.ifCond .lt 13, 3) := by decide +kernel
theorem dX3_isAddress_4 : decode cX3_isAddress 4 = .ok (.iload_n 0, 1) := by decide +kernel
theorem dX3_isAddress_5 : decode cX3_isAddress 5 = .ok (.bipush 16, 2) := by decide +kernel
theorem dX3_isAddress_7 : decode cX3_isAddress 7 = .ok (.if_icmp .ge 7, 3) := by decide +kernel
theorem dX3_isAddress_10 : decode cX3_isAddress 10 = .ok (.iconst 1, 1) := by decide +kernel
theorem dX3_isAddress_11 : decode cX3_isAddress 11 = .ok (.goto 4, 3) := by decide +kernel
theorem dX3_isAddress_14 : decode cX3_isAddress 14 = .ok (.iconst 0, 1) := by decide +kernel
theorem dX3_isAddress_15 : decode cX3_isAddress 15 = .ok (.ireturn, 1) := by decide +kernel
theorem dX3_bucketOf_0 : decode cX3_bucketOf 0 = .ok (.iload_n 0, 1) := by decide +kernel
theorem dX3_bucketOf_1 : decode cX3_bucketOf 1 = .ok (.iload_n 0, 1) := by decide +kernel
theorem dX3_bucketOf_2 : decode cX3_bucketOf 2 = .ok (.iconst 4, 1) := by decide +kernel
theorem dX3_bucketOf_3 : decode cX3_bucketOf 3 = .ok (.idiv, 1) := by decide +kernel
theorem dX3_bucketOf_4 : decode cX3_bucketOf 4 = .ok (.iadd, 1) := by decide +kernel
theorem dX3_bucketOf_5 : decode cX3_bucketOf 5 = .ok (.iconst 4, 1) := by decide +kernel
theorem dX3_bucketOf_6 : decode cX3_bucketOf 6 = .ok (.irem, 1) := by decide +kernel
theorem dX3_bucketOf_7 : decode cX3_bucketOf 7 = .ok (.ireturn, 1) := by decide +kernel
theorem dX3_isQueued_0 : decode cX3_isQueued 0 = .ok (.aload_n 0, 1) := by decide +kernel
theorem dX3_isQueued_1 : decode cX3_isQueued 1 = .ok (.getfield 13, 3) := by decide +kernel
theorem dX3_isQueued_4 : decode cX3_isQueued 4 = .ok (.iload_n 1, 1) := by decide +kernel
theorem dX3_isQueued_5 : decode cX3_isQueued 5 = .ok (.iaload, 1) := by decide +kernel
theorem dX3_isQueued_6 : decode cX3_isQueued 6 = .ok (.iconst 1, 1) := by decide +kernel
theorem dX3_isQueued_7 : decode cX3_isQueued 7 = .ok (.if_icmp .eq 13, 3) := by decide +kernel
theorem dX3_isQueued_10 : decode cX3_isQueued 10 = .ok (.aload_n 0, 1) := by decide +kernel
theorem dX3_isQueued_11 : decode cX3_isQueued 11 = .ok (.getfield 13, 3) := by decide +kernel
theorem dX3_isQueued_14 : decode cX3_isQueued 14 = .ok (.iload_n 1, 1) := by decide +kernel
theorem dX3_isQueued_15 : decode cX3_isQueued 15 = .ok (.iaload, 1) := by decide +kernel
theorem dX3_isQueued_16 : decode cX3_isQueued 16 = .ok (.iconst 2, 1) := by decide +kernel
theorem dX3_isQueued_17 : decode cX3_isQueued 17 = .ok (.if_icmp .ne 7, 3) := by decide +kernel
theorem dX3_isQueued_20 : decode cX3_isQueued 20 = .ok (.iconst 1, 1) := by decide +kernel
theorem dX3_isQueued_21 : decode cX3_isQueued 21 = .ok (.goto 4, 3) := by decide +kernel
theorem dX3_isQueued_24 : decode cX3_isQueued 24 = .ok (.iconst 0, 1) := by decide +kernel
theorem dX3_isQueued_25 : decode cX3_isQueued 25 = .ok (.ireturn, 1) := by decide +kernel
theorem dX3_ownerOf_0 : decode cX3_ownerOf 0 = .ok (.iload_n 0, 1) := by decide +kernel
theorem dX3_ownerOf_1 : decode cX3_ownerOf 1 = .ok (.sipush 255, 3) := by decide +kernel
theorem dX3_ownerOf_4 : decode cX3_ownerOf 4 = .ok (.iand, 1) := by decide +kernel
theorem dX3_ownerOf_5 : decode cX3_ownerOf 5 = .ok (.iconst 1, 1) := by decide +kernel
theorem dX3_ownerOf_6 : decode cX3_ownerOf 6 = .ok (.isub, 1) := by decide +kernel
theorem dX3_ownerOf_7 : decode cX3_ownerOf 7 = .ok (.ireturn, 1) := by decide +kernel
theorem dX3_key_0 : decode cX3_key 0 = .ok (.bipush 9, 2) := by decide +kernel
theorem dX3_key_2 : decode cX3_key 2 = .ok (.aload_n 0, 1) := by decide +kernel
theorem dX3_key_3 : decode cX3_key 3 = .ok (.getfield 16, 3) := by decide +kernel
theorem dX3_key_6 : decode cX3_key 6 = .ok (.iload_n 1, 1) := by decide +kernel
theorem dX3_key_7 : decode cX3_key 7 = .ok (.iaload, 1) := by decide +kernel
theorem dX3_key_8 : decode cX3_key 8 = .ok (.isub, 1) := by decide +kernel
theorem dX3_key_9 : decode cX3_key 9 = .ok (.i2l, 1) := by decide +kernel
theorem dX3_key_10 : decode cX3_key 10 = .ok (.ldc2_w 50, 3) := by decide +kernel
theorem dX3_key_13 : decode cX3_key 13 = .ok (.lmul, 1) := by decide +kernel
theorem dX3_key_14 : decode cX3_key 14 = .ok (.aload_n 0, 1) := by decide +kernel
theorem dX3_key_15 : decode cX3_key 15 = .ok (.getfield 37, 3) := by decide +kernel
theorem dX3_key_18 : decode cX3_key 18 = .ok (.iload_n 1, 1) := by decide +kernel
theorem dX3_key_19 : decode cX3_key 19 = .ok (.iaload, 1) := by decide +kernel
theorem dX3_key_20 : decode cX3_key 20 = .ok (.i2l, 1) := by decide +kernel
theorem dX3_key_21 : decode cX3_key 21 = .ok (.ladd, 1) := by decide +kernel
theorem dX3_key_22 : decode cX3_key 22 = .ok (.lreturn, 1) := by decide +kernel
set_option maxRecDepth 20000 in
theorem ggX3_first_X3_key : GoodIn wsX3_first wsX3_key := goodIn_r _ [8, 9, 10, 11, 12, 13, 14, 15, 16, 17, 18, 19, 20, 21, 22, 23, 24, 25, 26, 27, 28] (by decide +kernel) (by decide +kernel)
set_option maxRecDepth 20000 in
theorem gX3_first_X3_key : GoodIn wsX3_first (wsV RX3 52 RX3 yX3_key wsX3_key) := goodIn_app (goodIn_of _ (by decide +kernel)) ggX3_first_X3_key
theorem dX3_first_0 : decode cX3_first 0 = .ok (.iconst (-1), 1) := by decide +kernel
theorem dX3_first_1 : decode cX3_first 1 = .ok (.istore 4, 2) := by decide +kernel
theorem dX3_first_3 : decode cX3_first 3 = .ok (.iconst 0, 1) := by decide +kernel
theorem dX3_first_4 : decode cX3_first 4 = .ok (.istore 5, 2) := by decide +kernel
theorem dX3_first_6 : decode cX3_first 6 = .ok (.iload 5, 2) := by decide +kernel
theorem dX3_first_8 : decode cX3_first 8 = .ok (.bipush 8, 2) := by decide +kernel
theorem dX3_first_10 : decode cX3_first 10 = .ok (.if_icmp .ge 86, 3) := by decide +kernel
theorem dX3_first_13 : decode cX3_first 13 = .ok (.aload_n 0, 1) := by decide +kernel
theorem dX3_first_14 : decode cX3_first 14 = .ok (.getfield 13, 3) := by decide +kernel
theorem dX3_first_17 : decode cX3_first 17 = .ok (.iload 5, 2) := by decide +kernel
theorem dX3_first_19 : decode cX3_first 19 = .ok (.iaload, 1) := by decide +kernel
theorem dX3_first_20 : decode cX3_first 20 = .ok (.iload_n 2, 1) := by decide +kernel
theorem dX3_first_21 : decode cX3_first 21 = .ok (.if_icmp .ne 30, 3) := by decide +kernel
theorem dX3_first_24 : decode cX3_first 24 = .ok (.aload_n 0, 1) := by decide +kernel
theorem dX3_first_25 : decode cX3_first 25 = .ok (.getfield 25, 3) := by decide +kernel
theorem dX3_first_28 : decode cX3_first 28 = .ok (.iload 5, 2) := by decide +kernel
theorem dX3_first_30 : decode cX3_first 30 = .ok (.iaload, 1) := by decide +kernel
theorem dX3_first_31 : decode cX3_first 31 = .ok (.iload_n 1, 1) := by decide +kernel
theorem dX3_first_32 : decode cX3_first 32 = .ok (.if_icmp .ne 19, 3) := by decide +kernel
theorem dX3_first_35 : decode cX3_first 35 = .ok (.aload_n 0, 1) := by decide +kernel
theorem dX3_first_36 : decode cX3_first 36 = .ok (.getfield 28, 3) := by decide +kernel
theorem dX3_first_39 : decode cX3_first 39 = .ok (.iload 5, 2) := by decide +kernel
theorem dX3_first_41 : decode cX3_first 41 = .ok (.iaload, 1) := by decide +kernel
theorem dX3_first_42 : decode cX3_first 42 = .ok (.iload_n 3, 1) := by decide +kernel
theorem dX3_first_43 : decode cX3_first 43 = .ok (.iand, 1) := by decide +kernel
theorem dX3_first_44 : decode cX3_first 44 = .ok (.ifCond .eq 7, 3) := by decide +kernel
theorem dX3_first_47 : decode cX3_first 47 = .ok (.iconst 1, 1) := by decide +kernel
theorem dX3_first_48 : decode cX3_first 48 = .ok (.goto 4, 3) := by decide +kernel
theorem dX3_first_51 : decode cX3_first 51 = .ok (.iconst 0, 1) := by decide +kernel
theorem dX3_first_52 : decode cX3_first 52 = .ok (.istore 6, 2) := by decide +kernel
theorem dX3_first_54 : decode cX3_first 54 = .ok (.iload 6, 2) := by decide +kernel
theorem dX3_first_56 : decode cX3_first 56 = .ok (.ifCond .eq 30, 3) := by decide +kernel
theorem dX3_first_59 : decode cX3_first 59 = .ok (.iload 4, 2) := by decide +kernel
theorem dX3_first_61 : decode cX3_first 61 = .ok (.iconst (-1), 1) := by decide +kernel
theorem dX3_first_62 : decode cX3_first 62 = .ok (.if_icmp .eq 19, 3) := by decide +kernel
theorem dX3_first_65 : decode cX3_first 65 = .ok (.aload_n 0, 1) := by decide +kernel
theorem dX3_first_66 : decode cX3_first 66 = .ok (.iload 5, 2) := by decide +kernel
theorem dX3_first_68 : decode cX3_first 68 = .ok (.invokevirtual 52, 3) := by decide +kernel
theorem dX3_first_71 : decode cX3_first 71 = .ok (.aload_n 0, 1) := by decide +kernel
theorem dX3_first_72 : decode cX3_first 72 = .ok (.iload 4, 2) := by decide +kernel
theorem dX3_first_74 : decode cX3_first 74 = .ok (.invokevirtual 52, 3) := by decide +kernel
theorem dX3_first_77 : decode cX3_first 77 = .ok (.lcmp, 1) := by decide +kernel
theorem dX3_first_78 : decode cX3_first 78 = .ok (.ifCond .ge 8, 3) := by decide +kernel
theorem dX3_first_81 : decode cX3_first 81 = .ok (.iload 5, 2) := by decide +kernel
theorem dX3_first_83 : decode cX3_first 83 = .ok (.goto 5, 3) := by decide +kernel
theorem dX3_first_86 : decode cX3_first 86 = .ok (.iload 4, 2) := by decide +kernel
theorem dX3_first_88 : decode cX3_first 88 = .ok (.istore 4, 2) := by decide +kernel
theorem dX3_first_90 : decode cX3_first 90 = .ok (.iinc 5 1, 3) := by decide +kernel
theorem dX3_first_93 : decode cX3_first 93 = .ok (.goto (-87), 3) := by decide +kernel
theorem dX3_first_96 : decode cX3_first 96 = .ok (.iload 4, 2) := by decide +kernel
theorem dX3_first_98 : decode cX3_first 98 = .ok (.ireturn, 1) := by decide +kernel
set_option maxRecDepth 20000 in
theorem ggX3_isSomebodyLocking_X3_first : GoodIn wsX3_isSomebodyLocking wsX3_first := goodIn_r _ [5, 6, 7, 8, 9, 10, 11, 4, 12, 13, 14, 15, 16, 17, 18, 19, 20, 21, 22, 23, 24, 25, 26, 27, 28, 29, 30, 31, 32] (by decide +kernel) (by decide +kernel)
set_option maxRecDepth 20000 in
theorem gX3_isSomebodyLocking_X3_first : GoodIn wsX3_isSomebodyLocking (wsV RX3 56 RX3 yX3_first wsX3_first) := goodIn_app (goodIn_of _ (by decide +kernel)) ggX3_isSomebodyLocking_X3_first
theorem dX3_isSomebodyLocking_0 : decode cX3_isSomebodyLocking 0 = .ok (.aload_n 0, 1) := by decide +kernel
theorem dX3_isSomebodyLocking_1 : decode cX3_isSomebodyLocking 1 = .ok (.iload_n 1, 1) := by decide +kernel
theorem dX3_isSomebodyLocking_2 : decode cX3_isSomebodyLocking 2 = .ok (.iconst 2, 1) := by decide +kernel
theorem dX3_isSomebodyLocking_3 : decode cX3_isSomebodyLocking 3 = .ok (.sipush 255, 3) := by decide +kernel
theorem dX3_isSomebodyLocking_6 : decode cX3_isSomebodyLocking 6 = .ok (.invokevirtual 56, 3) := by decide +kernel
theorem dX3_isSomebodyLocking_9 : decode cX3_isSomebodyLocking 9 = .ok (.iconst (-1), 1) := by decide +kernel
theorem dX3_isSomebodyLocking_10 : decode cX3_isSomebodyLocking 10 = .ok (.if_icmp .eq 7, 3) := by decide +kernel
theorem dX3_isSomebodyLocking_13 : decode cX3_isSomebodyLocking 13 = .ok (.iconst 1, 1) := by decide +kernel
theorem dX3_isSomebodyLocking_14 : decode cX3_isSomebodyLocking 14 = .ok (.goto 4, 3) := by decide +kernel
theorem dX3_isSomebodyLocking_17 : decode cX3_isSomebodyLocking 17 = .ok (.iconst 0, 1) := by decide +kernel
theorem dX3_isSomebodyLocking_18 : decode cX3_isSomebodyLocking 18 = .ok (.ireturn, 1) := by decide +kernel
theorem dX3_joins_0 : decode cX3_joins 0 = .ok (.aload_n 0, 1) := by decide +kernel
theorem dX3_joins_1 : decode cX3_joins 1 = .ok (.getfield 25, 3) := by decide +kernel
theorem dX3_joins_4 : decode cX3_joins 4 = .ok (.iload_n 1, 1) := by decide +kernel
theorem dX3_joins_5 : decode cX3_joins 5 = .ok (.iload_n 2, 1) := by decide +kernel
theorem dX3_joins_6 : decode cX3_joins 6 = .ok (.iastore, 1) := by decide +kernel
theorem dX3_joins_7 : decode cX3_joins 7 = .ok (.aload_n 0, 1) := by decide +kernel
theorem dX3_joins_8 : decode cX3_joins 8 = .ok (.dup, 1) := by decide +kernel
theorem dX3_joins_9 : decode cX3_joins 9 = .ok (.getfield 60, 3) := by decide +kernel
theorem dX3_joins_12 : decode cX3_joins 12 = .ok (.iconst 1, 1) := by decide +kernel
theorem dX3_joins_13 : decode cX3_joins 13 = .ok (.iadd, 1) := by decide +kernel
theorem dX3_joins_14 : decode cX3_joins 14 = .ok (.putfield 60, 3) := by decide +kernel
theorem dX3_joins_17 : decode cX3_joins 17 = .ok (.aload_n 0, 1) := by decide +kernel
theorem dX3_joins_18 : decode cX3_joins 18 = .ok (.getfield 37, 3) := by decide +kernel
theorem dX3_joins_21 : decode cX3_joins 21 = .ok (.iload_n 1, 1) := by decide +kernel
theorem dX3_joins_22 : decode cX3_joins 22 = .ok (.aload_n 0, 1) := by decide +kernel
theorem dX3_joins_23 : decode cX3_joins 23 = .ok (.getfield 60, 3) := by decide +kernel
theorem dX3_joins_26 : decode cX3_joins 26 = .ok (.iastore, 1) := by decide +kernel
theorem dX3_joins_27 : decode cX3_joins 27 = .ok (.return_, 1) := by decide +kernel
set_option maxRecDepth 20000 in
theorem ggX3_leaves_X3_isSomebodyLocking : GoodIn wsX3_leaves wsX3_isSomebodyLocking := goodIn_r _ [9, 10, 11, 12, 8, 13, 1, 2, 14, 15, 16, 17, 18, 19, 20, 21, 22, 23, 24, 25, 26, 27, 28, 29, 30, 31, 32, 33, 34, 35, 36, 37, 38] (by decide +kernel) (by decide +kernel)
set_option maxRecDepth 20000 in
theorem gX3_leaves_X3_isSomebodyLocking : GoodIn wsX3_leaves (wsV RX3 63 RX3 yX3_isSomebodyLocking wsX3_isSomebodyLocking) := goodIn_app (goodIn_of _ (by decide +kernel)) ggX3_leaves_X3_isSomebodyLocking
theorem dX3_leaves_0 : decode cX3_leaves 0 = .ok (.aload_n 0, 1) := by decide +kernel
theorem dX3_leaves_1 : decode cX3_leaves 1 = .ok (.getfield 13, 3) := by decide +kernel
theorem dX3_leaves_4 : decode cX3_leaves 4 = .ok (.iload_n 1, 1) := by decide +kernel
theorem dX3_leaves_5 : decode cX3_leaves 5 = .ok (.iaload, 1) := by decide +kernel
theorem dX3_leaves_6 : decode cX3_leaves 6 = .ok (.iconst 2, 1) := by decide +kernel
theorem dX3_leaves_7 : decode cX3_leaves 7 = .ok (.if_icmp .ne 7, 3) := by decide +kernel
theorem dX3_leaves_10 : decode cX3_leaves 10 = .ok (.iconst 1, 1) := by decide +kernel
theorem dX3_leaves_11 : decode cX3_leaves 11 = .ok (.goto 4, 3) := by decide +kernel
theorem dX3_leaves_14 : decode cX3_leaves 14 = .ok (.iconst 0, 1) := by decide +kernel
theorem dX3_leaves_15 : decode cX3_leaves 15 = .ok (.istore_n 3, 1) := by decide +kernel
theorem dX3_leaves_16 : decode cX3_leaves 16 = .ok (.aload_n 0, 1) := by decide +kernel
theorem dX3_leaves_17 : decode cX3_leaves 17 = .ok (.getfield 13, 3) := by decide +kernel
theorem dX3_leaves_20 : decode cX3_leaves 20 = .ok (.iload_n 1, 1) := by decide +kernel
theorem dX3_leaves_21 : decode cX3_leaves 21 = .ok (.iload_n 2, 1) := by decide +kernel
theorem dX3_leaves_22 : decode cX3_leaves 22 = .ok (.iastore, 1) := by decide +kernel
theorem dX3_leaves_23 : decode cX3_leaves 23 = .ok (.iload_n 3, 1) := by decide +kernel
theorem dX3_leaves_24 : decode cX3_leaves 24 = .ok (.ifCond .eq 32, 3) := by decide +kernel
theorem dX3_leaves_27 : decode cX3_leaves 27 = .ok (.aload_n 0, 1) := by decide +kernel
theorem dX3_leaves_28 : decode cX3_leaves 28 = .ok (.aload_n 0, 1) := by decide +kernel
theorem dX3_leaves_29 : decode cX3_leaves 29 = .ok (.getfield 25, 3) := by decide +kernel
theorem dX3_leaves_32 : decode cX3_leaves 32 = .ok (.iload_n 1, 1) := by decide +kernel
theorem dX3_leaves_33 : decode cX3_leaves 33 = .ok (.iaload, 1) := by decide +kernel
theorem dX3_leaves_34 : decode cX3_leaves 34 = .ok (.invokevirtual 63, 3) := by decide +kernel
theorem dX3_leaves_37 : decode cX3_leaves 37 = .ok (.ifCond .ne 19, 3) := by decide +kernel
theorem dX3_leaves_40 : decode cX3_leaves 40 = .ok (.aload_n 0, 1) := by decide +kernel
theorem dX3_leaves_41 : decode cX3_leaves 41 = .ok (.getfield 7, 3) := by decide +kernel
theorem dX3_leaves_44 : decode cX3_leaves 44 = .ok (.aload_n 0, 1) := by decide +kernel
theorem dX3_leaves_45 : decode cX3_leaves 45 = .ok (.getfield 25, 3) := by decide +kernel
theorem dX3_leaves_48 : decode cX3_leaves 48 = .ok (.iload_n 1, 1) := by decide +kernel
theorem dX3_leaves_49 : decode cX3_leaves 49 = .ok (.iaload, 1) := by decide +kernel
theorem dX3_leaves_50 : decode cX3_leaves 50 = .ok (.dup2, 1) := by decide +kernel
theorem dX3_leaves_51 : decode cX3_leaves 51 = .ok (.iaload, 1) := by decide +kernel
theorem dX3_leaves_52 : decode cX3_leaves 52 = .ok (.ldc 67, 2) := by decide +kernel
theorem dX3_leaves_54 : decode cX3_leaves 54 = .ok (.iand, 1) := by decide +kernel
theorem dX3_leaves_55 : decode cX3_leaves 55 = .ok (.iastore, 1) := by decide +kernel
theorem dX3_leaves_56 : decode cX3_leaves 56 = .ok (.return_, 1) := by decide +kernel
set_option maxRecDepth 20000 in
theorem ggX3_ends_X3_leaves : GoodIn wsX3_ends wsX3_leaves := goodIn_r _ [8, 9, 10, 11, 12, 13, 14, 15, 7, 16, 17, 18, 19, 20, 21, 22, 23, 24, 25, 26, 27, 28, 29, 30, 31, 32, 33, 34, 35, 36, 37, 38, 39, 40, 41, 42, 43, 44, 45] (by decide +kernel) (by decide +kernel)
set_option maxRecDepth 20000 in
theorem gX3_ends_X3_leaves : GoodIn wsX3_ends (wsV RX3 68 RX3 yX3_leaves wsX3_leaves) := goodIn_app (goodIn_of _ (by decide +kernel)) ggX3_ends_X3_leaves
theorem dX3_ends_0 : decode cX3_ends 0 = .ok (.aload_n 0, 1) := by decide +kernel
theorem dX3_ends_1 : decode cX3_ends 1 = .ok (.iload_n 1, 1) := by decide +kernel
theorem dX3_ends_2 : decode cX3_ends 2 = .ok (.iconst 0, 1) := by decide +kernel
theorem dX3_ends_3 : decode cX3_ends 3 = .ok (.invokevirtual 68, 3) := by decide +kernel
theorem dX3_ends_6 : decode cX3_ends 6 = .ok (.aload_n 0, 1) := by decide +kernel
theorem dX3_ends_7 : decode cX3_ends 7 = .ok (.getfield 19, 3) := by decide +kernel
theorem dX3_ends_10 : decode cX3_ends 10 = .ok (.iload_n 1, 1) := by decide +kernel
theorem dX3_ends_11 : decode cX3_ends 11 = .ok (.iload_n 2, 1) := by decide +kernel
theorem dX3_ends_12 : decode cX3_ends 12 = .ok (.iastore, 1) := by decide +kernel
theorem dX3_ends_13 : decode cX3_ends 13 = .ok (.aload_n 0, 1) := by decide +kernel
theorem dX3_ends_14 : decode cX3_ends 14 = .ok (.dup, 1) := by decide +kernel
theorem dX3_ends_15 : decode cX3_ends 15 = .ok (.getfield 72, 3) := by decide +kernel
theorem dX3_ends_18 : decode cX3_ends 18 = .ok (.iconst 1, 1) := by decide +kernel
theorem dX3_ends_19 : decode cX3_ends 19 = .ok (.iadd, 1) := by decide +kernel
theorem dX3_ends_20 : decode cX3_ends 20 = .ok (.putfield 72, 3) := by decide +kernel
theorem dX3_ends_23 : decode cX3_ends 23 = .ok (.aload_n 0, 1) := by decide +kernel
theorem dX3_ends_24 : decode cX3_ends 24 = .ok (.getfield 22, 3) := by decide +kernel
theorem dX3_ends_27 : decode cX3_ends 27 = .ok (.iload_n 1, 1) := by decide +kernel
theorem dX3_ends_28 : decode cX3_ends 28 = .ok (.aload_n 0, 1) := by decide +kernel
theorem dX3_ends_29 : decode cX3_ends 29 = .ok (.getfield 72, 3) := by decide +kernel
theorem dX3_ends_32 : decode cX3_ends 32 = .ok (.iastore, 1) := by decide +kernel
theorem dX3_ends_33 : decode cX3_ends 33 = .ok (.return_, 1) := by decide +kernel
set_option maxRecDepth 20000 in
theorem ggX3_waits_X3_joins : GoodIn wsX3_waits wsX3_joins := goodIn_r _ [11, 12, 13, 14, 15, 16, 17, 18, 19, 20, 21, 22, 23, 24, 25, 26, 27, 28, 29, 30, 31] (by decide +kernel) (by decide +kernel)
set_option maxRecDepth 20000 in
theorem gX3_waits_X3_joins : GoodIn wsX3_waits (wsV RX3 81 RX3 yX3_joins wsX3_joins) := goodIn_app (goodIn_of _ (by decide +kernel)) ggX3_waits_X3_joins
theorem dX3_waits_0 : decode cX3_waits 0 = .ok (.aload_n 0, 1) := by decide +kernel
theorem dX3_waits_1 : decode cX3_waits 1 = .ok (.getfield 13, 3) := by decide +kernel
theorem dX3_waits_4 : decode cX3_waits 4 = .ok (.iload_n 1, 1) := by decide +kernel
theorem dX3_waits_5 : decode cX3_waits 5 = .ok (.iload_n 3, 1) := by decide +kernel
theorem dX3_waits_6 : decode cX3_waits 6 = .ok (.iastore, 1) := by decide +kernel
theorem dX3_waits_7 : decode cX3_waits 7 = .ok (.aload_n 0, 1) := by decide +kernel
theorem dX3_waits_8 : decode cX3_waits 8 = .ok (.getfield 28, 3) := by decide +kernel
theorem dX3_waits_11 : decode cX3_waits 11 = .ok (.iload_n 1, 1) := by decide +kernel
theorem dX3_waits_12 : decode cX3_waits 12 = .ok (.iload 4, 2) := by decide +kernel
theorem dX3_waits_14 : decode cX3_waits 14 = .ok (.iastore, 1) := by decide +kernel
theorem dX3_waits_15 : decode cX3_waits 15 = .ok (.aload_n 0, 1) := by decide +kernel
theorem dX3_waits_16 : decode cX3_waits 16 = .ok (.getfield 31, 3) := by decide +kernel
theorem dX3_waits_19 : decode cX3_waits 19 = .ok (.iload_n 1, 1) := by decide +kernel
theorem dX3_waits_20 : decode cX3_waits 20 = .ok (.iload 5, 2) := by decide +kernel
theorem dX3_waits_22 : decode cX3_waits 22 = .ok (.ifCond .ne 7, 3) := by decide +kernel
theorem dX3_waits_25 : decode cX3_waits 25 = .ok (.iconst 0, 1) := by decide +kernel
theorem dX3_waits_26 : decode cX3_waits 26 = .ok (.goto 10, 3) := by decide +kernel
theorem dX3_waits_29 : decode cX3_waits 29 = .ok (.aload_n 0, 1) := by decide +kernel
theorem dX3_waits_30 : decode cX3_waits 30 = .ok (.getfield 75, 3) := by decide +kernel
theorem dX3_waits_33 : decode cX3_waits 33 = .ok (.iload 5, 2) := by decide +kernel
theorem dX3_waits_35 : decode cX3_waits 35 = .ok (.iadd, 1) := by decide +kernel
theorem dX3_waits_36 : decode cX3_waits 36 = .ok (.iastore, 1) := by decide +kernel
theorem dX3_waits_37 : decode cX3_waits 37 = .ok (.aload_n 0, 1) := by decide +kernel
theorem dX3_waits_38 : decode cX3_waits 38 = .ok (.dup, 1) := by decide +kernel
theorem dX3_waits_39 : decode cX3_waits 39 = .ok (.getfield 78, 3) := by decide +kernel
theorem dX3_waits_42 : decode cX3_waits 42 = .ok (.iconst 1, 1) := by decide +kernel
theorem dX3_waits_43 : decode cX3_waits 43 = .ok (.iadd, 1) := by decide +kernel
theorem dX3_waits_44 : decode cX3_waits 44 = .ok (.putfield 78, 3) := by decide +kernel
theorem dX3_waits_47 : decode cX3_waits 47 = .ok (.aload_n 0, 1) := by decide +kernel
theorem dX3_waits_48 : decode cX3_waits 48 = .ok (.getfield 34, 3) := by decide +kernel
theorem dX3_waits_51 : decode cX3_waits 51 = .ok (.iload_n 1, 1) := by decide +kernel
theorem dX3_waits_52 : decode cX3_waits 52 = .ok (.aload_n 0, 1) := by decide +kernel
theorem dX3_waits_53 : decode cX3_waits 53 = .ok (.getfield 78, 3) := by decide +kernel
theorem dX3_waits_56 : decode cX3_waits 56 = .ok (.iastore, 1) := by decide +kernel
theorem dX3_waits_57 : decode cX3_waits 57 = .ok (.aload_n 0, 1) := by decide +kernel
theorem dX3_waits_58 : decode cX3_waits 58 = .ok (.iload_n 1, 1) := by decide +kernel
theorem dX3_waits_59 : decode cX3_waits 59 = .ok (.iload_n 2, 1) := by decide +kernel
theorem dX3_waits_60 : decode cX3_waits 60 = .ok (.invokevirtual 81, 3) := by decide +kernel
theorem dX3_waits_63 : decode cX3_waits 63 = .ok (.return_, 1) := by decide +kernel
set_option maxRecDepth 20000 in
theorem ggX3_asksRunning_X3_isThread : GoodIn wsX3_asksRunning wsX3_isThread := goodIn_r _ [6] (by decide +kernel) (by decide +kernel)
set_option maxRecDepth 20000 in
theorem gX3_asksRunning_X3_isThread : GoodIn wsX3_asksRunning (va_wsS RX3 83 yX3_isThread wsX3_isThread) := goodIn_app (goodIn_of _ (by decide +kernel)) ggX3_asksRunning_X3_isThread
set_option maxRecDepth 20000 in
theorem ggX3_asksRunning_X3_isAddress : GoodIn wsX3_asksRunning wsX3_isAddress := goodIn_r _ [9] (by decide +kernel) (by decide +kernel)
set_option maxRecDepth 20000 in
theorem gX3_asksRunning_X3_isAddress : GoodIn wsX3_asksRunning (va_wsS RX3 86 yX3_isAddress wsX3_isAddress) := goodIn_app (goodIn_of _ (by decide +kernel)) ggX3_asksRunning_X3_isAddress
theorem dX3_asksRunning_0 : decode cX3_asksRunning 0 = .ok (.aload_n 0, 1) := by decide +kernel
theorem dX3_asksRunning_1 : decode cX3_asksRunning 1 = .ok (.iload_n 1, 1) := by decide +kernel
theorem dX3_asksRunning_2 : decode cX3_asksRunning 2 = .ok (.invokestatic 83, 3) := by decide +kernel
theorem dX3_asksRunning_5 : decode cX3_asksRunning 5 = .ok (.ifCond .eq 10, 3) := by decide +kernel
theorem dX3_asksRunning_8 : decode cX3_asksRunning 8 = .ok (.iload_n 2, 1) := by decide +kernel
theorem dX3_asksRunning_9 : decode cX3_asksRunning 9 = .ok (.invokestatic 86, 3) := by decide +kernel
theorem dX3_asksRunning_12 : decode cX3_asksRunning 12 = .ok (.ifCond .ne 7, 3) := by decide +kernel
theorem dX3_asksRunning_15 : decode cX3_asksRunning 15 = .ok (.iconst 1, 1) := by decide +kernel
theorem dX3_asksRunning_16 : decode cX3_asksRunning 16 = .ok (.goto 26, 3) := by decide +kernel
theorem dX3_asksRunning_19 : decode cX3_asksRunning 19 = .ok (.iload_n 3, 1) := by decide +kernel
theorem dX3_asksRunning_20 : decode cX3_asksRunning 20 = .ok (.ifCond .ne 7, 3) := by decide +kernel
theorem dX3_asksRunning_23 : decode cX3_asksRunning 23 = .ok (.iconst 2, 1) := by decide +kernel
theorem dX3_asksRunning_24 : decode cX3_asksRunning 24 = .ok (.goto 18, 3) := by decide +kernel
theorem dX3_asksRunning_27 : decode cX3_asksRunning 27 = .ok (.aload_n 0, 1) := by decide +kernel
theorem dX3_asksRunning_28 : decode cX3_asksRunning 28 = .ok (.getfield 13, 3) := by decide +kernel
theorem dX3_asksRunning_31 : decode cX3_asksRunning 31 = .ok (.iload_n 1, 1) := by decide +kernel
theorem dX3_asksRunning_32 : decode cX3_asksRunning 32 = .ok (.iaload, 1) := by decide +kernel
theorem dX3_asksRunning_33 : decode cX3_asksRunning 33 = .ok (.ifCond .eq 8, 3) := by decide +kernel
theorem dX3_asksRunning_36 : decode cX3_asksRunning 36 = .ok (.iload 4, 2) := by decide +kernel
theorem dX3_asksRunning_38 : decode cX3_asksRunning 38 = .ok (.goto 4, 3) := by decide +kernel
theorem dX3_asksRunning_41 : decode cX3_asksRunning 41 = .ok (.iconst 0, 1) := by decide +kernel
theorem dX3_asksRunning_42 : decode cX3_asksRunning 42 = .ok (.putfield 46, 3) := by decide +kernel
theorem dX3_asksRunning_45 : decode cX3_asksRunning 45 = .ok (.aload_n 0, 1) := by decide +kernel
theorem dX3_asksRunning_46 : decode cX3_asksRunning 46 = .ok (.getfield 46, 3) := by decide +kernel
theorem dX3_asksRunning_49 : decode cX3_asksRunning 49 = .ok (.ifCond .ne 7, 3) := by decide +kernel
theorem dX3_asksRunning_52 : decode cX3_asksRunning 52 = .ok (.iconst 1, 1) := by decide +kernel
theorem dX3_asksRunning_53 : decode cX3_asksRunning 53 = .ok (.goto 4, 3) := by decide +kernel
theorem dX3_asksRunning_56 : decode cX3_asksRunning 56 = .ok (.iconst 0, 1) := by decide +kernel
theorem dX3_asksRunning_57 : decode cX3_asksRunning 57 = .ok (.ireturn, 1) := by decide +kernel
set_option maxRecDepth 20000 in
theorem ggX3_store_X3_asksRunning : GoodIn wsX3_store wsX3_asksRunning := goodIn_r _ [6, 7, 8, 9, 10, 5, 11, 12, 13, 14, 15, 16, 17, 18, 19, 20, 21, 22, 23, 24, 25, 26, 27, 28, 29, 30, 31] (by decide +kernel) (by decide +kernel)
set_option maxRecDepth 20000 in
theorem gX3_store_X3_asksRunning : GoodIn wsX3_store (wsV RX3 89 RX3 yX3_asksRunning wsX3_asksRunning) := goodIn_app (goodIn_of _ (by decide +kernel)) ggX3_store_X3_asksRunning
theorem dX3_store_0 : decode cX3_store 0 = .ok (.aload_n 0, 1) := by decide +kernel
theorem dX3_store_1 : decode cX3_store 1 = .ok (.iload_n 1, 1) := by decide +kernel
theorem dX3_store_2 : decode cX3_store 2 = .ok (.iload_n 2, 1) := by decide +kernel
theorem dX3_store_3 : decode cX3_store 3 = .ok (.iconst 1, 1) := by decide +kernel
theorem dX3_store_4 : decode cX3_store 4 = .ok (.iconst 2, 1) := by decide +kernel
theorem dX3_store_5 : decode cX3_store 5 = .ok (.invokevirtual 89, 3) := by decide +kernel
theorem dX3_store_8 : decode cX3_store 8 = .ok (.ifCond .ne 5, 3) := by decide +kernel
theorem dX3_store_11 : decode cX3_store 11 = .ok (.iconst 0, 1) := by decide +kernel
theorem dX3_store_12 : decode cX3_store 12 = .ok (.ireturn, 1) := by decide +kernel
theorem dX3_store_13 : decode cX3_store 13 = .ok (.aload_n 0, 1) := by decide +kernel
theorem dX3_store_14 : decode cX3_store 14 = .ok (.getfield 7, 3) := by decide +kernel
theorem dX3_store_17 : decode cX3_store 17 = .ok (.iload_n 2, 1) := by decide +kernel
theorem dX3_store_18 : decode cX3_store 18 = .ok (.iaload, 1) := by decide +kernel
theorem dX3_store_19 : decode cX3_store 19 = .ok (.istore 4, 2) := by decide +kernel
theorem dX3_store_21 : decode cX3_store 21 = .ok (.aload_n 0, 1) := by decide +kernel
theorem dX3_store_22 : decode cX3_store 22 = .ok (.getfield 7, 3) := by decide +kernel
theorem dX3_store_25 : decode cX3_store 25 = .ok (.iload_n 2, 1) := by decide +kernel
theorem dX3_store_26 : decode cX3_store 26 = .ok (.iload_n 3, 1) := by decide +kernel
theorem dX3_store_27 : decode cX3_store 27 = .ok (.iastore, 1) := by decide +kernel
theorem dX3_store_28 : decode cX3_store 28 = .ok (.iload 4, 2) := by decide +kernel
theorem dX3_store_30 : decode cX3_store 30 = .ok (.ireturn, 1) := by decide +kernel
set_option maxRecDepth 20000 in
theorem ggX3_compareAndSet_X3_asksRunning : GoodIn wsX3_compareAndSet wsX3_asksRunning := goodIn_r _ [6, 7, 8, 9, 10, 5, 11, 12, 13, 14, 15, 16, 17, 18, 19, 20, 21, 22, 23, 24, 25, 26, 27, 28, 29, 30, 31] (by decide +kernel) (by decide +kernel)
set_option maxRecDepth 20000 in
theorem gX3_compareAndSet_X3_asksRunning : GoodIn wsX3_compareAndSet (wsV RX3 89 RX3 yX3_asksRunning wsX3_asksRunning) := goodIn_app (goodIn_of _ (by decide +kernel)) ggX3_compareAndSet_X3_asksRunning
theorem dX3_compareAndSet_0 : decode cX3_compareAndSet 0 = .ok (.aload_n 0, 1) := by decide +kernel
theorem dX3_compareAndSet_1 : decode cX3_compareAndSet 1 = .ok (.iload_n 1, 1) := by decide +kernel
theorem dX3_compareAndSet_2 : decode cX3_compareAndSet 2 = .ok (.iload_n 2, 1) := by decide +kernel
theorem dX3_compareAndSet_3 : decode cX3_compareAndSet 3 = .ok (.iconst 1, 1) := by decide +kernel
theorem dX3_compareAndSet_4 : decode cX3_compareAndSet 4 = .ok (.iconst 2, 1) := by decide +kernel
theorem dX3_compareAndSet_5 : decode cX3_compareAndSet 5 = .ok (.invokevirtual 89, 3) := by decide +kernel
theorem dX3_compareAndSet_8 : decode cX3_compareAndSet 8 = .ok (.ifCond .eq 13, 3) := by decide +kernel
theorem dX3_compareAndSet_11 : decode cX3_compareAndSet 11 = .ok (.aload_n 0, 1) := by decide +kernel
theorem dX3_compareAndSet_12 : decode cX3_compareAndSet 12 = .ok (.getfield 7, 3) := by decide +kernel
theorem dX3_compareAndSet_15 : decode cX3_compareAndSet 15 = .ok (.iload_n 2, 1) := by decide +kernel
theorem dX3_compareAndSet_16 : decode cX3_compareAndSet 16 = .ok (.iaload, 1) := by decide +kernel
theorem dX3_compareAndSet_17 : decode cX3_compareAndSet 17 = .ok (.iload_n 3, 1) := by decide +kernel
theorem dX3_compareAndSet_18 : decode cX3_compareAndSet 18 = .ok (.if_icmp .eq 5, 3) := by decide +kernel
theorem dX3_compareAndSet_21 : decode cX3_compareAndSet 21 = .ok (.iconst 0, 1) := by decide +kernel
theorem dX3_compareAndSet_22 : decode cX3_compareAndSet 22 = .ok (.ireturn, 1) := by decide +kernel
theorem dX3_compareAndSet_23 : decode cX3_compareAndSet 23 = .ok (.aload_n 0, 1) := by decide +kernel
theorem dX3_compareAndSet_24 : decode cX3_compareAndSet 24 = .ok (.getfield 7, 3) := by decide +kernel
theorem dX3_compareAndSet_27 : decode cX3_compareAndSet 27 = .ok (.iload_n 2, 1) := by decide +kernel
theorem dX3_compareAndSet_28 : decode cX3_compareAndSet 28 = .ok (.iload 4, 2) := by decide +kernel
theorem dX3_compareAndSet_30 : decode cX3_compareAndSet 30 = .ok (.iastore, 1) := by decide +kernel
theorem dX3_compareAndSet_31 : decode cX3_compareAndSet 31 = .ok (.iconst 1, 1) := by decide +kernel
theorem dX3_compareAndSet_32 : decode cX3_compareAndSet 32 = .ok (.ireturn, 1) := by decide +kernel
set_option maxRecDepth 20000 in
theorem ggX3_fetchAdd_X3_asksRunning : GoodIn wsX3_fetchAdd wsX3_asksRunning := goodIn_r _ [6, 7, 8, 9, 10, 5, 11, 12, 13, 14, 15, 16, 17, 18, 19, 20, 21, 22, 23, 24, 25, 26, 27, 28, 29, 30, 31] (by decide +kernel) (by decide +kernel)
set_option maxRecDepth 20000 in
theorem gX3_fetchAdd_X3_asksRunning : GoodIn wsX3_fetchAdd (wsV RX3 89 RX3 yX3_asksRunning wsX3_asksRunning) := goodIn_app (goodIn_of _ (by decide +kernel)) ggX3_fetchAdd_X3_asksRunning
theorem dX3_fetchAdd_0 : decode cX3_fetchAdd 0 = .ok (.aload_n 0, 1) := by decide +kernel
theorem dX3_fetchAdd_1 : decode cX3_fetchAdd 1 = .ok (.iload_n 1, 1) := by decide +kernel
theorem dX3_fetchAdd_2 : decode cX3_fetchAdd 2 = .ok (.iload_n 2, 1) := by decide +kernel
theorem dX3_fetchAdd_3 : decode cX3_fetchAdd 3 = .ok (.iconst 1, 1) := by decide +kernel
theorem dX3_fetchAdd_4 : decode cX3_fetchAdd 4 = .ok (.iconst 2, 1) := by decide +kernel
theorem dX3_fetchAdd_5 : decode cX3_fetchAdd 5 = .ok (.invokevirtual 89, 3) := by decide +kernel
theorem dX3_fetchAdd_8 : decode cX3_fetchAdd 8 = .ok (.ifCond .ne 5, 3) := by decide +kernel
theorem dX3_fetchAdd_11 : decode cX3_fetchAdd 11 = .ok (.iconst 0, 1) := by decide +kernel
theorem dX3_fetchAdd_12 : decode cX3_fetchAdd 12 = .ok (.ireturn, 1) := by decide +kernel
theorem dX3_fetchAdd_13 : decode cX3_fetchAdd 13 = .ok (.aload_n 0, 1) := by decide +kernel
theorem dX3_fetchAdd_14 : decode cX3_fetchAdd 14 = .ok (.getfield 7, 3) := by decide +kernel
theorem dX3_fetchAdd_17 : decode cX3_fetchAdd 17 = .ok (.iload_n 2, 1) := by decide +kernel
theorem dX3_fetchAdd_18 : decode cX3_fetchAdd 18 = .ok (.iaload, 1) := by decide +kernel
theorem dX3_fetchAdd_19 : decode cX3_fetchAdd 19 = .ok (.istore 4, 2) := by decide +kernel
theorem dX3_fetchAdd_21 : decode cX3_fetchAdd 21 = .ok (.aload_n 0, 1) := by decide +kernel
theorem dX3_fetchAdd_22 : decode cX3_fetchAdd 22 = .ok (.getfield 7, 3) := by decide +kernel
theorem dX3_fetchAdd_25 : decode cX3_fetchAdd 25 = .ok (.iload_n 2, 1) := by decide +kernel
theorem dX3_fetchAdd_26 : decode cX3_fetchAdd 26 = .ok (.iload 4, 2) := by decide +kernel
theorem dX3_fetchAdd_28 : decode cX3_fetchAdd 28 = .ok (.iload_n 3, 1) := by decide +kernel
theorem dX3_fetchAdd_29 : decode cX3_fetchAdd 29 = .ok (.iadd, 1) := by decide +kernel
theorem dX3_fetchAdd_30 : decode cX3_fetchAdd 30 = .ok (.iastore, 1) := by decide +kernel
theorem dX3_fetchAdd_31 : decode cX3_fetchAdd 31 = .ok (.iload 4, 2) := by decide +kernel
theorem dX3_fetchAdd_33 : decode cX3_fetchAdd 33 = .ok (.ireturn, 1) := by decide +kernel
set_option maxRecDepth 20000 in
theorem ggX3_word_X3_isAddress : GoodIn wsX3_word wsX3_isAddress := goodIn_r _ [5] (by decide +kernel) (by decide +kernel)
set_option maxRecDepth 20000 in
theorem gX3_word_X3_isAddress : GoodIn wsX3_word (va_wsS RX3 86 yX3_isAddress wsX3_isAddress) := goodIn_app (goodIn_of _ (by decide +kernel)) ggX3_word_X3_isAddress
set_option maxRecDepth 20000 in
theorem ggX3_word_X3_asks : GoodIn wsX3_word wsX3_asks := goodIn_r _ [9, 10, 11, 12, 13, 14, 15, 16, 17, 18, 19, 20, 21, 22, 23, 24, 25, 26, 27] (by decide +kernel) (by decide +kernel)
set_option maxRecDepth 20000 in
theorem gX3_word_X3_asks : GoodIn wsX3_word (wsV RX3 93 RX3 yX3_asks wsX3_asks) := goodIn_app (goodIn_of _ (by decide +kernel)) ggX3_word_X3_asks
theorem dX3_word_0 : decode cX3_word 0 = .ok (.aload_n 0, 1) := by decide +kernel
theorem dX3_word_1 : decode cX3_word 1 = .ok (.iload_n 1, 1) := by decide +kernel
theorem dX3_word_2 : decode cX3_word 2 = .ok (.invokestatic 86, 3) := by decide +kernel
theorem dX3_word_5 : decode cX3_word 5 = .ok (.invokevirtual 93, 3) := by decide +kernel
theorem dX3_word_8 : decode cX3_word 8 = .ok (.ifCond .eq 12, 3) := by decide +kernel
theorem dX3_word_11 : decode cX3_word 11 = .ok (.aload_n 0, 1) := by decide +kernel
theorem dX3_word_12 : decode cX3_word 12 = .ok (.getfield 7, 3) := by decide +kernel
theorem dX3_word_15 : decode cX3_word 15 = .ok (.iload_n 1, 1) := by decide +kernel
theorem dX3_word_16 : decode cX3_word 16 = .ok (.iaload, 1) := by decide +kernel
theorem dX3_word_17 : decode cX3_word 17 = .ok (.goto 4, 3) := by decide +kernel
theorem dX3_word_20 : decode cX3_word 20 = .ok (.iconst 0, 1) := by decide +kernel
theorem dX3_word_21 : decode cX3_word 21 = .ok (.ireturn, 1) := by decide +kernel
theorem dX3_isMask_0 : decode cX3_isMask 0 = .ok (.iload_n 0, 1) := by decide +kernel
theorem dX3_isMask_1 : decode cX3_isMask 1 = .ok (.ifCond .le 14, 3) := by decide +kernel
theorem dX3_isMask_4 : decode cX3_isMask 4 = .ok (.iload_n 0, 1) := by decide +kernel
theorem dX3_isMask_5 : decode cX3_isMask 5 = .ok (.sipush 255, 3) := by decide +kernel
theorem dX3_isMask_8 : decode cX3_isMask 8 = .ok (.if_icmp .gt 7, 3) := by decide +kernel
theorem dX3_isMask_11 : decode cX3_isMask 11 = .ok (.iconst 1, 1) := by decide +kernel
theorem dX3_isMask_12 : decode cX3_isMask 12 = .ok (.goto 4, 3) := by decide +kernel
theorem dX3_isMask_15 : decode cX3_isMask 15 = .ok (.iconst 0, 1) := by decide +kernel
theorem dX3_isMask_16 : decode cX3_isMask 16 = .ok (.ireturn, 1) := by decide +kernel
theorem dX3_isTimeout_0 : decode cX3_isTimeout 0 = .ok (.iload_n 0, 1) := by decide +kernel
theorem dX3_isTimeout_1 : decode cX3_isTimeout 1 = .ok (.ifCond .lt 14, 3) := by decide +kernel
theorem dX3_isTimeout_4 : decode cX3_isTimeout 4 = .ok (.iload_n 0, 1) := by decide +kernel
theorem dX3_isTimeout_5 : decode cX3_isTimeout 5 = .ok (.sipush 10000, 3) := by decide +kernel
theorem dX3_isTimeout_8 : decode cX3_isTimeout 8 = .ok (.if_icmp .gt 7, 3) := by decide +kernel
theorem dX3_isTimeout_11 : decode cX3_isTimeout 11 = .ok (.iconst 1, 1) := by decide +kernel
theorem dX3_isTimeout_12 : decode cX3_isTimeout 12 = .ok (.goto 4, 3) := by decide +kernel
theorem dX3_isTimeout_15 : decode cX3_isTimeout 15 = .ok (.iconst 0, 1) := by decide +kernel
theorem dX3_isTimeout_16 : decode cX3_isTimeout 16 = .ok (.ireturn, 1) := by decide +kernel
set_option maxRecDepth 20000 in
theorem ggX3_await_X3_isMask : GoodIn wsX3_await wsX3_isMask := goodIn_r _ [5] (by decide +kernel) (by decide +kernel)
set_option maxRecDepth 20000 in
theorem gX3_await_X3_isMask : GoodIn wsX3_await (va_wsS RX3 97 yX3_isMask wsX3_isMask) := goodIn_app (goodIn_of _ (by decide +kernel)) ggX3_await_X3_isMask
set_option maxRecDepth 20000 in
theorem ggX3_await_X3_isTimeout : GoodIn wsX3_await wsX3_isTimeout := goodIn_r _ [8] (by decide +kernel) (by decide +kernel)
set_option maxRecDepth 20000 in
theorem gX3_await_X3_isTimeout : GoodIn wsX3_await (va_wsS RX3 100 yX3_isTimeout wsX3_isTimeout) := goodIn_app (goodIn_of _ (by decide +kernel)) ggX3_await_X3_isTimeout
set_option maxRecDepth 20000 in
theorem ggX3_await_X3_asksRunning : GoodIn wsX3_await wsX3_asksRunning := goodIn_r _ [12, 13, 14, 15, 16, 4, 17, 18, 19, 20, 37, 38, 39, 40, 41, 42, 43, 44, 45, 46, 47, 48, 49, 50, 51, 52, 53] (by decide +kernel) (by decide +kernel)
set_option maxRecDepth 20000 in
theorem gX3_await_X3_asksRunning : GoodIn wsX3_await (wsV RX3 89 RX3 yX3_asksRunning wsX3_asksRunning) := goodIn_app (goodIn_of _ (by decide +kernel)) ggX3_await_X3_asksRunning
set_option maxRecDepth 20000 in
theorem ggX3_await_X3_waits : GoodIn wsX3_await wsX3_waits := goodIn_r _ [24, 13, 25, 26, 27, 28, 29, 30, 31, 32, 4, 33, 34, 35, 36, 37, 38, 39, 40, 41, 42, 43, 44, 45, 46, 47, 48, 49, 50, 51, 52, 53] (by decide +kernel) (by decide +kernel)
set_option maxRecDepth 20000 in
theorem gX3_await_X3_waits : GoodIn wsX3_await (wsV RX3 103 RX3 yX3_waits wsX3_waits) := goodIn_app (goodIn_of _ (by decide +kernel)) ggX3_await_X3_waits
theorem dX3_await_0 : decode cX3_await 0 = .ok (.aload_n 0, 1) := by decide +kernel
theorem dX3_await_1 : decode cX3_await 1 = .ok (.iload_n 1, 1) := by decide +kernel
theorem dX3_await_2 : decode cX3_await 2 = .ok (.iload_n 2, 1) := by decide +kernel
theorem dX3_await_3 : decode cX3_await 3 = .ok (.iload 4, 2) := by decide +kernel
theorem dX3_await_5 : decode cX3_await 5 = .ok (.invokestatic 97, 3) := by decide +kernel
theorem dX3_await_8 : decode cX3_await 8 = .ok (.ifCond .eq 15, 3) := by decide +kernel
theorem dX3_await_11 : decode cX3_await 11 = .ok (.iload 5, 2) := by decide +kernel
theorem dX3_await_13 : decode cX3_await 13 = .ok (.invokestatic 100, 3) := by decide +kernel
theorem dX3_await_16 : decode cX3_await 16 = .ok (.ifCond .eq 7, 3) := by decide +kernel
theorem dX3_await_19 : decode cX3_await 19 = .ok (.iconst 1, 1) := by decide +kernel
theorem dX3_await_20 : decode cX3_await 20 = .ok (.goto 4, 3) := by decide +kernel
theorem dX3_await_23 : decode cX3_await 23 = .ok (.iconst 0, 1) := by decide +kernel
theorem dX3_await_24 : decode cX3_await 24 = .ok (.iconst 3, 1) := by decide +kernel
theorem dX3_await_25 : decode cX3_await 25 = .ok (.invokevirtual 89, 3) := by decide +kernel
theorem dX3_await_28 : decode cX3_await 28 = .ok (.ifCond .eq 13, 3) := by decide +kernel
theorem dX3_await_31 : decode cX3_await 31 = .ok (.aload_n 0, 1) := by decide +kernel
theorem dX3_await_32 : decode cX3_await 32 = .ok (.getfield 7, 3) := by decide +kernel
theorem dX3_await_35 : decode cX3_await 35 = .ok (.iload_n 2, 1) := by decide +kernel
theorem dX3_await_36 : decode cX3_await 36 = .ok (.iaload, 1) := by decide +kernel
theorem dX3_await_37 : decode cX3_await 37 = .ok (.iload_n 3, 1) := by decide +kernel
theorem dX3_await_38 : decode cX3_await 38 = .ok (.if_icmp .eq 5, 3) := by decide +kernel
theorem dX3_await_41 : decode cX3_await 41 = .ok (.iconst 0, 1) := by decide +kernel
theorem dX3_await_42 : decode cX3_await 42 = .ok (.ireturn, 1) := by decide +kernel
theorem dX3_await_43 : decode cX3_await 43 = .ok (.aload_n 0, 1) := by decide +kernel
theorem dX3_await_44 : decode cX3_await 44 = .ok (.iload_n 1, 1) := by decide +kernel
theorem dX3_await_45 : decode cX3_await 45 = .ok (.iload_n 2, 1) := by decide +kernel
theorem dX3_await_46 : decode cX3_await 46 = .ok (.iconst 1, 1) := by decide +kernel
theorem dX3_await_47 : decode cX3_await 47 = .ok (.iload 4, 2) := by decide +kernel
theorem dX3_await_49 : decode cX3_await 49 = .ok (.iload 5, 2) := by decide +kernel
theorem dX3_await_51 : decode cX3_await 51 = .ok (.invokevirtual 103, 3) := by decide +kernel
theorem dX3_await_54 : decode cX3_await 54 = .ok (.iconst 1, 1) := by decide +kernel
theorem dX3_await_55 : decode cX3_await 55 = .ok (.ireturn, 1) := by decide +kernel
set_option maxRecDepth 20000 in
theorem ggX3_wakes_X3_first : GoodIn wsX3_wakes wsX3_first := goodIn_r _ [5, 6, 7, 8, 9, 10, 11, 4, 12, 13, 14, 15, 33, 34, 35, 36, 37, 38, 39, 40, 41, 42, 43, 44, 45, 46, 47, 48, 49] (by decide +kernel) (by decide +kernel)
set_option maxRecDepth 20000 in
theorem gX3_wakes_X3_first : GoodIn wsX3_wakes (wsV RX3 56 RX3 yX3_first wsX3_first) := goodIn_app (goodIn_of _ (by decide +kernel)) ggX3_wakes_X3_first
set_option maxRecDepth 20000 in
theorem ggX3_wakes_X3_ends : GoodIn wsX3_wakes wsX3_ends := goodIn_r _ [19, 20, 21, 22, 23, 24, 25, 4, 26, 6, 7, 27, 28, 29, 30, 31, 32, 1, 2, 3, 5, 8, 9, 10, 11, 12, 13, 14, 15, 33, 34, 35, 36, 37, 38, 39, 40, 41, 42, 43, 44, 45, 46, 47, 48, 49] (by decide +kernel) (by decide +kernel)
set_option maxRecDepth 20000 in
theorem gX3_wakes_X3_ends : GoodIn wsX3_wakes (wsV RX3 107 RX3 yX3_ends wsX3_ends) := goodIn_app (goodIn_of _ (by decide +kernel)) ggX3_wakes_X3_ends
theorem dX3_wakes_0 : decode cX3_wakes 0 = .ok (.iconst 0, 1) := by decide +kernel
theorem dX3_wakes_1 : decode cX3_wakes 1 = .ok (.istore 4, 2) := by decide +kernel
theorem dX3_wakes_3 : decode cX3_wakes 3 = .ok (.aload_n 0, 1) := by decide +kernel
theorem dX3_wakes_4 : decode cX3_wakes 4 = .ok (.iload_n 1, 1) := by decide +kernel
theorem dX3_wakes_5 : decode cX3_wakes 5 = .ok (.iconst 1, 1) := by decide +kernel
theorem dX3_wakes_6 : decode cX3_wakes 6 = .ok (.iload_n 3, 1) := by decide +kernel
theorem dX3_wakes_7 : decode cX3_wakes 7 = .ok (.invokevirtual 56, 3) := by decide +kernel
theorem dX3_wakes_10 : decode cX3_wakes 10 = .ok (.istore 5, 2) := by decide +kernel
theorem dX3_wakes_12 : decode cX3_wakes 12 = .ok (.iload 4, 2) := by decide +kernel
theorem dX3_wakes_14 : decode cX3_wakes 14 = .ok (.iload_n 2, 1) := by decide +kernel
theorem dX3_wakes_15 : decode cX3_wakes 15 = .ok (.if_icmp .ge 31, 3) := by decide +kernel
theorem dX3_wakes_18 : decode cX3_wakes 18 = .ok (.iload 5, 2) := by decide +kernel
theorem dX3_wakes_20 : decode cX3_wakes 20 = .ok (.iconst (-1), 1) := by decide +kernel
theorem dX3_wakes_21 : decode cX3_wakes 21 = .ok (.if_icmp .eq 25, 3) := by decide +kernel
theorem dX3_wakes_24 : decode cX3_wakes 24 = .ok (.aload_n 0, 1) := by decide +kernel
theorem dX3_wakes_25 : decode cX3_wakes 25 = .ok (.iload 5, 2) := by decide +kernel
theorem dX3_wakes_27 : decode cX3_wakes 27 = .ok (.iconst 0, 1) := by decide +kernel
theorem dX3_wakes_28 : decode cX3_wakes 28 = .ok (.invokevirtual 107, 3) := by decide +kernel
theorem dX3_wakes_31 : decode cX3_wakes 31 = .ok (.iinc 4 1, 3) := by decide +kernel
theorem dX3_wakes_34 : decode cX3_wakes 34 = .ok (.aload_n 0, 1) := by decide +kernel
theorem dX3_wakes_35 : decode cX3_wakes 35 = .ok (.iload_n 1, 1) := by decide +kernel
theorem dX3_wakes_36 : decode cX3_wakes 36 = .ok (.iconst 1, 1) := by decide +kernel
theorem dX3_wakes_37 : decode cX3_wakes 37 = .ok (.iload_n 3, 1) := by decide +kernel
theorem dX3_wakes_38 : decode cX3_wakes 38 = .ok (.invokevirtual 56, 3) := by decide +kernel
theorem dX3_wakes_41 : decode cX3_wakes 41 = .ok (.istore 5, 2) := by decide +kernel
theorem dX3_wakes_43 : decode cX3_wakes 43 = .ok (.goto (-31), 3) := by decide +kernel
theorem dX3_wakes_46 : decode cX3_wakes 46 = .ok (.iload 4, 2) := by decide +kernel
theorem dX3_wakes_48 : decode cX3_wakes 48 = .ok (.ireturn, 1) := by decide +kernel
set_option maxRecDepth 20000 in
theorem ggX3_wake_X3_isMask : GoodIn wsX3_wake wsX3_isMask := goodIn_r _ [4] (by decide +kernel) (by decide +kernel)
set_option maxRecDepth 20000 in
theorem gX3_wake_X3_isMask : GoodIn wsX3_wake (va_wsS RX3 97 yX3_isMask wsX3_isMask) := goodIn_app (goodIn_of _ (by decide +kernel)) ggX3_wake_X3_isMask
set_option maxRecDepth 20000 in
theorem ggX3_wake_X3_asksRunning : GoodIn wsX3_wake wsX3_asksRunning := goodIn_r _ [8, 9, 10, 11, 12, 3, 13, 14, 15, 16, 51, 52, 53, 54, 55, 56, 57, 58, 59, 60, 61, 62, 63, 64, 65, 66, 67] (by decide +kernel) (by decide +kernel)
set_option maxRecDepth 20000 in
theorem gX3_wake_X3_asksRunning : GoodIn wsX3_wake (wsV RX3 89 RX3 yX3_asksRunning wsX3_asksRunning) := goodIn_app (goodIn_of _ (by decide +kernel)) ggX3_wake_X3_asksRunning
set_option maxRecDepth 20000 in
theorem ggX3_wake_X3_wakes : GoodIn wsX3_wake wsX3_wakes := goodIn_r _ [20, 21, 22, 23, 3, 24, 9, 25, 26, 27, 28, 29, 30, 31, 32, 33, 34, 35, 36, 37, 38, 39, 40, 41, 42, 43, 44, 45, 46, 47, 48, 49, 50, 51, 52, 53, 54, 55, 56, 57, 58, 59, 60, 61, 62, 63, 64, 65, 66, 67] (by decide +kernel) (by decide +kernel)
set_option maxRecDepth 20000 in
theorem gX3_wake_X3_wakes : GoodIn wsX3_wake (wsV RX3 109 RX3 yX3_wakes wsX3_wakes) := goodIn_app (goodIn_of _ (by decide +kernel)) ggX3_wake_X3_wakes
theorem dX3_wake_0 : decode cX3_wake 0 = .ok (.aload_n 0, 1) := by decide +kernel
theorem dX3_wake_1 : decode cX3_wake 1 = .ok (.iload_n 1, 1) := by decide +kernel
theorem dX3_wake_2 : decode cX3_wake 2 = .ok (.iload_n 2, 1) := by decide +kernel
theorem dX3_wake_3 : decode cX3_wake 3 = .ok (.iload_n 3, 1) := by decide +kernel
theorem dX3_wake_4 : decode cX3_wake 4 = .ok (.ifCond .le 21, 3) := by decide +kernel
theorem dX3_wake_7 : decode cX3_wake 7 = .ok (.iload_n 3, 1) := by decide +kernel
theorem dX3_wake_8 : decode cX3_wake 8 = .ok (.bipush 9, 2) := by decide +kernel
theorem dX3_wake_10 : decode cX3_wake 10 = .ok (.if_icmp .ge 15, 3) := by decide +kernel
theorem dX3_wake_13 : decode cX3_wake 13 = .ok (.iload 4, 2) := by decide +kernel
theorem dX3_wake_15 : decode cX3_wake 15 = .ok (.invokestatic 97, 3) := by decide +kernel
theorem dX3_wake_18 : decode cX3_wake 18 = .ok (.ifCond .eq 7, 3) := by decide +kernel
theorem dX3_wake_21 : decode cX3_wake 21 = .ok (.iconst 1, 1) := by decide +kernel
theorem dX3_wake_22 : decode cX3_wake 22 = .ok (.goto 4, 3) := by decide +kernel
theorem dX3_wake_25 : decode cX3_wake 25 = .ok (.iconst 0, 1) := by decide +kernel
theorem dX3_wake_26 : decode cX3_wake 26 = .ok (.iconst 3, 1) := by decide +kernel
theorem dX3_wake_27 : decode cX3_wake 27 = .ok (.invokevirtual 89, 3) := by decide +kernel
theorem dX3_wake_30 : decode cX3_wake 30 = .ok (.ifCond .eq 14, 3) := by decide +kernel
theorem dX3_wake_33 : decode cX3_wake 33 = .ok (.aload_n 0, 1) := by decide +kernel
theorem dX3_wake_34 : decode cX3_wake 34 = .ok (.iload_n 2, 1) := by decide +kernel
theorem dX3_wake_35 : decode cX3_wake 35 = .ok (.iload_n 3, 1) := by decide +kernel
theorem dX3_wake_36 : decode cX3_wake 36 = .ok (.iload 4, 2) := by decide +kernel
theorem dX3_wake_38 : decode cX3_wake 38 = .ok (.invokevirtual 109, 3) := by decide +kernel
theorem dX3_wake_41 : decode cX3_wake 41 = .ok (.goto 4, 3) := by decide +kernel
theorem dX3_wake_44 : decode cX3_wake 44 = .ok (.iconst 0, 1) := by decide +kernel
theorem dX3_wake_45 : decode cX3_wake 45 = .ok (.ireturn, 1) := by decide +kernel
set_option maxRecDepth 20000 in
theorem ggX3_requeue_X3_isThread : GoodIn wsX3_requeue wsX3_isThread := goodIn_r _ [6] (by decide +kernel) (by decide +kernel)
set_option maxRecDepth 20000 in
theorem gX3_requeue_X3_isThread : GoodIn wsX3_requeue (va_wsS RX3 83 yX3_isThread wsX3_isThread) := goodIn_app (goodIn_of _ (by decide +kernel)) ggX3_requeue_X3_isThread
set_option maxRecDepth 20000 in
theorem ggX3_requeue_X3_isAddress : GoodIn wsX3_requeue wsX3_isAddress := goodIn_r _ [9] (by decide +kernel) (by decide +kernel)
set_option maxRecDepth 20000 in
theorem gX3_requeue_X3_isAddress : GoodIn wsX3_requeue (va_wsS RX3 86 yX3_isAddress wsX3_isAddress) := goodIn_app (goodIn_of _ (by decide +kernel)) ggX3_requeue_X3_isAddress
set_option maxRecDepth 20000 in
theorem ggX3_requeue_X3_asks : GoodIn wsX3_requeue wsX3_asks := goodIn_r _ [13, 14, 57, 58, 59, 60, 61, 62, 63, 64, 65, 66, 67, 68, 69, 70, 71, 72, 73] (by decide +kernel) (by decide +kernel)
set_option maxRecDepth 20000 in
theorem gX3_requeue_X3_asks : GoodIn wsX3_requeue (wsV RX3 93 RX3 yX3_asks wsX3_asks) := goodIn_app (goodIn_of _ (by decide +kernel)) ggX3_requeue_X3_asks
set_option maxRecDepth 20000 in
theorem ggX3_requeue_X3_fails : GoodIn wsX3_requeue wsX3_fails := goodIn_r _ [18, 14, 57, 58, 59, 60, 61, 62, 63, 64, 65, 66, 67, 68, 69, 70, 71, 72, 73] (by decide +kernel) (by decide +kernel)
set_option maxRecDepth 20000 in
theorem gX3_requeue_X3_fails : GoodIn wsX3_requeue (wsV RX3 112 RX3 yX3_fails wsX3_fails) := goodIn_app (goodIn_of _ (by decide +kernel)) ggX3_requeue_X3_fails
set_option maxRecDepth 20000 in
theorem ggX3_requeue_X3_wakes : GoodIn wsX3_requeue wsX3_wakes := goodIn_r _ [22, 23, 24, 25, 5, 26, 1, 27, 28, 29, 30, 31, 32, 33, 34, 35, 36, 37, 38, 39, 40, 41, 42, 43, 44, 45, 46, 2, 47, 48, 49, 50, 51, 57, 58, 59, 60, 61, 62, 63, 64, 65, 66, 67, 68, 69, 70, 71, 72, 73] (by decide +kernel) (by decide +kernel)
set_option maxRecDepth 20000 in
theorem gX3_requeue_X3_wakes : GoodIn wsX3_requeue (wsV RX3 109 RX3 yX3_wakes wsX3_wakes) := goodIn_app (goodIn_of _ (by decide +kernel)) ggX3_requeue_X3_wakes
set_option maxRecDepth 20000 in
theorem ggX3_requeue_X3_first : GoodIn wsX3_requeue wsX3_first := goodIn_r _ [26, 1, 27, 28, 29, 30, 31, 5, 32, 33, 34, 35, 57, 58, 59, 60, 61, 62, 63, 64, 65, 66, 67, 68, 69, 70, 71, 72, 73] (by decide +kernel) (by decide +kernel)
set_option maxRecDepth 20000 in
theorem gX3_requeue_X3_first : GoodIn wsX3_requeue (wsV RX3 56 RX3 yX3_first wsX3_first) := goodIn_app (goodIn_of _ (by decide +kernel)) ggX3_requeue_X3_first
set_option maxRecDepth 20000 in
theorem ggX3_requeue_X3_joins : GoodIn wsX3_requeue wsX3_joins := goodIn_r _ [55, 27, 56, 35, 57, 58, 59, 60, 61, 62, 63, 64, 65, 66, 67, 68, 69, 70, 71, 72, 73] (by decide +kernel) (by decide +kernel)
set_option maxRecDepth 20000 in
theorem gX3_requeue_X3_joins : GoodIn wsX3_requeue (wsV RX3 81 RX3 yX3_joins wsX3_joins) := goodIn_app (goodIn_of _ (by decide +kernel)) ggX3_requeue_X3_joins
theorem dX3_requeue_0 : decode cX3_requeue 0 = .ok (.aload_n 0, 1) := by decide +kernel
theorem dX3_requeue_1 : decode cX3_requeue 1 = .ok (.iload_n 1, 1) := by decide +kernel
theorem dX3_requeue_2 : decode cX3_requeue 2 = .ok (.invokestatic 83, 3) := by decide +kernel
theorem dX3_requeue_5 : decode cX3_requeue 5 = .ok (.ifCond .eq 22, 3) := by decide +kernel
theorem dX3_requeue_8 : decode cX3_requeue 8 = .ok (.iload_n 2, 1) := by decide +kernel
theorem dX3_requeue_9 : decode cX3_requeue 9 = .ok (.invokestatic 86, 3) := by decide +kernel
theorem dX3_requeue_12 : decode cX3_requeue 12 = .ok (.ifCond .eq 15, 3) := by decide +kernel
theorem dX3_requeue_15 : decode cX3_requeue 15 = .ok (.iload 5, 2) := by decide +kernel
theorem dX3_requeue_17 : decode cX3_requeue 17 = .ok (.invokestatic 86, 3) := by decide +kernel
theorem dX3_requeue_20 : decode cX3_requeue 20 = .ok (.ifCond .eq 7, 3) := by decide +kernel
theorem dX3_requeue_23 : decode cX3_requeue 23 = .ok (.iconst 1, 1) := by decide +kernel
theorem dX3_requeue_24 : decode cX3_requeue 24 = .ok (.goto 4, 3) := by decide +kernel
theorem dX3_requeue_27 : decode cX3_requeue 27 = .ok (.iconst 0, 1) := by decide +kernel
theorem dX3_requeue_28 : decode cX3_requeue 28 = .ok (.invokevirtual 93, 3) := by decide +kernel
theorem dX3_requeue_31 : decode cX3_requeue 31 = .ok (.ifCond .ne 5, 3) := by decide +kernel
theorem dX3_requeue_34 : decode cX3_requeue 34 = .ok (.iconst 0, 1) := by decide +kernel
theorem dX3_requeue_35 : decode cX3_requeue 35 = .ok (.ireturn, 1) := by decide +kernel
theorem dX3_requeue_36 : decode cX3_requeue 36 = .ok (.iload_n 2, 1) := by decide +kernel
theorem dX3_requeue_37 : decode cX3_requeue 37 = .ok (.iload 5, 2) := by decide +kernel
theorem dX3_requeue_39 : decode cX3_requeue 39 = .ok (.if_icmp .eq 27, 3) := by decide +kernel
theorem dX3_requeue_42 : decode cX3_requeue 42 = .ok (.iload 4, 2) := by decide +kernel
theorem dX3_requeue_44 : decode cX3_requeue 44 = .ok (.ifCond .lt 22, 3) := by decide +kernel
theorem dX3_requeue_47 : decode cX3_requeue 47 = .ok (.iload 4, 2) := by decide +kernel
theorem dX3_requeue_49 : decode cX3_requeue 49 = .ok (.bipush 8, 2) := by decide +kernel
theorem dX3_requeue_51 : decode cX3_requeue 51 = .ok (.if_icmp .gt 15, 3) := by decide +kernel
theorem dX3_requeue_54 : decode cX3_requeue 54 = .ok (.iload 6, 2) := by decide +kernel
theorem dX3_requeue_56 : decode cX3_requeue 56 = .ok (.ifCond .lt 10, 3) := by decide +kernel
theorem dX3_requeue_59 : decode cX3_requeue 59 = .ok (.iload 6, 2) := by decide +kernel
theorem dX3_requeue_61 : decode cX3_requeue 61 = .ok (.bipush 8, 2) := by decide +kernel
theorem dX3_requeue_63 : decode cX3_requeue 63 = .ok (.if_icmp .le 9, 3) := by decide +kernel
theorem dX3_requeue_66 : decode cX3_requeue 66 = .ok (.aload_n 0, 1) := by decide +kernel
theorem dX3_requeue_67 : decode cX3_requeue 67 = .ok (.iconst 2, 1) := by decide +kernel
theorem dX3_requeue_68 : decode cX3_requeue 68 = .ok (.invokevirtual 112, 3) := by decide +kernel
theorem dX3_requeue_71 : decode cX3_requeue 71 = .ok (.ireturn, 1) := by decide +kernel
theorem dX3_requeue_72 : decode cX3_requeue 72 = .ok (.aload_n 0, 1) := by decide +kernel
theorem dX3_requeue_73 : decode cX3_requeue 73 = .ok (.getfield 13, 3) := by decide +kernel
theorem dX3_requeue_76 : decode cX3_requeue 76 = .ok (.iload_n 1, 1) := by decide +kernel
theorem dX3_requeue_77 : decode cX3_requeue 77 = .ok (.iaload, 1) := by decide +kernel
theorem dX3_requeue_78 : decode cX3_requeue 78 = .ok (.ifCond .eq 9, 3) := by decide +kernel
theorem dX3_requeue_81 : decode cX3_requeue 81 = .ok (.aload_n 0, 1) := by decide +kernel
theorem dX3_requeue_82 : decode cX3_requeue 82 = .ok (.iconst 3, 1) := by decide +kernel
theorem dX3_requeue_83 : decode cX3_requeue 83 = .ok (.invokevirtual 112, 3) := by decide +kernel
theorem dX3_requeue_86 : decode cX3_requeue 86 = .ok (.ireturn, 1) := by decide +kernel
theorem dX3_requeue_87 : decode cX3_requeue 87 = .ok (.aload_n 0, 1) := by decide +kernel
theorem dX3_requeue_88 : decode cX3_requeue 88 = .ok (.getfield 7, 3) := by decide +kernel
theorem dX3_requeue_91 : decode cX3_requeue 91 = .ok (.iload_n 2, 1) := by decide +kernel
theorem dX3_requeue_92 : decode cX3_requeue 92 = .ok (.iaload, 1) := by decide +kernel
theorem dX3_requeue_93 : decode cX3_requeue 93 = .ok (.iload_n 3, 1) := by decide +kernel
theorem dX3_requeue_94 : decode cX3_requeue 94 = .ok (.if_icmp .eq 5, 3) := by decide +kernel
theorem dX3_requeue_97 : decode cX3_requeue 97 = .ok (.iconst (-1), 1) := by decide +kernel
theorem dX3_requeue_98 : decode cX3_requeue 98 = .ok (.ireturn, 1) := by decide +kernel
theorem dX3_requeue_99 : decode cX3_requeue 99 = .ok (.aload_n 0, 1) := by decide +kernel
theorem dX3_requeue_100 : decode cX3_requeue 100 = .ok (.iload_n 2, 1) := by decide +kernel
theorem dX3_requeue_101 : decode cX3_requeue 101 = .ok (.iload 4, 2) := by decide +kernel
theorem dX3_requeue_103 : decode cX3_requeue 103 = .ok (.sipush 255, 3) := by decide +kernel
theorem dX3_requeue_106 : decode cX3_requeue 106 = .ok (.invokevirtual 109, 3) := by decide +kernel
theorem dX3_requeue_109 : decode cX3_requeue 109 = .ok (.istore 7, 2) := by decide +kernel
theorem dX3_requeue_111 : decode cX3_requeue 111 = .ok (.iconst 0, 1) := by decide +kernel
theorem dX3_requeue_112 : decode cX3_requeue 112 = .ok (.istore 8, 2) := by decide +kernel
theorem dX3_requeue_114 : decode cX3_requeue 114 = .ok (.aload_n 0, 1) := by decide +kernel
theorem dX3_requeue_115 : decode cX3_requeue 115 = .ok (.iload_n 2, 1) := by decide +kernel
theorem dX3_requeue_116 : decode cX3_requeue 116 = .ok (.iconst 1, 1) := by decide +kernel
theorem dX3_requeue_117 : decode cX3_requeue 117 = .ok (.sipush 255, 3) := by decide +kernel
theorem dX3_requeue_120 : decode cX3_requeue 120 = .ok (.invokevirtual 56, 3) := by decide +kernel
theorem dX3_requeue_123 : decode cX3_requeue 123 = .ok (.istore 9, 2) := by decide +kernel
theorem dX3_requeue_125 : decode cX3_requeue 125 = .ok (.iload 8, 2) := by decide +kernel
theorem dX3_requeue_127 : decode cX3_requeue 127 = .ok (.iload 6, 2) := by decide +kernel
theorem dX3_requeue_129 : decode cX3_requeue 129 = .ok (.if_icmp .ge 34, 3) := by decide +kernel
theorem dX3_requeue_132 : decode cX3_requeue 132 = .ok (.iload 9, 2) := by decide +kernel
theorem dX3_requeue_134 : decode cX3_requeue 134 = .ok (.iconst (-1), 1) := by decide +kernel
theorem dX3_requeue_135 : decode cX3_requeue 135 = .ok (.if_icmp .eq 28, 3) := by decide +kernel
theorem dX3_requeue_138 : decode cX3_requeue 138 = .ok (.aload_n 0, 1) := by decide +kernel
theorem dX3_requeue_139 : decode cX3_requeue 139 = .ok (.iload 9, 2) := by decide +kernel
theorem dX3_requeue_141 : decode cX3_requeue 141 = .ok (.iload 5, 2) := by decide +kernel
theorem dX3_requeue_143 : decode cX3_requeue 143 = .ok (.invokevirtual 81, 3) := by decide +kernel
theorem dX3_requeue_146 : decode cX3_requeue 146 = .ok (.iinc 8 1, 3) := by decide +kernel
theorem dX3_requeue_149 : decode cX3_requeue 149 = .ok (.aload_n 0, 1) := by decide +kernel
theorem dX3_requeue_150 : decode cX3_requeue 150 = .ok (.iload_n 2, 1) := by decide +kernel
theorem dX3_requeue_151 : decode cX3_requeue 151 = .ok (.iconst 1, 1) := by decide +kernel
theorem dX3_requeue_152 : decode cX3_requeue 152 = .ok (.sipush 255, 3) := by decide +kernel
theorem dX3_requeue_155 : decode cX3_requeue 155 = .ok (.invokevirtual 56, 3) := by decide +kernel
theorem dX3_requeue_158 : decode cX3_requeue 158 = .ok (.istore 9, 2) := by decide +kernel
theorem dX3_requeue_160 : decode cX3_requeue 160 = .ok (.goto (-35), 3) := by decide +kernel
theorem dX3_requeue_163 : decode cX3_requeue 163 = .ok (.iload 7, 2) := by decide +kernel
theorem dX3_requeue_165 : decode cX3_requeue 165 = .ok (.iload 8, 2) := by decide +kernel
theorem dX3_requeue_167 : decode cX3_requeue 167 = .ok (.iadd, 1) := by decide +kernel
theorem dX3_requeue_168 : decode cX3_requeue 168 = .ok (.ireturn, 1) := by decide +kernel
theorem dX3_place_0 : decode cX3_place 0 = .ok (.iconst (-1), 1) := by decide +kernel
theorem dX3_place_1 : decode cX3_place 1 = .ok (.istore_n 3, 1) := by decide +kernel
theorem dX3_place_2 : decode cX3_place 2 = .ok (.iconst 0, 1) := by decide +kernel
theorem dX3_place_3 : decode cX3_place 3 = .ok (.istore 4, 2) := by decide +kernel
theorem dX3_place_5 : decode cX3_place 5 = .ok (.iload 4, 2) := by decide +kernel
theorem dX3_place_7 : decode cX3_place 7 = .ok (.aload_n 0, 1) := by decide +kernel
theorem dX3_place_8 : decode cX3_place 8 = .ok (.getfield 40, 3) := by decide +kernel
theorem dX3_place_11 : decode cX3_place 11 = .ok (.iload_n 1, 1) := by decide +kernel
theorem dX3_place_12 : decode cX3_place 12 = .ok (.iaload, 1) := by decide +kernel
theorem dX3_place_13 : decode cX3_place 13 = .ok (.if_icmp .ge 32, 3) := by decide +kernel
theorem dX3_place_16 : decode cX3_place 16 = .ok (.aload_n 0, 1) := by decide +kernel
theorem dX3_place_17 : decode cX3_place 17 = .ok (.getfield 43, 3) := by decide +kernel
theorem dX3_place_20 : decode cX3_place 20 = .ok (.bipush 16, 2) := by decide +kernel
theorem dX3_place_22 : decode cX3_place 22 = .ok (.iload_n 1, 1) := by decide +kernel
theorem dX3_place_23 : decode cX3_place 23 = .ok (.imul, 1) := by decide +kernel
theorem dX3_place_24 : decode cX3_place 24 = .ok (.iload 4, 2) := by decide +kernel
theorem dX3_place_26 : decode cX3_place 26 = .ok (.iadd, 1) := by decide +kernel
theorem dX3_place_27 : decode cX3_place 27 = .ok (.iaload, 1) := by decide +kernel
theorem dX3_place_28 : decode cX3_place 28 = .ok (.iload_n 2, 1) := by decide +kernel
theorem dX3_place_29 : decode cX3_place 29 = .ok (.if_icmp .ne 8, 3) := by decide +kernel
theorem dX3_place_32 : decode cX3_place 32 = .ok (.iload 4, 2) := by decide +kernel
theorem dX3_place_34 : decode cX3_place 34 = .ok (.goto 4, 3) := by decide +kernel
theorem dX3_place_37 : decode cX3_place 37 = .ok (.iload_n 3, 1) := by decide +kernel
theorem dX3_place_38 : decode cX3_place 38 = .ok (.istore_n 3, 1) := by decide +kernel
theorem dX3_place_39 : decode cX3_place 39 = .ok (.iinc 4 1, 3) := by decide +kernel
theorem dX3_place_42 : decode cX3_place 42 = .ok (.goto (-37), 3) := by decide +kernel
theorem dX3_place_45 : decode cX3_place 45 = .ok (.iload_n 3, 1) := by decide +kernel
theorem dX3_place_46 : decode cX3_place 46 = .ok (.ireturn, 1) := by decide +kernel
set_option maxRecDepth 20000 in
theorem ggX3_gets_X3_place : GoodIn wsX3_gets wsX3_place := goodIn_r _ [7, 2, 1, 8, 9, 10, 11, 12, 13, 14, 15, 16, 17, 18, 19, 20, 21, 22, 23, 24] (by decide +kernel) (by decide +kernel)
set_option maxRecDepth 20000 in
theorem gX3_gets_X3_place : GoodIn wsX3_gets (wsV RX3 116 RX3 yX3_place wsX3_place) := goodIn_app (goodIn_of _ (by decide +kernel)) ggX3_gets_X3_place
theorem dX3_gets_0 : decode cX3_gets 0 = .ok (.aload_n 0, 1) := by decide +kernel
theorem dX3_gets_1 : decode cX3_gets 1 = .ok (.iload_n 1, 1) := by decide +kernel
theorem dX3_gets_2 : decode cX3_gets 2 = .ok (.iload_n 2, 1) := by decide +kernel
theorem dX3_gets_3 : decode cX3_gets 3 = .ok (.invokevirtual 116, 3) := by decide +kernel
theorem dX3_gets_6 : decode cX3_gets 6 = .ok (.iconst (-1), 1) := by decide +kernel
theorem dX3_gets_7 : decode cX3_gets 7 = .ok (.if_icmp .ne 30, 3) := by decide +kernel
theorem dX3_gets_10 : decode cX3_gets 10 = .ok (.aload_n 0, 1) := by decide +kernel
theorem dX3_gets_11 : decode cX3_gets 11 = .ok (.getfield 43, 3) := by decide +kernel
theorem dX3_gets_14 : decode cX3_gets 14 = .ok (.bipush 16, 2) := by decide +kernel
theorem dX3_gets_16 : decode cX3_gets 16 = .ok (.iload_n 1, 1) := by decide +kernel
theorem dX3_gets_17 : decode cX3_gets 17 = .ok (.imul, 1) := by decide +kernel
theorem dX3_gets_18 : decode cX3_gets 18 = .ok (.aload_n 0, 1) := by decide +kernel
theorem dX3_gets_19 : decode cX3_gets 19 = .ok (.getfield 40, 3) := by decide +kernel
theorem dX3_gets_22 : decode cX3_gets 22 = .ok (.iload_n 1, 1) := by decide +kernel
theorem dX3_gets_23 : decode cX3_gets 23 = .ok (.iaload, 1) := by decide +kernel
theorem dX3_gets_24 : decode cX3_gets 24 = .ok (.iadd, 1) := by decide +kernel
theorem dX3_gets_25 : decode cX3_gets 25 = .ok (.iload_n 2, 1) := by decide +kernel
theorem dX3_gets_26 : decode cX3_gets 26 = .ok (.iastore, 1) := by decide +kernel
theorem dX3_gets_27 : decode cX3_gets 27 = .ok (.aload_n 0, 1) := by decide +kernel
theorem dX3_gets_28 : decode cX3_gets 28 = .ok (.getfield 40, 3) := by decide +kernel
theorem dX3_gets_31 : decode cX3_gets 31 = .ok (.iload_n 1, 1) := by decide +kernel
theorem dX3_gets_32 : decode cX3_gets 32 = .ok (.dup2, 1) := by decide +kernel
theorem dX3_gets_33 : decode cX3_gets 33 = .ok (.iaload, 1) := by decide +kernel
theorem dX3_gets_34 : decode cX3_gets 34 = .ok (.iconst 1, 1) := by decide +kernel
theorem dX3_gets_35 : decode cX3_gets 35 = .ok (.iadd, 1) := by decide +kernel
theorem dX3_gets_36 : decode cX3_gets 36 = .ok (.iastore, 1) := by decide +kernel
theorem dX3_gets_37 : decode cX3_gets 37 = .ok (.return_, 1) := by decide +kernel
set_option maxRecDepth 20000 in
theorem ggX3_drops_X3_place : GoodIn wsX3_drops wsX3_place := goodIn_r _ [7, 1, 2, 8, 9, 10, 11, 12, 13, 14, 15, 16, 17, 18, 19, 20, 21, 22, 23, 24] (by decide +kernel) (by decide +kernel)
set_option maxRecDepth 20000 in
theorem gX3_drops_X3_place : GoodIn wsX3_drops (wsV RX3 116 RX3 yX3_place wsX3_place) := goodIn_app (goodIn_of _ (by decide +kernel)) ggX3_drops_X3_place
theorem dX3_drops_0 : decode cX3_drops 0 = .ok (.aload_n 0, 1) := by decide +kernel
theorem dX3_drops_1 : decode cX3_drops 1 = .ok (.iload_n 1, 1) := by decide +kernel
theorem dX3_drops_2 : decode cX3_drops 2 = .ok (.iload_n 2, 1) := by decide +kernel
theorem dX3_drops_3 : decode cX3_drops 3 = .ok (.invokevirtual 116, 3) := by decide +kernel
theorem dX3_drops_6 : decode cX3_drops 6 = .ok (.istore_n 3, 1) := by decide +kernel
theorem dX3_drops_7 : decode cX3_drops 7 = .ok (.iload_n 3, 1) := by decide +kernel
theorem dX3_drops_8 : decode cX3_drops 8 = .ok (.iconst (-1), 1) := by decide +kernel
theorem dX3_drops_9 : decode cX3_drops 9 = .ok (.if_icmp .ne 4, 3) := by decide +kernel
theorem dX3_drops_12 : decode cX3_drops 12 = .ok (.return_, 1) := by decide +kernel
theorem dX3_drops_13 : decode cX3_drops 13 = .ok (.aload_n 0, 1) := by decide +kernel
theorem dX3_drops_14 : decode cX3_drops 14 = .ok (.getfield 40, 3) := by decide +kernel
theorem dX3_drops_17 : decode cX3_drops 17 = .ok (.iload_n 1, 1) := by decide +kernel
theorem dX3_drops_18 : decode cX3_drops 18 = .ok (.dup2, 1) := by decide +kernel
theorem dX3_drops_19 : decode cX3_drops 19 = .ok (.iaload, 1) := by decide +kernel
theorem dX3_drops_20 : decode cX3_drops 20 = .ok (.iconst 1, 1) := by decide +kernel
theorem dX3_drops_21 : decode cX3_drops 21 = .ok (.isub, 1) := by decide +kernel
theorem dX3_drops_22 : decode cX3_drops 22 = .ok (.iastore, 1) := by decide +kernel
theorem dX3_drops_23 : decode cX3_drops 23 = .ok (.iload_n 3, 1) := by decide +kernel
theorem dX3_drops_24 : decode cX3_drops 24 = .ok (.aload_n 0, 1) := by decide +kernel
theorem dX3_drops_25 : decode cX3_drops 25 = .ok (.getfield 40, 3) := by decide +kernel
theorem dX3_drops_28 : decode cX3_drops 28 = .ok (.iload_n 1, 1) := by decide +kernel
theorem dX3_drops_29 : decode cX3_drops 29 = .ok (.iaload, 1) := by decide +kernel
theorem dX3_drops_30 : decode cX3_drops 30 = .ok (.if_icmp .ge 33, 3) := by decide +kernel
theorem dX3_drops_33 : decode cX3_drops 33 = .ok (.aload_n 0, 1) := by decide +kernel
theorem dX3_drops_34 : decode cX3_drops 34 = .ok (.getfield 43, 3) := by decide +kernel
theorem dX3_drops_37 : decode cX3_drops 37 = .ok (.bipush 16, 2) := by decide +kernel
theorem dX3_drops_39 : decode cX3_drops 39 = .ok (.iload_n 1, 1) := by decide +kernel
theorem dX3_drops_40 : decode cX3_drops 40 = .ok (.imul, 1) := by decide +kernel
theorem dX3_drops_41 : decode cX3_drops 41 = .ok (.iload_n 3, 1) := by decide +kernel
theorem dX3_drops_42 : decode cX3_drops 42 = .ok (.iadd, 1) := by decide +kernel
theorem dX3_drops_43 : decode cX3_drops 43 = .ok (.aload_n 0, 1) := by decide +kernel
theorem dX3_drops_44 : decode cX3_drops 44 = .ok (.getfield 43, 3) := by decide +kernel
theorem dX3_drops_47 : decode cX3_drops 47 = .ok (.bipush 16, 2) := by decide +kernel
theorem dX3_drops_49 : decode cX3_drops 49 = .ok (.iload_n 1, 1) := by decide +kernel
theorem dX3_drops_50 : decode cX3_drops 50 = .ok (.imul, 1) := by decide +kernel
theorem dX3_drops_51 : decode cX3_drops 51 = .ok (.iload_n 3, 1) := by decide +kernel
theorem dX3_drops_52 : decode cX3_drops 52 = .ok (.iadd, 1) := by decide +kernel
theorem dX3_drops_53 : decode cX3_drops 53 = .ok (.iconst 1, 1) := by decide +kernel
theorem dX3_drops_54 : decode cX3_drops 54 = .ok (.iadd, 1) := by decide +kernel
theorem dX3_drops_55 : decode cX3_drops 55 = .ok (.iaload, 1) := by decide +kernel
theorem dX3_drops_56 : decode cX3_drops 56 = .ok (.iastore, 1) := by decide +kernel
theorem dX3_drops_57 : decode cX3_drops 57 = .ok (.iinc 3 1, 3) := by decide +kernel
theorem dX3_drops_60 : decode cX3_drops 60 = .ok (.goto (-37), 3) := by decide +kernel
theorem dX3_drops_63 : decode cX3_drops 63 = .ok (.return_, 1) := by decide +kernel
set_option maxRecDepth 20000 in
theorem ggX3_passes_X3_first : GoodIn wsX3_passes wsX3_first := goodIn_r _ [8, 9, 10, 11, 12, 13, 14, 7, 15, 16, 17, 18, 45, 46, 47, 48, 49, 50, 51, 52, 53, 54, 55, 56, 57, 58, 59, 60, 61] (by decide +kernel) (by decide +kernel)
set_option maxRecDepth 20000 in
theorem gX3_passes_X3_first : GoodIn wsX3_passes (wsV RX3 56 RX3 yX3_first wsX3_first) := goodIn_app (goodIn_of _ (by decide +kernel)) ggX3_passes_X3_first
set_option maxRecDepth 20000 in
theorem ggX3_passes_X3_ends : GoodIn wsX3_passes wsX3_ends := goodIn_r _ [22, 23, 24, 25, 26, 27, 28, 7, 29, 9, 10, 2, 30, 31, 32, 33, 34, 4, 5, 6, 8, 11, 12, 13, 14, 15, 16, 17, 18, 45, 46, 47, 48, 49, 50, 51, 52, 53, 54, 55, 56, 57, 58, 59, 60, 61] (by decide +kernel) (by decide +kernel)
set_option maxRecDepth 20000 in
theorem gX3_passes_X3_ends : GoodIn wsX3_passes (wsV RX3 107 RX3 yX3_ends wsX3_ends) := goodIn_app (goodIn_of _ (by decide +kernel)) ggX3_passes_X3_ends
set_option maxRecDepth 20000 in
theorem ggX3_passes_X3_isSomebodyLocking : GoodIn wsX3_passes wsX3_isSomebodyLocking := goodIn_r _ [34, 4, 5, 6, 7, 8, 9, 10, 11, 12, 13, 14, 15, 16, 17, 18, 45, 46, 47, 48, 49, 50, 51, 52, 53, 54, 55, 56, 57, 58, 59, 60, 61] (by decide +kernel) (by decide +kernel)
set_option maxRecDepth 20000 in
theorem gX3_passes_X3_isSomebodyLocking : GoodIn wsX3_passes (wsV RX3 63 RX3 yX3_isSomebodyLocking wsX3_isSomebodyLocking) := goodIn_app (goodIn_of _ (by decide +kernel)) ggX3_passes_X3_isSomebodyLocking
set_option maxRecDepth 20000 in
theorem ggX3_passes_X3_gets : GoodIn wsX3_passes wsX3_gets := goodIn_r _ [38, 39, 40, 41, 42, 43, 7, 44, 45, 46, 47, 48, 49, 50, 51, 52, 53, 54, 55, 56, 57, 58, 59, 60, 61] (by decide +kernel) (by decide +kernel)
set_option maxRecDepth 20000 in
theorem gX3_passes_X3_gets : GoodIn wsX3_passes (wsV RX3 122 RX3 yX3_gets wsX3_gets) := goodIn_app (goodIn_of _ (by decide +kernel)) ggX3_passes_X3_gets
theorem dX3_passes_0 : decode cX3_passes 0 = .ok (.iload_n 2, 1) := by decide +kernel
theorem dX3_passes_1 : decode cX3_passes 1 = .ok (.ifCond .eq 8, 3) := by decide +kernel
theorem dX3_passes_4 : decode cX3_passes 4 = .ok (.ldc 120, 2) := by decide +kernel
theorem dX3_passes_6 : decode cX3_passes 6 = .ok (.goto 4, 3) := by decide +kernel
theorem dX3_passes_9 : decode cX3_passes 9 = .ok (.iconst 0, 1) := by decide +kernel
theorem dX3_passes_10 : decode cX3_passes 10 = .ok (.istore_n 3, 1) := by decide +kernel
theorem dX3_passes_11 : decode cX3_passes 11 = .ok (.aload_n 0, 1) := by decide +kernel
theorem dX3_passes_12 : decode cX3_passes 12 = .ok (.iload_n 1, 1) := by decide +kernel
theorem dX3_passes_13 : decode cX3_passes 13 = .ok (.iconst 2, 1) := by decide +kernel
theorem dX3_passes_14 : decode cX3_passes 14 = .ok (.sipush 255, 3) := by decide +kernel
theorem dX3_passes_17 : decode cX3_passes 17 = .ok (.invokevirtual 56, 3) := by decide +kernel
theorem dX3_passes_20 : decode cX3_passes 20 = .ok (.istore 4, 2) := by decide +kernel
theorem dX3_passes_22 : decode cX3_passes 22 = .ok (.iload 4, 2) := by decide +kernel
theorem dX3_passes_24 : decode cX3_passes 24 = .ok (.iconst (-1), 1) := by decide +kernel
theorem dX3_passes_25 : decode cX3_passes 25 = .ok (.if_icmp .ne 12, 3) := by decide +kernel
theorem dX3_passes_28 : decode cX3_passes 28 = .ok (.aload_n 0, 1) := by decide +kernel
theorem dX3_passes_29 : decode cX3_passes 29 = .ok (.getfield 7, 3) := by decide +kernel
theorem dX3_passes_32 : decode cX3_passes 32 = .ok (.iload_n 1, 1) := by decide +kernel
theorem dX3_passes_33 : decode cX3_passes 33 = .ok (.iload_n 3, 1) := by decide +kernel
theorem dX3_passes_34 : decode cX3_passes 34 = .ok (.iastore, 1) := by decide +kernel
theorem dX3_passes_35 : decode cX3_passes 35 = .ok (.iconst (-1), 1) := by decide +kernel
theorem dX3_passes_36 : decode cX3_passes 36 = .ok (.ireturn, 1) := by decide +kernel
theorem dX3_passes_37 : decode cX3_passes 37 = .ok (.aload_n 0, 1) := by decide +kernel
theorem dX3_passes_38 : decode cX3_passes 38 = .ok (.iload 4, 2) := by decide +kernel
theorem dX3_passes_40 : decode cX3_passes 40 = .ok (.iload_n 2, 1) := by decide +kernel
theorem dX3_passes_41 : decode cX3_passes 41 = .ok (.ifCond .eq 7, 3) := by decide +kernel
theorem dX3_passes_44 : decode cX3_passes 44 = .ok (.iconst 4, 1) := by decide +kernel
theorem dX3_passes_45 : decode cX3_passes 45 = .ok (.goto 4, 3) := by decide +kernel
theorem dX3_passes_48 : decode cX3_passes 48 = .ok (.iconst 3, 1) := by decide +kernel
theorem dX3_passes_49 : decode cX3_passes 49 = .ok (.invokevirtual 107, 3) := by decide +kernel
theorem dX3_passes_52 : decode cX3_passes 52 = .ok (.aload_n 0, 1) := by decide +kernel
theorem dX3_passes_53 : decode cX3_passes 53 = .ok (.getfield 7, 3) := by decide +kernel
theorem dX3_passes_56 : decode cX3_passes 56 = .ok (.iload_n 1, 1) := by decide +kernel
theorem dX3_passes_57 : decode cX3_passes 57 = .ok (.iload 4, 2) := by decide +kernel
theorem dX3_passes_59 : decode cX3_passes 59 = .ok (.iconst 1, 1) := by decide +kernel
theorem dX3_passes_60 : decode cX3_passes 60 = .ok (.iadd, 1) := by decide +kernel
theorem dX3_passes_61 : decode cX3_passes 61 = .ok (.iload_n 3, 1) := by decide +kernel
theorem dX3_passes_62 : decode cX3_passes 62 = .ok (.ior, 1) := by decide +kernel
theorem dX3_passes_63 : decode cX3_passes 63 = .ok (.aload_n 0, 1) := by decide +kernel
theorem dX3_passes_64 : decode cX3_passes 64 = .ok (.iload_n 1, 1) := by decide +kernel
theorem dX3_passes_65 : decode cX3_passes 65 = .ok (.invokevirtual 63, 3) := by decide +kernel
theorem dX3_passes_68 : decode cX3_passes 68 = .ok (.ifCond .eq 8, 3) := by decide +kernel
theorem dX3_passes_71 : decode cX3_passes 71 = .ok (.ldc 121, 2) := by decide +kernel
theorem dX3_passes_73 : decode cX3_passes 73 = .ok (.goto 4, 3) := by decide +kernel
theorem dX3_passes_76 : decode cX3_passes 76 = .ok (.iconst 0, 1) := by decide +kernel
theorem dX3_passes_77 : decode cX3_passes 77 = .ok (.ior, 1) := by decide +kernel
theorem dX3_passes_78 : decode cX3_passes 78 = .ok (.iastore, 1) := by decide +kernel
theorem dX3_passes_79 : decode cX3_passes 79 = .ok (.aload_n 0, 1) := by decide +kernel
theorem dX3_passes_80 : decode cX3_passes 80 = .ok (.iload 4, 2) := by decide +kernel
theorem dX3_passes_82 : decode cX3_passes 82 = .ok (.iload_n 1, 1) := by decide +kernel
theorem dX3_passes_83 : decode cX3_passes 83 = .ok (.invokevirtual 122, 3) := by decide +kernel
theorem dX3_passes_86 : decode cX3_passes 86 = .ok (.iload 4, 2) := by decide +kernel
theorem dX3_passes_88 : decode cX3_passes 88 = .ok (.ireturn, 1) := by decide +kernel
set_option maxRecDepth 20000 in
theorem ggX3_isDeadlock_X3_isThread : GoodIn wsX3_isDeadlock wsX3_isThread := goodIn_r _ [7] (by decide +kernel) (by decide +kernel)
set_option maxRecDepth 20000 in
theorem gX3_isDeadlock_X3_isThread : GoodIn wsX3_isDeadlock (va_wsS RX3 83 yX3_isThread wsX3_isThread) := goodIn_app (goodIn_of _ (by decide +kernel)) ggX3_isDeadlock_X3_isThread
set_option maxRecDepth 20000 in
theorem ggX3_isDeadlock_X3_ownerOf : GoodIn wsX3_isDeadlock wsX3_ownerOf := goodIn_r _ [10] (by decide +kernel) (by decide +kernel)
set_option maxRecDepth 20000 in
theorem gX3_isDeadlock_X3_ownerOf : GoodIn wsX3_isDeadlock (va_wsS RX3 125 yX3_ownerOf wsX3_ownerOf) := goodIn_app (goodIn_of _ (by decide +kernel)) ggX3_isDeadlock_X3_ownerOf
theorem dX3_isDeadlock_0 : decode cX3_isDeadlock 0 = .ok (.iload_n 2, 1) := by decide +kernel
theorem dX3_isDeadlock_1 : decode cX3_isDeadlock 1 = .ok (.istore_n 3, 1) := by decide +kernel
theorem dX3_isDeadlock_2 : decode cX3_isDeadlock 2 = .ok (.iconst 0, 1) := by decide +kernel
theorem dX3_isDeadlock_3 : decode cX3_isDeadlock 3 = .ok (.istore 4, 2) := by decide +kernel
theorem dX3_isDeadlock_5 : decode cX3_isDeadlock 5 = .ok (.iconst 0, 1) := by decide +kernel
theorem dX3_isDeadlock_6 : decode cX3_isDeadlock 6 = .ok (.istore 5, 2) := by decide +kernel
theorem dX3_isDeadlock_8 : decode cX3_isDeadlock 8 = .ok (.iload 5, 2) := by decide +kernel
theorem dX3_isDeadlock_10 : decode cX3_isDeadlock 10 = .ok (.bipush 8, 2) := by decide +kernel
theorem dX3_isDeadlock_12 : decode cX3_isDeadlock 12 = .ok (.if_icmp .ge 58, 3) := by decide +kernel
theorem dX3_isDeadlock_15 : decode cX3_isDeadlock 15 = .ok (.iload 4, 2) := by decide +kernel
theorem dX3_isDeadlock_17 : decode cX3_isDeadlock 17 = .ok (.ifCond .ne 53, 3) := by decide +kernel
theorem dX3_isDeadlock_20 : decode cX3_isDeadlock 20 = .ok (.iload_n 3, 1) := by decide +kernel
theorem dX3_isDeadlock_21 : decode cX3_isDeadlock 21 = .ok (.invokestatic 83, 3) := by decide +kernel
theorem dX3_isDeadlock_24 : decode cX3_isDeadlock 24 = .ok (.ifCond .eq 46, 3) := by decide +kernel
theorem dX3_isDeadlock_27 : decode cX3_isDeadlock 27 = .ok (.aload_n 0, 1) := by decide +kernel
theorem dX3_isDeadlock_28 : decode cX3_isDeadlock 28 = .ok (.getfield 13, 3) := by decide +kernel
theorem dX3_isDeadlock_31 : decode cX3_isDeadlock 31 = .ok (.iload_n 3, 1) := by decide +kernel
theorem dX3_isDeadlock_32 : decode cX3_isDeadlock 32 = .ok (.iaload, 1) := by decide +kernel
theorem dX3_isDeadlock_33 : decode cX3_isDeadlock 33 = .ok (.iconst 2, 1) := by decide +kernel
theorem dX3_isDeadlock_34 : decode cX3_isDeadlock 34 = .ok (.if_icmp .ne 36, 3) := by decide +kernel
theorem dX3_isDeadlock_37 : decode cX3_isDeadlock 37 = .ok (.aload_n 0, 1) := by decide +kernel
theorem dX3_isDeadlock_38 : decode cX3_isDeadlock 38 = .ok (.getfield 7, 3) := by decide +kernel
theorem dX3_isDeadlock_41 : decode cX3_isDeadlock 41 = .ok (.aload_n 0, 1) := by decide +kernel
theorem dX3_isDeadlock_42 : decode cX3_isDeadlock 42 = .ok (.getfield 25, 3) := by decide +kernel
theorem dX3_isDeadlock_45 : decode cX3_isDeadlock 45 = .ok (.iload_n 3, 1) := by decide +kernel
theorem dX3_isDeadlock_46 : decode cX3_isDeadlock 46 = .ok (.iaload, 1) := by decide +kernel
theorem dX3_isDeadlock_47 : decode cX3_isDeadlock 47 = .ok (.iaload, 1) := by decide +kernel
theorem dX3_isDeadlock_48 : decode cX3_isDeadlock 48 = .ok (.invokestatic 125, 3) := by decide +kernel
theorem dX3_isDeadlock_51 : decode cX3_isDeadlock 51 = .ok (.istore_n 3, 1) := by decide +kernel
theorem dX3_isDeadlock_52 : decode cX3_isDeadlock 52 = .ok (.iload_n 3, 1) := by decide +kernel
theorem dX3_isDeadlock_53 : decode cX3_isDeadlock 53 = .ok (.iload_n 1, 1) := by decide +kernel
theorem dX3_isDeadlock_54 : decode cX3_isDeadlock 54 = .ok (.if_icmp .ne 7, 3) := by decide +kernel
theorem dX3_isDeadlock_57 : decode cX3_isDeadlock 57 = .ok (.iconst 1, 1) := by decide +kernel
theorem dX3_isDeadlock_58 : decode cX3_isDeadlock 58 = .ok (.goto 4, 3) := by decide +kernel
theorem dX3_isDeadlock_61 : decode cX3_isDeadlock 61 = .ok (.iconst 0, 1) := by decide +kernel
theorem dX3_isDeadlock_62 : decode cX3_isDeadlock 62 = .ok (.istore 4, 2) := by decide +kernel
theorem dX3_isDeadlock_64 : decode cX3_isDeadlock 64 = .ok (.iinc 5 1, 3) := by decide +kernel
theorem dX3_isDeadlock_67 : decode cX3_isDeadlock 67 = .ok (.goto (-59), 3) := by decide +kernel
theorem dX3_isDeadlock_70 : decode cX3_isDeadlock 70 = .ok (.iload 4, 2) := by decide +kernel
theorem dX3_isDeadlock_72 : decode cX3_isDeadlock 72 = .ok (.ireturn, 1) := by decide +kernel
set_option maxRecDepth 20000 in
theorem ggX3_lock_X3_isTimeout : GoodIn wsX3_lock wsX3_isTimeout := goodIn_r _ [8] (by decide +kernel) (by decide +kernel)
set_option maxRecDepth 20000 in
theorem gX3_lock_X3_isTimeout : GoodIn wsX3_lock (va_wsS RX3 100 yX3_isTimeout wsX3_isTimeout) := goodIn_app (goodIn_of _ (by decide +kernel)) ggX3_lock_X3_isTimeout
set_option maxRecDepth 20000 in
theorem ggX3_lock_X3_asksRunning : GoodIn wsX3_lock wsX3_asksRunning := goodIn_r _ [12, 4, 13, 14, 15, 7, 16, 17, 18, 19, 67, 68, 69, 70, 71, 72, 73, 74, 75, 76, 77, 78, 79, 80, 81, 82, 83] (by decide +kernel) (by decide +kernel)
set_option maxRecDepth 20000 in
theorem gX3_lock_X3_asksRunning : GoodIn wsX3_lock (wsV RX3 89 RX3 yX3_asksRunning wsX3_asksRunning) := goodIn_app (goodIn_of _ (by decide +kernel)) ggX3_lock_X3_asksRunning
set_option maxRecDepth 20000 in
theorem ggX3_lock_X3_ownerOf : GoodIn wsX3_lock wsX3_ownerOf := goodIn_r _ [22] (by decide +kernel) (by decide +kernel)
set_option maxRecDepth 20000 in
theorem gX3_lock_X3_ownerOf : GoodIn wsX3_lock (va_wsS RX3 125 yX3_ownerOf wsX3_ownerOf) := goodIn_app (goodIn_of _ (by decide +kernel)) ggX3_lock_X3_ownerOf
set_option maxRecDepth 20000 in
theorem ggX3_lock_X3_isSomebodyLocking : GoodIn wsX3_lock wsX3_isSomebodyLocking := goodIn_r _ [26, 27, 28, 29, 7, 30, 4, 31, 32, 33, 34, 35, 36, 37, 38, 39, 67, 68, 69, 70, 71, 72, 73, 74, 75, 76, 77, 78, 79, 80, 81, 82, 83] (by decide +kernel) (by decide +kernel)
set_option maxRecDepth 20000 in
theorem gX3_lock_X3_isSomebodyLocking : GoodIn wsX3_lock (wsV RX3 63 RX3 yX3_isSomebodyLocking wsX3_isSomebodyLocking) := goodIn_app (goodIn_of _ (by decide +kernel)) ggX3_lock_X3_isSomebodyLocking
set_option maxRecDepth 20000 in
theorem ggX3_lock_X3_gets : GoodIn wsX3_lock wsX3_gets := goodIn_r _ [43, 44, 45, 46, 47, 48, 7, 49, 67, 68, 69, 70, 71, 72, 73, 74, 75, 76, 77, 78, 79, 80, 81, 82, 83] (by decide +kernel) (by decide +kernel)
set_option maxRecDepth 20000 in
theorem gX3_lock_X3_gets : GoodIn wsX3_lock (wsV RX3 122 RX3 yX3_gets wsX3_gets) := goodIn_app (goodIn_of _ (by decide +kernel)) ggX3_lock_X3_gets
set_option maxRecDepth 20000 in
theorem ggX3_lock_X3_isThread : GoodIn wsX3_lock wsX3_isThread := goodIn_r _ [16] (by decide +kernel) (by decide +kernel)
set_option maxRecDepth 20000 in
theorem gX3_lock_X3_isThread : GoodIn wsX3_lock (va_wsS RX3 83 yX3_isThread wsX3_isThread) := goodIn_app (goodIn_of _ (by decide +kernel)) ggX3_lock_X3_isThread
set_option maxRecDepth 20000 in
theorem ggX3_lock_X3_isDeadlock : GoodIn wsX3_lock wsX3_isDeadlock := goodIn_r _ [53, 4, 1, 31, 14, 15, 7, 16, 20, 21, 22, 67, 68, 69, 70, 71, 72, 73, 74, 75, 76, 77, 78, 79, 80, 81, 82, 83] (by decide +kernel) (by decide +kernel)
set_option maxRecDepth 20000 in
theorem gX3_lock_X3_isDeadlock : GoodIn wsX3_lock (wsV RX3 128 RX3 yX3_isDeadlock wsX3_isDeadlock) := goodIn_app (goodIn_of _ (by decide +kernel)) ggX3_lock_X3_isDeadlock
set_option maxRecDepth 20000 in
theorem ggX3_lock_X3_waits : GoodIn wsX3_lock wsX3_waits := goodIn_r _ [57, 4, 32, 58, 59, 60, 61, 62, 63, 64, 7, 65, 31, 66, 39, 67, 68, 69, 70, 71, 72, 73, 74, 75, 76, 77, 78, 79, 80, 81, 82, 83] (by decide +kernel) (by decide +kernel)
set_option maxRecDepth 20000 in
theorem gX3_lock_X3_waits : GoodIn wsX3_lock (wsV RX3 103 RX3 yX3_waits wsX3_waits) := goodIn_app (goodIn_of _ (by decide +kernel)) ggX3_lock_X3_waits
theorem dX3_lock_0 : decode cX3_lock 0 = .ok (.aload_n 0, 1) := by decide +kernel
theorem dX3_lock_1 : decode cX3_lock 1 = .ok (.iload_n 1, 1) := by decide +kernel
theorem dX3_lock_2 : decode cX3_lock 2 = .ok (.iload_n 2, 1) := by decide +kernel
theorem dX3_lock_3 : decode cX3_lock 3 = .ok (.iload_n 3, 1) := by decide +kernel
theorem dX3_lock_4 : decode cX3_lock 4 = .ok (.invokestatic 100, 3) := by decide +kernel
theorem dX3_lock_7 : decode cX3_lock 7 = .ok (.iconst 3, 1) := by decide +kernel
theorem dX3_lock_8 : decode cX3_lock 8 = .ok (.invokevirtual 89, 3) := by decide +kernel
theorem dX3_lock_11 : decode cX3_lock 11 = .ok (.ifCond .ne 5, 3) := by decide +kernel
theorem dX3_lock_14 : decode cX3_lock 14 = .ok (.iconst 0, 1) := by decide +kernel
theorem dX3_lock_15 : decode cX3_lock 15 = .ok (.ireturn, 1) := by decide +kernel
theorem dX3_lock_16 : decode cX3_lock 16 = .ok (.aload_n 0, 1) := by decide +kernel
theorem dX3_lock_17 : decode cX3_lock 17 = .ok (.getfield 7, 3) := by decide +kernel
theorem dX3_lock_20 : decode cX3_lock 20 = .ok (.iload_n 2, 1) := by decide +kernel
theorem dX3_lock_21 : decode cX3_lock 21 = .ok (.iaload, 1) := by decide +kernel
theorem dX3_lock_22 : decode cX3_lock 22 = .ok (.invokestatic 125, 3) := by decide +kernel
theorem dX3_lock_25 : decode cX3_lock 25 = .ok (.istore 4, 2) := by decide +kernel
theorem dX3_lock_27 : decode cX3_lock 27 = .ok (.iload 4, 2) := by decide +kernel
theorem dX3_lock_29 : decode cX3_lock 29 = .ok (.iconst (-1), 1) := by decide +kernel
theorem dX3_lock_30 : decode cX3_lock 30 = .ok (.if_icmp .ne 58, 3) := by decide +kernel
theorem dX3_lock_33 : decode cX3_lock 33 = .ok (.aload_n 0, 1) := by decide +kernel
theorem dX3_lock_34 : decode cX3_lock 34 = .ok (.getfield 7, 3) := by decide +kernel
theorem dX3_lock_37 : decode cX3_lock 37 = .ok (.iload_n 2, 1) := by decide +kernel
theorem dX3_lock_38 : decode cX3_lock 38 = .ok (.iaload, 1) := by decide +kernel
theorem dX3_lock_39 : decode cX3_lock 39 = .ok (.ldc 120, 2) := by decide +kernel
theorem dX3_lock_41 : decode cX3_lock 41 = .ok (.iand, 1) := by decide +kernel
theorem dX3_lock_42 : decode cX3_lock 42 = .ok (.istore 5, 2) := by decide +kernel
theorem dX3_lock_44 : decode cX3_lock 44 = .ok (.aload_n 0, 1) := by decide +kernel
theorem dX3_lock_45 : decode cX3_lock 45 = .ok (.getfield 7, 3) := by decide +kernel
theorem dX3_lock_48 : decode cX3_lock 48 = .ok (.iload_n 2, 1) := by decide +kernel
theorem dX3_lock_49 : decode cX3_lock 49 = .ok (.iload_n 1, 1) := by decide +kernel
theorem dX3_lock_50 : decode cX3_lock 50 = .ok (.iconst 1, 1) := by decide +kernel
theorem dX3_lock_51 : decode cX3_lock 51 = .ok (.iadd, 1) := by decide +kernel
theorem dX3_lock_52 : decode cX3_lock 52 = .ok (.iload 5, 2) := by decide +kernel
theorem dX3_lock_54 : decode cX3_lock 54 = .ok (.ior, 1) := by decide +kernel
theorem dX3_lock_55 : decode cX3_lock 55 = .ok (.aload_n 0, 1) := by decide +kernel
theorem dX3_lock_56 : decode cX3_lock 56 = .ok (.iload_n 2, 1) := by decide +kernel
theorem dX3_lock_57 : decode cX3_lock 57 = .ok (.invokevirtual 63, 3) := by decide +kernel
theorem dX3_lock_60 : decode cX3_lock 60 = .ok (.ifCond .eq 8, 3) := by decide +kernel
theorem dX3_lock_63 : decode cX3_lock 63 = .ok (.ldc 121, 2) := by decide +kernel
theorem dX3_lock_65 : decode cX3_lock 65 = .ok (.goto 4, 3) := by decide +kernel
theorem dX3_lock_68 : decode cX3_lock 68 = .ok (.iconst 0, 1) := by decide +kernel
theorem dX3_lock_69 : decode cX3_lock 69 = .ok (.ior, 1) := by decide +kernel
theorem dX3_lock_70 : decode cX3_lock 70 = .ok (.iastore, 1) := by decide +kernel
theorem dX3_lock_71 : decode cX3_lock 71 = .ok (.aload_n 0, 1) := by decide +kernel
theorem dX3_lock_72 : decode cX3_lock 72 = .ok (.iload_n 1, 1) := by decide +kernel
theorem dX3_lock_73 : decode cX3_lock 73 = .ok (.iload_n 2, 1) := by decide +kernel
theorem dX3_lock_74 : decode cX3_lock 74 = .ok (.invokevirtual 122, 3) := by decide +kernel
theorem dX3_lock_77 : decode cX3_lock 77 = .ok (.iload 5, 2) := by decide +kernel
theorem dX3_lock_79 : decode cX3_lock 79 = .ok (.ifCond .ne 7, 3) := by decide +kernel
theorem dX3_lock_82 : decode cX3_lock 82 = .ok (.iconst 0, 1) := by decide +kernel
theorem dX3_lock_83 : decode cX3_lock 83 = .ok (.goto 4, 3) := by decide +kernel
theorem dX3_lock_86 : decode cX3_lock 86 = .ok (.iconst 1, 1) := by decide +kernel
theorem dX3_lock_87 : decode cX3_lock 87 = .ok (.ireturn, 1) := by decide +kernel
theorem dX3_lock_88 : decode cX3_lock 88 = .ok (.iload 4, 2) := by decide +kernel
theorem dX3_lock_90 : decode cX3_lock 90 = .ok (.iload_n 1, 1) := by decide +kernel
theorem dX3_lock_91 : decode cX3_lock 91 = .ok (.if_icmp .ne 5, 3) := by decide +kernel
theorem dX3_lock_94 : decode cX3_lock 94 = .ok (.iconst 3, 1) := by decide +kernel
theorem dX3_lock_95 : decode cX3_lock 95 = .ok (.ireturn, 1) := by decide +kernel
theorem dX3_lock_96 : decode cX3_lock 96 = .ok (.iload 4, 2) := by decide +kernel
theorem dX3_lock_98 : decode cX3_lock 98 = .ok (.invokestatic 83, 3) := by decide +kernel
theorem dX3_lock_101 : decode cX3_lock 101 = .ok (.ifCond .eq 14, 3) := by decide +kernel
theorem dX3_lock_104 : decode cX3_lock 104 = .ok (.aload_n 0, 1) := by decide +kernel
theorem dX3_lock_105 : decode cX3_lock 105 = .ok (.getfield 13, 3) := by decide +kernel
theorem dX3_lock_108 : decode cX3_lock 108 = .ok (.iload 4, 2) := by decide +kernel
theorem dX3_lock_110 : decode cX3_lock 110 = .ok (.iaload, 1) := by decide +kernel
theorem dX3_lock_111 : decode cX3_lock 111 = .ok (.iconst 3, 1) := by decide +kernel
theorem dX3_lock_112 : decode cX3_lock 112 = .ok (.if_icmp .ne 5, 3) := by decide +kernel
theorem dX3_lock_115 : decode cX3_lock 115 = .ok (.iconst 4, 1) := by decide +kernel
theorem dX3_lock_116 : decode cX3_lock 116 = .ok (.ireturn, 1) := by decide +kernel
theorem dX3_lock_117 : decode cX3_lock 117 = .ok (.aload_n 0, 1) := by decide +kernel
theorem dX3_lock_118 : decode cX3_lock 118 = .ok (.iload_n 1, 1) := by decide +kernel
theorem dX3_lock_119 : decode cX3_lock 119 = .ok (.iload 4, 2) := by decide +kernel
theorem dX3_lock_121 : decode cX3_lock 121 = .ok (.invokevirtual 128, 3) := by decide +kernel
theorem dX3_lock_124 : decode cX3_lock 124 = .ok (.ifCond .eq 5, 3) := by decide +kernel
theorem dX3_lock_127 : decode cX3_lock 127 = .ok (.iconst 3, 1) := by decide +kernel
theorem dX3_lock_128 : decode cX3_lock 128 = .ok (.ireturn, 1) := by decide +kernel
theorem dX3_lock_129 : decode cX3_lock 129 = .ok (.aload_n 0, 1) := by decide +kernel
theorem dX3_lock_130 : decode cX3_lock 130 = .ok (.getfield 7, 3) := by decide +kernel
theorem dX3_lock_133 : decode cX3_lock 133 = .ok (.iload_n 2, 1) := by decide +kernel
theorem dX3_lock_134 : decode cX3_lock 134 = .ok (.dup2, 1) := by decide +kernel
theorem dX3_lock_135 : decode cX3_lock 135 = .ok (.iaload, 1) := by decide +kernel
theorem dX3_lock_136 : decode cX3_lock 136 = .ok (.ldc 121, 2) := by decide +kernel
theorem dX3_lock_138 : decode cX3_lock 138 = .ok (.ior, 1) := by decide +kernel
theorem dX3_lock_139 : decode cX3_lock 139 = .ok (.iastore, 1) := by decide +kernel
theorem dX3_lock_140 : decode cX3_lock 140 = .ok (.aload_n 0, 1) := by decide +kernel
theorem dX3_lock_141 : decode cX3_lock 141 = .ok (.iload_n 1, 1) := by decide +kernel
theorem dX3_lock_142 : decode cX3_lock 142 = .ok (.iload_n 2, 1) := by decide +kernel
theorem dX3_lock_143 : decode cX3_lock 143 = .ok (.iconst 2, 1) := by decide +kernel
theorem dX3_lock_144 : decode cX3_lock 144 = .ok (.sipush 255, 3) := by decide +kernel
theorem dX3_lock_147 : decode cX3_lock 147 = .ok (.iload_n 3, 1) := by decide +kernel
theorem dX3_lock_148 : decode cX3_lock 148 = .ok (.invokevirtual 103, 3) := by decide +kernel
theorem dX3_lock_151 : decode cX3_lock 151 = .ok (.iconst 2, 1) := by decide +kernel
theorem dX3_lock_152 : decode cX3_lock 152 = .ok (.ireturn, 1) := by decide +kernel
set_option maxRecDepth 20000 in
theorem ggX3_unlock_X3_asksRunning : GoodIn wsX3_unlock wsX3_asksRunning := goodIn_r _ [6, 7, 8, 9, 10, 5, 11, 12, 13, 14, 71, 72, 73, 74, 75, 76, 77, 78, 79, 80, 81, 82, 83, 84, 85, 86, 87] (by decide +kernel) (by decide +kernel)
set_option maxRecDepth 20000 in
theorem gX3_unlock_X3_asksRunning : GoodIn wsX3_unlock (wsV RX3 89 RX3 yX3_asksRunning wsX3_asksRunning) := goodIn_app (goodIn_of _ (by decide +kernel)) ggX3_unlock_X3_asksRunning
set_option maxRecDepth 20000 in
theorem ggX3_unlock_X3_ownerOf : GoodIn wsX3_unlock wsX3_ownerOf := goodIn_r _ [17] (by decide +kernel) (by decide +kernel)
set_option maxRecDepth 20000 in
theorem gX3_unlock_X3_ownerOf : GoodIn wsX3_unlock (va_wsS RX3 125 yX3_ownerOf wsX3_ownerOf) := goodIn_app (goodIn_of _ (by decide +kernel)) ggX3_unlock_X3_ownerOf
set_option maxRecDepth 20000 in
theorem ggX3_unlock_X3_fails : GoodIn wsX3_unlock wsX3_fails := goodIn_r _ [21, 8, 71, 72, 73, 74, 75, 76, 77, 78, 79, 80, 81, 82, 83, 84, 85, 86, 87] (by decide +kernel) (by decide +kernel)
set_option maxRecDepth 20000 in
theorem gX3_unlock_X3_fails : GoodIn wsX3_unlock (wsV RX3 112 RX3 yX3_fails wsX3_fails) := goodIn_app (goodIn_of _ (by decide +kernel)) ggX3_unlock_X3_fails
set_option maxRecDepth 20000 in
theorem ggX3_unlock_X3_drops : GoodIn wsX3_unlock wsX3_drops := goodIn_r _ [25, 26, 27, 28, 29, 30, 5, 31, 71, 72, 73, 74, 75, 76, 77, 78, 79, 80, 81, 82, 83, 84, 85, 86, 87] (by decide +kernel) (by decide +kernel)
set_option maxRecDepth 20000 in
theorem gX3_unlock_X3_drops : GoodIn wsX3_unlock (wsV RX3 132 RX3 yX3_drops wsX3_drops) := goodIn_app (goodIn_of _ (by decide +kernel)) ggX3_unlock_X3_drops
set_option maxRecDepth 20000 in
theorem ggX3_unlock_X3_passes : GoodIn wsX3_unlock wsX3_passes := goodIn_r _ [35, 36, 1, 37, 38, 39, 40, 5, 41, 7, 42, 43, 44, 45, 46, 47, 48, 49, 50, 51, 52, 53, 54, 55, 56, 57, 58, 59, 60, 61, 62, 63, 64, 65, 66, 67, 68, 69, 70, 27, 26, 28, 29, 30, 31, 71, 72, 73, 74, 75, 76, 77, 78, 79, 80, 81, 82, 83, 84, 85, 86, 87] (by decide +kernel) (by decide +kernel)
set_option maxRecDepth 20000 in
theorem gX3_unlock_X3_passes : GoodIn wsX3_unlock (wsV RX3 135 RX3 yX3_passes wsX3_passes) := goodIn_app (goodIn_of _ (by decide +kernel)) ggX3_unlock_X3_passes
theorem dX3_unlock_0 : decode cX3_unlock 0 = .ok (.aload_n 0, 1) := by decide +kernel
theorem dX3_unlock_1 : decode cX3_unlock 1 = .ok (.iload_n 1, 1) := by decide +kernel
theorem dX3_unlock_2 : decode cX3_unlock 2 = .ok (.iload_n 2, 1) := by decide +kernel
theorem dX3_unlock_3 : decode cX3_unlock 3 = .ok (.iconst 1, 1) := by decide +kernel
theorem dX3_unlock_4 : decode cX3_unlock 4 = .ok (.iconst 2, 1) := by decide +kernel
theorem dX3_unlock_5 : decode cX3_unlock 5 = .ok (.invokevirtual 89, 3) := by decide +kernel
theorem dX3_unlock_8 : decode cX3_unlock 8 = .ok (.ifCond .ne 5, 3) := by decide +kernel
theorem dX3_unlock_11 : decode cX3_unlock 11 = .ok (.iconst 0, 1) := by decide +kernel
theorem dX3_unlock_12 : decode cX3_unlock 12 = .ok (.ireturn, 1) := by decide +kernel
theorem dX3_unlock_13 : decode cX3_unlock 13 = .ok (.aload_n 0, 1) := by decide +kernel
theorem dX3_unlock_14 : decode cX3_unlock 14 = .ok (.getfield 7, 3) := by decide +kernel
theorem dX3_unlock_17 : decode cX3_unlock 17 = .ok (.iload_n 2, 1) := by decide +kernel
theorem dX3_unlock_18 : decode cX3_unlock 18 = .ok (.iaload, 1) := by decide +kernel
theorem dX3_unlock_19 : decode cX3_unlock 19 = .ok (.invokestatic 125, 3) := by decide +kernel
theorem dX3_unlock_22 : decode cX3_unlock 22 = .ok (.iload_n 1, 1) := by decide +kernel
theorem dX3_unlock_23 : decode cX3_unlock 23 = .ok (.if_icmp .eq 9, 3) := by decide +kernel
theorem dX3_unlock_26 : decode cX3_unlock 26 = .ok (.aload_n 0, 1) := by decide +kernel
theorem dX3_unlock_27 : decode cX3_unlock 27 = .ok (.iconst 2, 1) := by decide +kernel
theorem dX3_unlock_28 : decode cX3_unlock 28 = .ok (.invokevirtual 112, 3) := by decide +kernel
theorem dX3_unlock_31 : decode cX3_unlock 31 = .ok (.ireturn, 1) := by decide +kernel
theorem dX3_unlock_32 : decode cX3_unlock 32 = .ok (.aload_n 0, 1) := by decide +kernel
theorem dX3_unlock_33 : decode cX3_unlock 33 = .ok (.iload_n 1, 1) := by decide +kernel
theorem dX3_unlock_34 : decode cX3_unlock 34 = .ok (.iload_n 2, 1) := by decide +kernel
theorem dX3_unlock_35 : decode cX3_unlock 35 = .ok (.invokevirtual 132, 3) := by decide +kernel
theorem dX3_unlock_38 : decode cX3_unlock 38 = .ok (.aload_n 0, 1) := by decide +kernel
theorem dX3_unlock_39 : decode cX3_unlock 39 = .ok (.iload_n 2, 1) := by decide +kernel
theorem dX3_unlock_40 : decode cX3_unlock 40 = .ok (.iconst 0, 1) := by decide +kernel
theorem dX3_unlock_41 : decode cX3_unlock 41 = .ok (.invokevirtual 135, 3) := by decide +kernel
theorem dX3_unlock_44 : decode cX3_unlock 44 = .ok (.ireturn, 1) := by decide +kernel
set_option maxRecDepth 20000 in
theorem ggX3_locks_X3_isThread : GoodIn wsX3_locks wsX3_isThread := goodIn_r _ [5] (by decide +kernel) (by decide +kernel)
set_option maxRecDepth 20000 in
theorem gX3_locks_X3_isThread : GoodIn wsX3_locks (va_wsS RX3 83 yX3_isThread wsX3_isThread) := goodIn_app (goodIn_of _ (by decide +kernel)) ggX3_locks_X3_isThread
set_option maxRecDepth 20000 in
theorem ggX3_locks_X3_asks : GoodIn wsX3_locks wsX3_asks := goodIn_r _ [9, 10, 11, 12, 13, 14, 15, 16, 17, 18, 19, 20, 21, 22, 23, 24, 25, 26, 27] (by decide +kernel) (by decide +kernel)
set_option maxRecDepth 20000 in
theorem gX3_locks_X3_asks : GoodIn wsX3_locks (wsV RX3 93 RX3 yX3_asks wsX3_asks) := goodIn_app (goodIn_of _ (by decide +kernel)) ggX3_locks_X3_asks
theorem dX3_locks_0 : decode cX3_locks 0 = .ok (.aload_n 0, 1) := by decide +kernel
theorem dX3_locks_1 : decode cX3_locks 1 = .ok (.iload_n 1, 1) := by decide +kernel
theorem dX3_locks_2 : decode cX3_locks 2 = .ok (.invokestatic 83, 3) := by decide +kernel
theorem dX3_locks_5 : decode cX3_locks 5 = .ok (.invokevirtual 93, 3) := by decide +kernel
theorem dX3_locks_8 : decode cX3_locks 8 = .ok (.ifCond .eq 12, 3) := by decide +kernel
theorem dX3_locks_11 : decode cX3_locks 11 = .ok (.aload_n 0, 1) := by decide +kernel
theorem dX3_locks_12 : decode cX3_locks 12 = .ok (.getfield 40, 3) := by decide +kernel
theorem dX3_locks_15 : decode cX3_locks 15 = .ok (.iload_n 1, 1) := by decide +kernel
theorem dX3_locks_16 : decode cX3_locks 16 = .ok (.iaload, 1) := by decide +kernel
theorem dX3_locks_17 : decode cX3_locks 17 = .ok (.goto 4, 3) := by decide +kernel
theorem dX3_locks_20 : decode cX3_locks 20 = .ok (.iconst 0, 1) := by decide +kernel
theorem dX3_locks_21 : decode cX3_locks 21 = .ok (.ireturn, 1) := by decide +kernel
set_option maxRecDepth 20000 in
theorem ggX3_lockAt_X3_isThread : GoodIn wsX3_lockAt wsX3_isThread := goodIn_r _ [6] (by decide +kernel) (by decide +kernel)
set_option maxRecDepth 20000 in
theorem gX3_lockAt_X3_isThread : GoodIn wsX3_lockAt (va_wsS RX3 83 yX3_isThread wsX3_isThread) := goodIn_app (goodIn_of _ (by decide +kernel)) ggX3_lockAt_X3_isThread
set_option maxRecDepth 20000 in
theorem ggX3_lockAt_X3_asks : GoodIn wsX3_lockAt wsX3_asks := goodIn_r _ [10, 11, 12, 13, 14, 15, 16, 17, 18, 19, 20, 21, 22, 23, 24, 25, 26, 27, 28] (by decide +kernel) (by decide +kernel)
set_option maxRecDepth 20000 in
theorem gX3_lockAt_X3_asks : GoodIn wsX3_lockAt (wsV RX3 93 RX3 yX3_asks wsX3_asks) := goodIn_app (goodIn_of _ (by decide +kernel)) ggX3_lockAt_X3_asks
theorem dX3_lockAt_0 : decode cX3_lockAt 0 = .ok (.aload_n 0, 1) := by decide +kernel
theorem dX3_lockAt_1 : decode cX3_lockAt 1 = .ok (.iload_n 1, 1) := by decide +kernel
theorem dX3_lockAt_2 : decode cX3_lockAt 2 = .ok (.invokestatic 83, 3) := by decide +kernel
theorem dX3_lockAt_5 : decode cX3_lockAt 5 = .ok (.ifCond .eq 21, 3) := by decide +kernel
theorem dX3_lockAt_8 : decode cX3_lockAt 8 = .ok (.iload_n 2, 1) := by decide +kernel
theorem dX3_lockAt_9 : decode cX3_lockAt 9 = .ok (.ifCond .lt 17, 3) := by decide +kernel
theorem dX3_lockAt_12 : decode cX3_lockAt 12 = .ok (.iload_n 2, 1) := by decide +kernel
theorem dX3_lockAt_13 : decode cX3_lockAt 13 = .ok (.aload_n 0, 1) := by decide +kernel
theorem dX3_lockAt_14 : decode cX3_lockAt 14 = .ok (.getfield 40, 3) := by decide +kernel
theorem dX3_lockAt_17 : decode cX3_lockAt 17 = .ok (.iload_n 1, 1) := by decide +kernel
theorem dX3_lockAt_18 : decode cX3_lockAt 18 = .ok (.iaload, 1) := by decide +kernel
theorem dX3_lockAt_19 : decode cX3_lockAt 19 = .ok (.if_icmp .ge 7, 3) := by decide +kernel
theorem dX3_lockAt_22 : decode cX3_lockAt 22 = .ok (.iconst 1, 1) := by decide +kernel
theorem dX3_lockAt_23 : decode cX3_lockAt 23 = .ok (.goto 4, 3) := by decide +kernel
theorem dX3_lockAt_26 : decode cX3_lockAt 26 = .ok (.iconst 0, 1) := by decide +kernel
theorem dX3_lockAt_27 : decode cX3_lockAt 27 = .ok (.invokevirtual 93, 3) := by decide +kernel
theorem dX3_lockAt_30 : decode cX3_lockAt 30 = .ok (.ifCond .eq 17, 3) := by decide +kernel
theorem dX3_lockAt_33 : decode cX3_lockAt 33 = .ok (.aload_n 0, 1) := by decide +kernel
theorem dX3_lockAt_34 : decode cX3_lockAt 34 = .ok (.getfield 43, 3) := by decide +kernel
theorem dX3_lockAt_37 : decode cX3_lockAt 37 = .ok (.bipush 16, 2) := by decide +kernel
theorem dX3_lockAt_39 : decode cX3_lockAt 39 = .ok (.iload_n 1, 1) := by decide +kernel
theorem dX3_lockAt_40 : decode cX3_lockAt 40 = .ok (.imul, 1) := by decide +kernel
theorem dX3_lockAt_41 : decode cX3_lockAt 41 = .ok (.iload_n 2, 1) := by decide +kernel
theorem dX3_lockAt_42 : decode cX3_lockAt 42 = .ok (.iadd, 1) := by decide +kernel
theorem dX3_lockAt_43 : decode cX3_lockAt 43 = .ok (.iaload, 1) := by decide +kernel
theorem dX3_lockAt_44 : decode cX3_lockAt 44 = .ok (.goto 4, 3) := by decide +kernel
theorem dX3_lockAt_47 : decode cX3_lockAt 47 = .ok (.iconst 0, 1) := by decide +kernel
theorem dX3_lockAt_48 : decode cX3_lockAt 48 = .ok (.ireturn, 1) := by decide +kernel
set_option maxRecDepth 20000 in
theorem ggX3_blockedBy_X3_isThread : GoodIn wsX3_blockedBy wsX3_isThread := goodIn_r _ [7] (by decide +kernel) (by decide +kernel)
set_option maxRecDepth 20000 in
theorem gX3_blockedBy_X3_isThread : GoodIn wsX3_blockedBy (va_wsS RX3 83 yX3_isThread wsX3_isThread) := goodIn_app (goodIn_of _ (by decide +kernel)) ggX3_blockedBy_X3_isThread
set_option maxRecDepth 20000 in
theorem ggX3_blockedBy_X3_asks : GoodIn wsX3_blockedBy wsX3_asks := goodIn_r _ [11, 12, 16, 17, 18, 19, 20, 21, 22, 23, 24, 25, 26, 27, 28, 29, 30, 31, 32] (by decide +kernel) (by decide +kernel)
set_option maxRecDepth 20000 in
theorem gX3_blockedBy_X3_asks : GoodIn wsX3_blockedBy (wsV RX3 93 RX3 yX3_asks wsX3_asks) := goodIn_app (goodIn_of _ (by decide +kernel)) ggX3_blockedBy_X3_asks
set_option maxRecDepth 20000 in
theorem ggX3_blockedBy_X3_ownerOf : GoodIn wsX3_blockedBy wsX3_ownerOf := goodIn_r _ [15] (by decide +kernel) (by decide +kernel)
set_option maxRecDepth 20000 in
theorem gX3_blockedBy_X3_ownerOf : GoodIn wsX3_blockedBy (va_wsS RX3 125 yX3_ownerOf wsX3_ownerOf) := goodIn_app (goodIn_of _ (by decide +kernel)) ggX3_blockedBy_X3_ownerOf
theorem dX3_blockedBy_0 : decode cX3_blockedBy 0 = .ok (.aload_n 0, 1) := by decide +kernel
theorem dX3_blockedBy_1 : decode cX3_blockedBy 1 = .ok (.iload_n 1, 1) := by decide +kernel
theorem dX3_blockedBy_2 : decode cX3_blockedBy 2 = .ok (.invokestatic 83, 3) := by decide +kernel
theorem dX3_blockedBy_5 : decode cX3_blockedBy 5 = .ok (.invokevirtual 93, 3) := by decide +kernel
theorem dX3_blockedBy_8 : decode cX3_blockedBy 8 = .ok (.ifCond .ne 5, 3) := by decide +kernel
theorem dX3_blockedBy_11 : decode cX3_blockedBy 11 = .ok (.iconst 0, 1) := by decide +kernel
theorem dX3_blockedBy_12 : decode cX3_blockedBy 12 = .ok (.ireturn, 1) := by decide +kernel
theorem dX3_blockedBy_13 : decode cX3_blockedBy 13 = .ok (.iconst 1, 1) := by decide +kernel
theorem dX3_blockedBy_14 : decode cX3_blockedBy 14 = .ok (.iload_n 1, 1) := by decide +kernel
theorem dX3_blockedBy_15 : decode cX3_blockedBy 15 = .ok (.ishl, 1) := by decide +kernel
theorem dX3_blockedBy_16 : decode cX3_blockedBy 16 = .ok (.istore_n 2, 1) := by decide +kernel
theorem dX3_blockedBy_17 : decode cX3_blockedBy 17 = .ok (.iconst 0, 1) := by decide +kernel
theorem dX3_blockedBy_18 : decode cX3_blockedBy 18 = .ok (.istore_n 3, 1) := by decide +kernel
theorem dX3_blockedBy_19 : decode cX3_blockedBy 19 = .ok (.iload_n 2, 1) := by decide +kernel
theorem dX3_blockedBy_20 : decode cX3_blockedBy 20 = .ok (.iload_n 3, 1) := by decide +kernel
theorem dX3_blockedBy_21 : decode cX3_blockedBy 21 = .ok (.if_icmp .eq 85, 3) := by decide +kernel
theorem dX3_blockedBy_24 : decode cX3_blockedBy 24 = .ok (.iload_n 2, 1) := by decide +kernel
theorem dX3_blockedBy_25 : decode cX3_blockedBy 25 = .ok (.istore_n 3, 1) := by decide +kernel
theorem dX3_blockedBy_26 : decode cX3_blockedBy 26 = .ok (.iconst 0, 1) := by decide +kernel
theorem dX3_blockedBy_27 : decode cX3_blockedBy 27 = .ok (.istore 4, 2) := by decide +kernel
theorem dX3_blockedBy_29 : decode cX3_blockedBy 29 = .ok (.iload 4, 2) := by decide +kernel
theorem dX3_blockedBy_31 : decode cX3_blockedBy 31 = .ok (.bipush 8, 2) := by decide +kernel
theorem dX3_blockedBy_33 : decode cX3_blockedBy 33 = .ok (.if_icmp .ge 70, 3) := by decide +kernel
theorem dX3_blockedBy_36 : decode cX3_blockedBy 36 = .ok (.aload_n 0, 1) := by decide +kernel
theorem dX3_blockedBy_37 : decode cX3_blockedBy 37 = .ok (.getfield 13, 3) := by decide +kernel
theorem dX3_blockedBy_40 : decode cX3_blockedBy 40 = .ok (.iload 4, 2) := by decide +kernel
theorem dX3_blockedBy_42 : decode cX3_blockedBy 42 = .ok (.iaload, 1) := by decide +kernel
theorem dX3_blockedBy_43 : decode cX3_blockedBy 43 = .ok (.iconst 2, 1) := by decide +kernel
theorem dX3_blockedBy_44 : decode cX3_blockedBy 44 = .ok (.if_icmp .ne 21, 3) := by decide +kernel
theorem dX3_blockedBy_47 : decode cX3_blockedBy 47 = .ok (.aload_n 0, 1) := by decide +kernel
theorem dX3_blockedBy_48 : decode cX3_blockedBy 48 = .ok (.getfield 7, 3) := by decide +kernel
theorem dX3_blockedBy_51 : decode cX3_blockedBy 51 = .ok (.aload_n 0, 1) := by decide +kernel
theorem dX3_blockedBy_52 : decode cX3_blockedBy 52 = .ok (.getfield 25, 3) := by decide +kernel
theorem dX3_blockedBy_55 : decode cX3_blockedBy 55 = .ok (.iload 4, 2) := by decide +kernel
theorem dX3_blockedBy_57 : decode cX3_blockedBy 57 = .ok (.iaload, 1) := by decide +kernel
theorem dX3_blockedBy_58 : decode cX3_blockedBy 58 = .ok (.iaload, 1) := by decide +kernel
theorem dX3_blockedBy_59 : decode cX3_blockedBy 59 = .ok (.invokestatic 125, 3) := by decide +kernel
theorem dX3_blockedBy_62 : decode cX3_blockedBy 62 = .ok (.goto 4, 3) := by decide +kernel
theorem dX3_blockedBy_65 : decode cX3_blockedBy 65 = .ok (.iconst (-1), 1) := by decide +kernel
theorem dX3_blockedBy_66 : decode cX3_blockedBy 66 = .ok (.istore 5, 2) := by decide +kernel
theorem dX3_blockedBy_68 : decode cX3_blockedBy 68 = .ok (.iload_n 2, 1) := by decide +kernel
theorem dX3_blockedBy_69 : decode cX3_blockedBy 69 = .ok (.iload 5, 2) := by decide +kernel
theorem dX3_blockedBy_71 : decode cX3_blockedBy 71 = .ok (.invokestatic 83, 3) := by decide +kernel
theorem dX3_blockedBy_74 : decode cX3_blockedBy 74 = .ok (.ifCond .eq 20, 3) := by decide +kernel
theorem dX3_blockedBy_77 : decode cX3_blockedBy 77 = .ok (.iload_n 2, 1) := by decide +kernel
theorem dX3_blockedBy_78 : decode cX3_blockedBy 78 = .ok (.iload 5, 2) := by decide +kernel
theorem dX3_blockedBy_80 : decode cX3_blockedBy 80 = .ok (.ishr, 1) := by decide +kernel
theorem dX3_blockedBy_81 : decode cX3_blockedBy 81 = .ok (.iconst 1, 1) := by decide +kernel
theorem dX3_blockedBy_82 : decode cX3_blockedBy 82 = .ok (.iand, 1) := by decide +kernel
theorem dX3_blockedBy_83 : decode cX3_blockedBy 83 = .ok (.iconst 1, 1) := by decide +kernel
theorem dX3_blockedBy_84 : decode cX3_blockedBy 84 = .ok (.if_icmp .ne 10, 3) := by decide +kernel
theorem dX3_blockedBy_87 : decode cX3_blockedBy 87 = .ok (.iconst 1, 1) := by decide +kernel
theorem dX3_blockedBy_88 : decode cX3_blockedBy 88 = .ok (.iload 4, 2) := by decide +kernel
theorem dX3_blockedBy_90 : decode cX3_blockedBy 90 = .ok (.ishl, 1) := by decide +kernel
theorem dX3_blockedBy_91 : decode cX3_blockedBy 91 = .ok (.goto 4, 3) := by decide +kernel
theorem dX3_blockedBy_94 : decode cX3_blockedBy 94 = .ok (.iconst 0, 1) := by decide +kernel
theorem dX3_blockedBy_95 : decode cX3_blockedBy 95 = .ok (.ior, 1) := by decide +kernel
theorem dX3_blockedBy_96 : decode cX3_blockedBy 96 = .ok (.istore_n 2, 1) := by decide +kernel
theorem dX3_blockedBy_97 : decode cX3_blockedBy 97 = .ok (.iinc 4 1, 3) := by decide +kernel
theorem dX3_blockedBy_100 : decode cX3_blockedBy 100 = .ok (.goto (-71), 3) := by decide +kernel
theorem dX3_blockedBy_103 : decode cX3_blockedBy 103 = .ok (.goto (-84), 3) := by decide +kernel
theorem dX3_blockedBy_106 : decode cX3_blockedBy 106 = .ok (.iconst (-1), 1) := by decide +kernel
theorem dX3_blockedBy_107 : decode cX3_blockedBy 107 = .ok (.istore 4, 2) := by decide +kernel
theorem dX3_blockedBy_109 : decode cX3_blockedBy 109 = .ok (.iconst 0, 1) := by decide +kernel
theorem dX3_blockedBy_110 : decode cX3_blockedBy 110 = .ok (.istore 5, 2) := by decide +kernel
theorem dX3_blockedBy_112 : decode cX3_blockedBy 112 = .ok (.iload 5, 2) := by decide +kernel
theorem dX3_blockedBy_114 : decode cX3_blockedBy 114 = .ok (.bipush 8, 2) := by decide +kernel
theorem dX3_blockedBy_116 : decode cX3_blockedBy 116 = .ok (.if_icmp .ge 20, 3) := by decide +kernel
theorem dX3_blockedBy_119 : decode cX3_blockedBy 119 = .ok (.iload 4, 2) := by decide +kernel
theorem dX3_blockedBy_121 : decode cX3_blockedBy 121 = .ok (.iload_n 2, 1) := by decide +kernel
theorem dX3_blockedBy_122 : decode cX3_blockedBy 122 = .ok (.iload 5, 2) := by decide +kernel
theorem dX3_blockedBy_124 : decode cX3_blockedBy 124 = .ok (.ishr, 1) := by decide +kernel
theorem dX3_blockedBy_125 : decode cX3_blockedBy 125 = .ok (.iconst 1, 1) := by decide +kernel
theorem dX3_blockedBy_126 : decode cX3_blockedBy 126 = .ok (.iand, 1) := by decide +kernel
theorem dX3_blockedBy_127 : decode cX3_blockedBy 127 = .ok (.iadd, 1) := by decide +kernel
theorem dX3_blockedBy_128 : decode cX3_blockedBy 128 = .ok (.istore 4, 2) := by decide +kernel
theorem dX3_blockedBy_130 : decode cX3_blockedBy 130 = .ok (.iinc 5 1, 3) := by decide +kernel
theorem dX3_blockedBy_133 : decode cX3_blockedBy 133 = .ok (.goto (-21), 3) := by decide +kernel
theorem dX3_blockedBy_136 : decode cX3_blockedBy 136 = .ok (.iload 4, 2) := by decide +kernel
theorem dX3_blockedBy_138 : decode cX3_blockedBy 138 = .ok (.ireturn, 1) := by decide +kernel
set_option maxRecDepth 20000 in
theorem ggX3_interrupt_X3_isThread : GoodIn wsX3_interrupt wsX3_isThread := goodIn_r _ [5] (by decide +kernel) (by decide +kernel)
set_option maxRecDepth 20000 in
theorem gX3_interrupt_X3_isThread : GoodIn wsX3_interrupt (va_wsS RX3 83 yX3_isThread wsX3_isThread) := goodIn_app (goodIn_of _ (by decide +kernel)) ggX3_interrupt_X3_isThread
set_option maxRecDepth 20000 in
theorem ggX3_interrupt_X3_asks : GoodIn wsX3_interrupt wsX3_asks := goodIn_r _ [9, 1, 45, 46, 47, 48, 49, 50, 51, 52, 53, 54, 55, 56, 57, 58, 59, 60, 61] (by decide +kernel) (by decide +kernel)
set_option maxRecDepth 20000 in
theorem gX3_interrupt_X3_asks : GoodIn wsX3_interrupt (wsV RX3 93 RX3 yX3_asks wsX3_asks) := goodIn_app (goodIn_of _ (by decide +kernel)) ggX3_interrupt_X3_asks
set_option maxRecDepth 20000 in
theorem ggX3_interrupt_X3_isQueued : GoodIn wsX3_interrupt wsX3_isQueued := goodIn_r _ [13, 14, 45, 46, 47, 48, 49, 50, 51, 52, 53, 54, 55, 56, 57, 58, 59, 60, 61] (by decide +kernel) (by decide +kernel)
set_option maxRecDepth 20000 in
theorem gX3_interrupt_X3_isQueued : GoodIn wsX3_interrupt (wsV RX3 139 RX3 yX3_isQueued wsX3_isQueued) := goodIn_app (goodIn_of _ (by decide +kernel)) ggX3_interrupt_X3_isQueued
set_option maxRecDepth 20000 in
theorem ggX3_interrupt_X3_ends : GoodIn wsX3_interrupt wsX3_ends := goodIn_r _ [18, 19, 20, 21, 22, 23, 24, 4, 25, 14, 26, 27, 28, 29, 30, 31, 32, 33, 34, 35, 36, 37, 38, 39, 40, 41, 42, 43, 44, 45, 46, 47, 48, 49, 50, 51, 52, 53, 54, 55, 56, 57, 58, 59, 60, 61] (by decide +kernel) (by decide +kernel)
set_option maxRecDepth 20000 in
theorem gX3_interrupt_X3_ends : GoodIn wsX3_interrupt (wsV RX3 107 RX3 yX3_ends wsX3_ends) := goodIn_app (goodIn_of _ (by decide +kernel)) ggX3_interrupt_X3_ends
theorem dX3_interrupt_0 : decode cX3_interrupt 0 = .ok (.aload_n 0, 1) := by decide +kernel
theorem dX3_interrupt_1 : decode cX3_interrupt 1 = .ok (.iload_n 1, 1) := by decide +kernel
theorem dX3_interrupt_2 : decode cX3_interrupt 2 = .ok (.invokestatic 83, 3) := by decide +kernel
theorem dX3_interrupt_5 : decode cX3_interrupt 5 = .ok (.invokevirtual 93, 3) := by decide +kernel
theorem dX3_interrupt_8 : decode cX3_interrupt 8 = .ok (.ifCond .ne 4, 3) := by decide +kernel
theorem dX3_interrupt_11 : decode cX3_interrupt 11 = .ok (.return_, 1) := by decide +kernel
theorem dX3_interrupt_12 : decode cX3_interrupt 12 = .ok (.aload_n 0, 1) := by decide +kernel
theorem dX3_interrupt_13 : decode cX3_interrupt 13 = .ok (.iload_n 1, 1) := by decide +kernel
theorem dX3_interrupt_14 : decode cX3_interrupt 14 = .ok (.invokevirtual 139, 3) := by decide +kernel
theorem dX3_interrupt_17 : decode cX3_interrupt 17 = .ok (.ifCond .ne 9, 3) := by decide +kernel
theorem dX3_interrupt_20 : decode cX3_interrupt 20 = .ok (.aload_n 0, 1) := by decide +kernel
theorem dX3_interrupt_21 : decode cX3_interrupt 21 = .ok (.iconst 2, 1) := by decide +kernel
theorem dX3_interrupt_22 : decode cX3_interrupt 22 = .ok (.putfield 46, 3) := by decide +kernel
theorem dX3_interrupt_25 : decode cX3_interrupt 25 = .ok (.return_, 1) := by decide +kernel
theorem dX3_interrupt_26 : decode cX3_interrupt 26 = .ok (.aload_n 0, 1) := by decide +kernel
theorem dX3_interrupt_27 : decode cX3_interrupt 27 = .ok (.iload_n 1, 1) := by decide +kernel
theorem dX3_interrupt_28 : decode cX3_interrupt 28 = .ok (.iconst 2, 1) := by decide +kernel
theorem dX3_interrupt_29 : decode cX3_interrupt 29 = .ok (.invokevirtual 107, 3) := by decide +kernel
theorem dX3_interrupt_32 : decode cX3_interrupt 32 = .ok (.return_, 1) := by decide +kernel
set_option maxRecDepth 20000 in
theorem ggX3_exit_X3_isThread : GoodIn wsX3_exit wsX3_isThread := goodIn_r _ [8] (by decide +kernel) (by decide +kernel)
set_option maxRecDepth 20000 in
theorem gX3_exit_X3_isThread : GoodIn wsX3_exit (va_wsS RX3 83 yX3_isThread wsX3_isThread) := goodIn_app (goodIn_of _ (by decide +kernel)) ggX3_exit_X3_isThread
set_option maxRecDepth 20000 in
theorem ggX3_exit_X3_asks : GoodIn wsX3_exit wsX3_asks := goodIn_r _ [12, 13, 64, 65, 66, 67, 68, 69, 70, 71, 72, 73, 74, 75, 76, 77, 78, 79, 80] (by decide +kernel) (by decide +kernel)
set_option maxRecDepth 20000 in
theorem gX3_exit_X3_asks : GoodIn wsX3_exit (wsV RX3 93 RX3 yX3_asks wsX3_asks) := goodIn_app (goodIn_of _ (by decide +kernel)) ggX3_exit_X3_asks
set_option maxRecDepth 20000 in
theorem ggX3_exit_X3_fails : GoodIn wsX3_exit wsX3_fails := goodIn_r _ [17, 13, 64, 65, 66, 67, 68, 69, 70, 71, 72, 73, 74, 75, 76, 77, 78, 79, 80] (by decide +kernel) (by decide +kernel)
set_option maxRecDepth 20000 in
theorem gX3_exit_X3_fails : GoodIn wsX3_exit (wsV RX3 112 RX3 yX3_fails wsX3_fails) := goodIn_app (goodIn_of _ (by decide +kernel)) ggX3_exit_X3_fails
set_option maxRecDepth 20000 in
theorem ggX3_exit_X3_leaves : GoodIn wsX3_exit wsX3_leaves := goodIn_r _ [21, 1, 22, 4, 23, 24, 25, 26, 7, 27, 28, 29, 30, 31, 32, 33, 34, 35, 36, 37, 38, 39, 64, 65, 66, 67, 68, 69, 70, 71, 72, 73, 74, 75, 76, 77, 78, 79, 80] (by decide +kernel) (by decide +kernel)
set_option maxRecDepth 20000 in
theorem gX3_exit_X3_leaves : GoodIn wsX3_exit (wsV RX3 68 RX3 yX3_leaves wsX3_leaves) := goodIn_app (goodIn_of _ (by decide +kernel)) ggX3_exit_X3_leaves
set_option maxRecDepth 20000 in
theorem ggX3_exit_X3_ownerOf : GoodIn wsX3_exit wsX3_ownerOf := goodIn_r _ [42] (by decide +kernel) (by decide +kernel)
set_option maxRecDepth 20000 in
theorem gX3_exit_X3_ownerOf : GoodIn wsX3_exit (va_wsS RX3 125 yX3_ownerOf wsX3_ownerOf) := goodIn_app (goodIn_of _ (by decide +kernel)) ggX3_exit_X3_ownerOf
set_option maxRecDepth 20000 in
theorem ggX3_exit_X3_passes : GoodIn wsX3_exit wsX3_passes := goodIn_r _ [46, 47, 4, 48, 28, 29, 30, 7, 31, 1, 22, 32, 33, 34, 35, 36, 37, 38, 39, 49, 50, 51, 52, 53, 54, 55, 18, 19, 20, 21, 23, 24, 25, 26, 27, 56, 57, 58, 59, 3, 2, 60, 61, 62, 63, 64, 65, 66, 67, 68, 69, 70, 71, 72, 73, 74, 75, 76, 77, 78, 79, 80] (by decide +kernel) (by decide +kernel)
set_option maxRecDepth 20000 in
theorem gX3_exit_X3_passes : GoodIn wsX3_exit (wsV RX3 135 RX3 yX3_passes wsX3_passes) := goodIn_app (goodIn_of _ (by decide +kernel)) ggX3_exit_X3_passes
theorem dX3_exit_0 : decode cX3_exit 0 = .ok (.aload_n 0, 1) := by decide +kernel
theorem dX3_exit_1 : decode cX3_exit 1 = .ok (.iload_n 1, 1) := by decide +kernel
theorem dX3_exit_2 : decode cX3_exit 2 = .ok (.invokestatic 83, 3) := by decide +kernel
theorem dX3_exit_5 : decode cX3_exit 5 = .ok (.invokevirtual 93, 3) := by decide +kernel
theorem dX3_exit_8 : decode cX3_exit 8 = .ok (.ifCond .ne 5, 3) := by decide +kernel
theorem dX3_exit_11 : decode cX3_exit 11 = .ok (.iconst 0, 1) := by decide +kernel
theorem dX3_exit_12 : decode cX3_exit 12 = .ok (.ireturn, 1) := by decide +kernel
theorem dX3_exit_13 : decode cX3_exit 13 = .ok (.aload_n 0, 1) := by decide +kernel
theorem dX3_exit_14 : decode cX3_exit 14 = .ok (.getfield 13, 3) := by decide +kernel
theorem dX3_exit_17 : decode cX3_exit 17 = .ok (.iload_n 1, 1) := by decide +kernel
theorem dX3_exit_18 : decode cX3_exit 18 = .ok (.iaload, 1) := by decide +kernel
theorem dX3_exit_19 : decode cX3_exit 19 = .ok (.iconst 3, 1) := by decide +kernel
theorem dX3_exit_20 : decode cX3_exit 20 = .ok (.if_icmp .ne 9, 3) := by decide +kernel
theorem dX3_exit_23 : decode cX3_exit 23 = .ok (.aload_n 0, 1) := by decide +kernel
theorem dX3_exit_24 : decode cX3_exit 24 = .ok (.iconst 2, 1) := by decide +kernel
theorem dX3_exit_25 : decode cX3_exit 25 = .ok (.invokevirtual 112, 3) := by decide +kernel
theorem dX3_exit_28 : decode cX3_exit 28 = .ok (.ireturn, 1) := by decide +kernel
theorem dX3_exit_29 : decode cX3_exit 29 = .ok (.aload_n 0, 1) := by decide +kernel
theorem dX3_exit_30 : decode cX3_exit 30 = .ok (.iload_n 1, 1) := by decide +kernel
theorem dX3_exit_31 : decode cX3_exit 31 = .ok (.iconst 3, 1) := by decide +kernel
theorem dX3_exit_32 : decode cX3_exit 32 = .ok (.invokevirtual 68, 3) := by decide +kernel
theorem dX3_exit_35 : decode cX3_exit 35 = .ok (.iconst 0, 1) := by decide +kernel
theorem dX3_exit_36 : decode cX3_exit 36 = .ok (.istore_n 2, 1) := by decide +kernel
theorem dX3_exit_37 : decode cX3_exit 37 = .ok (.iconst 0, 1) := by decide +kernel
theorem dX3_exit_38 : decode cX3_exit 38 = .ok (.istore_n 3, 1) := by decide +kernel
theorem dX3_exit_39 : decode cX3_exit 39 = .ok (.iload_n 3, 1) := by decide +kernel
theorem dX3_exit_40 : decode cX3_exit 40 = .ok (.aload_n 0, 1) := by decide +kernel
theorem dX3_exit_41 : decode cX3_exit 41 = .ok (.getfield 40, 3) := by decide +kernel
theorem dX3_exit_44 : decode cX3_exit 44 = .ok (.iload_n 1, 1) := by decide +kernel
theorem dX3_exit_45 : decode cX3_exit 45 = .ok (.iaload, 1) := by decide +kernel
theorem dX3_exit_46 : decode cX3_exit 46 = .ok (.if_icmp .ge 47, 3) := by decide +kernel
theorem dX3_exit_49 : decode cX3_exit 49 = .ok (.aload_n 0, 1) := by decide +kernel
theorem dX3_exit_50 : decode cX3_exit 50 = .ok (.getfield 43, 3) := by decide +kernel
theorem dX3_exit_53 : decode cX3_exit 53 = .ok (.bipush 16, 2) := by decide +kernel
theorem dX3_exit_55 : decode cX3_exit 55 = .ok (.iload_n 1, 1) := by decide +kernel
theorem dX3_exit_56 : decode cX3_exit 56 = .ok (.imul, 1) := by decide +kernel
theorem dX3_exit_57 : decode cX3_exit 57 = .ok (.iload_n 3, 1) := by decide +kernel
theorem dX3_exit_58 : decode cX3_exit 58 = .ok (.iadd, 1) := by decide +kernel
theorem dX3_exit_59 : decode cX3_exit 59 = .ok (.iaload, 1) := by decide +kernel
theorem dX3_exit_60 : decode cX3_exit 60 = .ok (.istore 4, 2) := by decide +kernel
theorem dX3_exit_62 : decode cX3_exit 62 = .ok (.aload_n 0, 1) := by decide +kernel
theorem dX3_exit_63 : decode cX3_exit 63 = .ok (.getfield 7, 3) := by decide +kernel
theorem dX3_exit_66 : decode cX3_exit 66 = .ok (.iload 4, 2) := by decide +kernel
theorem dX3_exit_68 : decode cX3_exit 68 = .ok (.iaload, 1) := by decide +kernel
theorem dX3_exit_69 : decode cX3_exit 69 = .ok (.invokestatic 125, 3) := by decide +kernel
theorem dX3_exit_72 : decode cX3_exit 72 = .ok (.iload_n 1, 1) := by decide +kernel
theorem dX3_exit_73 : decode cX3_exit 73 = .ok (.if_icmp .ne 14, 3) := by decide +kernel
theorem dX3_exit_76 : decode cX3_exit 76 = .ok (.aload_n 0, 1) := by decide +kernel
theorem dX3_exit_77 : decode cX3_exit 77 = .ok (.iload 4, 2) := by decide +kernel
theorem dX3_exit_79 : decode cX3_exit 79 = .ok (.iconst 1, 1) := by decide +kernel
theorem dX3_exit_80 : decode cX3_exit 80 = .ok (.invokevirtual 135, 3) := by decide +kernel
theorem dX3_exit_83 : decode cX3_exit 83 = .ok (.pop, 1) := by decide +kernel
theorem dX3_exit_84 : decode cX3_exit 84 = .ok (.iinc 2 1, 3) := by decide +kernel
theorem dX3_exit_87 : decode cX3_exit 87 = .ok (.iinc 3 1, 3) := by decide +kernel
theorem dX3_exit_90 : decode cX3_exit 90 = .ok (.goto (-51), 3) := by decide +kernel
theorem dX3_exit_93 : decode cX3_exit 93 = .ok (.aload_n 0, 1) := by decide +kernel
theorem dX3_exit_94 : decode cX3_exit 94 = .ok (.getfield 40, 3) := by decide +kernel
theorem dX3_exit_97 : decode cX3_exit 97 = .ok (.iload_n 1, 1) := by decide +kernel
theorem dX3_exit_98 : decode cX3_exit 98 = .ok (.iconst 0, 1) := by decide +kernel
theorem dX3_exit_99 : decode cX3_exit 99 = .ok (.iastore, 1) := by decide +kernel
theorem dX3_exit_100 : decode cX3_exit 100 = .ok (.iload_n 2, 1) := by decide +kernel
theorem dX3_exit_101 : decode cX3_exit 101 = .ok (.ireturn, 1) := by decide +kernel
set_option maxRecDepth 20000 in
theorem ggX3_start_X3_isThread : GoodIn wsX3_start wsX3_isThread := goodIn_r _ [9] (by decide +kernel) (by decide +kernel)
set_option maxRecDepth 20000 in
theorem gX3_start_X3_isThread : GoodIn wsX3_start (va_wsS RX3 83 yX3_isThread wsX3_isThread) := goodIn_app (goodIn_of _ (by decide +kernel)) ggX3_start_X3_isThread
set_option maxRecDepth 20000 in
theorem ggX3_start_X3_asks : GoodIn wsX3_start wsX3_asks := goodIn_r _ [13, 2, 14, 15, 16, 17, 18, 19, 20, 21, 22, 23, 24, 25, 26, 27, 28, 29, 30] (by decide +kernel) (by decide +kernel)
set_option maxRecDepth 20000 in
theorem gX3_start_X3_asks : GoodIn wsX3_start (wsV RX3 93 RX3 yX3_asks wsX3_asks) := goodIn_app (goodIn_of _ (by decide +kernel)) ggX3_start_X3_asks
theorem dX3_start_0 : decode cX3_start 0 = .ok (.aload_n 0, 1) := by decide +kernel
theorem dX3_start_1 : decode cX3_start 1 = .ok (.iload_n 1, 1) := by decide +kernel
theorem dX3_start_2 : decode cX3_start 2 = .ok (.invokestatic 83, 3) := by decide +kernel
theorem dX3_start_5 : decode cX3_start 5 = .ok (.invokevirtual 93, 3) := by decide +kernel
theorem dX3_start_8 : decode cX3_start 8 = .ok (.ifCond .ne 4, 3) := by decide +kernel
theorem dX3_start_11 : decode cX3_start 11 = .ok (.return_, 1) := by decide +kernel
theorem dX3_start_12 : decode cX3_start 12 = .ok (.aload_n 0, 1) := by decide +kernel
theorem dX3_start_13 : decode cX3_start 13 = .ok (.getfield 13, 3) := by decide +kernel
theorem dX3_start_16 : decode cX3_start 16 = .ok (.iload_n 1, 1) := by decide +kernel
theorem dX3_start_17 : decode cX3_start 17 = .ok (.iaload, 1) := by decide +kernel
theorem dX3_start_18 : decode cX3_start 18 = .ok (.iconst 3, 1) := by decide +kernel
theorem dX3_start_19 : decode cX3_start 19 = .ok (.if_icmp .eq 9, 3) := by decide +kernel
theorem dX3_start_22 : decode cX3_start 22 = .ok (.aload_n 0, 1) := by decide +kernel
theorem dX3_start_23 : decode cX3_start 23 = .ok (.iconst 2, 1) := by decide +kernel
theorem dX3_start_24 : decode cX3_start 24 = .ok (.putfield 46, 3) := by decide +kernel
theorem dX3_start_27 : decode cX3_start 27 = .ok (.return_, 1) := by decide +kernel
theorem dX3_start_28 : decode cX3_start 28 = .ok (.aload_n 0, 1) := by decide +kernel
theorem dX3_start_29 : decode cX3_start 29 = .ok (.getfield 13, 3) := by decide +kernel
theorem dX3_start_32 : decode cX3_start 32 = .ok (.iload_n 1, 1) := by decide +kernel
theorem dX3_start_33 : decode cX3_start 33 = .ok (.iconst 0, 1) := by decide +kernel
theorem dX3_start_34 : decode cX3_start 34 = .ok (.iastore, 1) := by decide +kernel
theorem dX3_start_35 : decode cX3_start 35 = .ok (.aload_n 0, 1) := by decide +kernel
theorem dX3_start_36 : decode cX3_start 36 = .ok (.getfield 16, 3) := by decide +kernel
theorem dX3_start_39 : decode cX3_start 39 = .ok (.iload_n 1, 1) := by decide +kernel
theorem dX3_start_40 : decode cX3_start 40 = .ok (.iconst 0, 1) := by decide +kernel
theorem dX3_start_41 : decode cX3_start 41 = .ok (.iastore, 1) := by decide +kernel
theorem dX3_start_42 : decode cX3_start 42 = .ok (.aload_n 0, 1) := by decide +kernel
theorem dX3_start_43 : decode cX3_start 43 = .ok (.getfield 19, 3) := by decide +kernel
theorem dX3_start_46 : decode cX3_start 46 = .ok (.iload_n 1, 1) := by decide +kernel
theorem dX3_start_47 : decode cX3_start 47 = .ok (.iconst (-1), 1) := by decide +kernel
theorem dX3_start_48 : decode cX3_start 48 = .ok (.iastore, 1) := by decide +kernel
theorem dX3_start_49 : decode cX3_start 49 = .ok (.aload_n 0, 1) := by decide +kernel
theorem dX3_start_50 : decode cX3_start 50 = .ok (.getfield 22, 3) := by decide +kernel
theorem dX3_start_53 : decode cX3_start 53 = .ok (.iload_n 1, 1) := by decide +kernel
theorem dX3_start_54 : decode cX3_start 54 = .ok (.iconst 0, 1) := by decide +kernel
theorem dX3_start_55 : decode cX3_start 55 = .ok (.iastore, 1) := by decide +kernel
theorem dX3_start_56 : decode cX3_start 56 = .ok (.return_, 1) := by decide +kernel
set_option maxRecDepth 20000 in
theorem ggX3_setPriority_X3_isThread : GoodIn wsX3_setPriority wsX3_isThread := goodIn_r _ [7] (by decide +kernel) (by decide +kernel)
set_option maxRecDepth 20000 in
theorem gX3_setPriority_X3_isThread : GoodIn wsX3_setPriority (va_wsS RX3 83 yX3_isThread wsX3_isThread) := goodIn_app (goodIn_of _ (by decide +kernel)) ggX3_setPriority_X3_isThread
set_option maxRecDepth 20000 in
theorem ggX3_setPriority_X3_asks : GoodIn wsX3_setPriority wsX3_asks := goodIn_r _ [11, 12, 27, 28, 29, 30, 31, 32, 33, 34, 35, 36, 37, 38, 39, 40, 41, 42, 43] (by decide +kernel) (by decide +kernel)
set_option maxRecDepth 20000 in
theorem gX3_setPriority_X3_asks : GoodIn wsX3_setPriority (wsV RX3 93 RX3 yX3_asks wsX3_asks) := goodIn_app (goodIn_of _ (by decide +kernel)) ggX3_setPriority_X3_asks
set_option maxRecDepth 20000 in
theorem ggX3_setPriority_X3_fails : GoodIn wsX3_setPriority wsX3_fails := goodIn_r _ [16, 12, 27, 28, 29, 30, 31, 32, 33, 34, 35, 36, 37, 38, 39, 40, 41, 42, 43] (by decide +kernel) (by decide +kernel)
set_option maxRecDepth 20000 in
theorem gX3_setPriority_X3_fails : GoodIn wsX3_setPriority (wsV RX3 112 RX3 yX3_fails wsX3_fails) := goodIn_app (goodIn_of _ (by decide +kernel)) ggX3_setPriority_X3_fails
set_option maxRecDepth 20000 in
theorem ggX3_setPriority_X3_isQueued : GoodIn wsX3_setPriority wsX3_isQueued := goodIn_r _ [20, 1, 27, 28, 29, 30, 31, 32, 33, 34, 35, 36, 37, 38, 39, 40, 41, 42, 43] (by decide +kernel) (by decide +kernel)
set_option maxRecDepth 20000 in
theorem gX3_setPriority_X3_isQueued : GoodIn wsX3_setPriority (wsV RX3 139 RX3 yX3_isQueued wsX3_isQueued) := goodIn_app (goodIn_of _ (by decide +kernel)) ggX3_setPriority_X3_isQueued
set_option maxRecDepth 20000 in
theorem ggX3_setPriority_X3_joins : GoodIn wsX3_setPriority wsX3_joins := goodIn_r _ [24, 3, 25, 26, 27, 28, 29, 30, 31, 32, 33, 34, 35, 36, 37, 38, 39, 40, 41, 42, 43] (by decide +kernel) (by decide +kernel)
set_option maxRecDepth 20000 in
theorem gX3_setPriority_X3_joins : GoodIn wsX3_setPriority (wsV RX3 81 RX3 yX3_joins wsX3_joins) := goodIn_app (goodIn_of _ (by decide +kernel)) ggX3_setPriority_X3_joins
theorem dX3_setPriority_0 : decode cX3_setPriority 0 = .ok (.aload_n 0, 1) := by decide +kernel
theorem dX3_setPriority_1 : decode cX3_setPriority 1 = .ok (.iload_n 1, 1) := by decide +kernel
theorem dX3_setPriority_2 : decode cX3_setPriority 2 = .ok (.invokestatic 83, 3) := by decide +kernel
theorem dX3_setPriority_5 : decode cX3_setPriority 5 = .ok (.invokevirtual 93, 3) := by decide +kernel
theorem dX3_setPriority_8 : decode cX3_setPriority 8 = .ok (.ifCond .ne 5, 3) := by decide +kernel
theorem dX3_setPriority_11 : decode cX3_setPriority 11 = .ok (.iconst 0, 1) := by decide +kernel
theorem dX3_setPriority_12 : decode cX3_setPriority 12 = .ok (.ireturn, 1) := by decide +kernel
theorem dX3_setPriority_13 : decode cX3_setPriority 13 = .ok (.iload_n 2, 1) := by decide +kernel
theorem dX3_setPriority_14 : decode cX3_setPriority 14 = .ok (.ifCond .lt 9, 3) := by decide +kernel
theorem dX3_setPriority_17 : decode cX3_setPriority 17 = .ok (.iload_n 2, 1) := by decide +kernel
theorem dX3_setPriority_18 : decode cX3_setPriority 18 = .ok (.bipush 9, 2) := by decide +kernel
theorem dX3_setPriority_20 : decode cX3_setPriority 20 = .ok (.if_icmp .le 9, 3) := by decide +kernel
theorem dX3_setPriority_23 : decode cX3_setPriority 23 = .ok (.aload_n 0, 1) := by decide +kernel
theorem dX3_setPriority_24 : decode cX3_setPriority 24 = .ok (.iconst 2, 1) := by decide +kernel
theorem dX3_setPriority_25 : decode cX3_setPriority 25 = .ok (.invokevirtual 112, 3) := by decide +kernel
theorem dX3_setPriority_28 : decode cX3_setPriority 28 = .ok (.ireturn, 1) := by decide +kernel
theorem dX3_setPriority_29 : decode cX3_setPriority 29 = .ok (.aload_n 0, 1) := by decide +kernel
theorem dX3_setPriority_30 : decode cX3_setPriority 30 = .ok (.getfield 13, 3) := by decide +kernel
theorem dX3_setPriority_33 : decode cX3_setPriority 33 = .ok (.iload_n 1, 1) := by decide +kernel
theorem dX3_setPriority_34 : decode cX3_setPriority 34 = .ok (.iaload, 1) := by decide +kernel
theorem dX3_setPriority_35 : decode cX3_setPriority 35 = .ok (.iconst 3, 1) := by decide +kernel
theorem dX3_setPriority_36 : decode cX3_setPriority 36 = .ok (.if_icmp .ne 9, 3) := by decide +kernel
theorem dX3_setPriority_39 : decode cX3_setPriority 39 = .ok (.aload_n 0, 1) := by decide +kernel
theorem dX3_setPriority_40 : decode cX3_setPriority 40 = .ok (.iconst 3, 1) := by decide +kernel
theorem dX3_setPriority_41 : decode cX3_setPriority 41 = .ok (.invokevirtual 112, 3) := by decide +kernel
theorem dX3_setPriority_44 : decode cX3_setPriority 44 = .ok (.ireturn, 1) := by decide +kernel
theorem dX3_setPriority_45 : decode cX3_setPriority 45 = .ok (.aload_n 0, 1) := by decide +kernel
theorem dX3_setPriority_46 : decode cX3_setPriority 46 = .ok (.getfield 16, 3) := by decide +kernel
theorem dX3_setPriority_49 : decode cX3_setPriority 49 = .ok (.iload_n 1, 1) := by decide +kernel
theorem dX3_setPriority_50 : decode cX3_setPriority 50 = .ok (.iaload, 1) := by decide +kernel
theorem dX3_setPriority_51 : decode cX3_setPriority 51 = .ok (.istore_n 3, 1) := by decide +kernel
theorem dX3_setPriority_52 : decode cX3_setPriority 52 = .ok (.aload_n 0, 1) := by decide +kernel
theorem dX3_setPriority_53 : decode cX3_setPriority 53 = .ok (.getfield 16, 3) := by decide +kernel
theorem dX3_setPriority_56 : decode cX3_setPriority 56 = .ok (.iload_n 1, 1) := by decide +kernel
theorem dX3_setPriority_57 : decode cX3_setPriority 57 = .ok (.iload_n 2, 1) := by decide +kernel
theorem dX3_setPriority_58 : decode cX3_setPriority 58 = .ok (.iastore, 1) := by decide +kernel
theorem dX3_setPriority_59 : decode cX3_setPriority 59 = .ok (.iload_n 3, 1) := by decide +kernel
theorem dX3_setPriority_60 : decode cX3_setPriority 60 = .ok (.iload_n 2, 1) := by decide +kernel
theorem dX3_setPriority_61 : decode cX3_setPriority 61 = .ok (.if_icmp .eq 22, 3) := by decide +kernel
theorem dX3_setPriority_64 : decode cX3_setPriority 64 = .ok (.aload_n 0, 1) := by decide +kernel
theorem dX3_setPriority_65 : decode cX3_setPriority 65 = .ok (.iload_n 1, 1) := by decide +kernel
theorem dX3_setPriority_66 : decode cX3_setPriority 66 = .ok (.invokevirtual 139, 3) := by decide +kernel
theorem dX3_setPriority_69 : decode cX3_setPriority 69 = .ok (.ifCond .eq 14, 3) := by decide +kernel
theorem dX3_setPriority_72 : decode cX3_setPriority 72 = .ok (.aload_n 0, 1) := by decide +kernel
theorem dX3_setPriority_73 : decode cX3_setPriority 73 = .ok (.iload_n 1, 1) := by decide +kernel
theorem dX3_setPriority_74 : decode cX3_setPriority 74 = .ok (.aload_n 0, 1) := by decide +kernel
theorem dX3_setPriority_75 : decode cX3_setPriority 75 = .ok (.getfield 25, 3) := by decide +kernel
theorem dX3_setPriority_78 : decode cX3_setPriority 78 = .ok (.iload_n 1, 1) := by decide +kernel
theorem dX3_setPriority_79 : decode cX3_setPriority 79 = .ok (.iaload, 1) := by decide +kernel
theorem dX3_setPriority_80 : decode cX3_setPriority 80 = .ok (.invokevirtual 81, 3) := by decide +kernel
theorem dX3_setPriority_83 : decode cX3_setPriority 83 = .ok (.iload_n 3, 1) := by decide +kernel
theorem dX3_setPriority_84 : decode cX3_setPriority 84 = .ok (.ireturn, 1) := by decide +kernel
set_option maxRecDepth 20000 in
theorem ggX3_due_X3_isQueued : GoodIn wsX3_due wsX3_isQueued := goodIn_r _ [8, 9, 10, 11, 12, 13, 14, 15, 16, 17, 18, 19, 20, 21, 22, 23, 24, 25, 26] (by decide +kernel) (by decide +kernel)
set_option maxRecDepth 20000 in
theorem gX3_due_X3_isQueued : GoodIn wsX3_due (wsV RX3 139 RX3 yX3_isQueued wsX3_isQueued) := goodIn_app (goodIn_of _ (by decide +kernel)) ggX3_due_X3_isQueued
theorem dX3_due_0 : decode cX3_due 0 = .ok (.iconst (-1), 1) := by decide +kernel
theorem dX3_due_1 : decode cX3_due 1 = .ok (.istore_n 1, 1) := by decide +kernel
theorem dX3_due_2 : decode cX3_due 2 = .ok (.iconst 0, 1) := by decide +kernel
theorem dX3_due_3 : decode cX3_due 3 = .ok (.istore_n 2, 1) := by decide +kernel
theorem dX3_due_4 : decode cX3_due 4 = .ok (.iload_n 2, 1) := by decide +kernel
theorem dX3_due_5 : decode cX3_due 5 = .ok (.bipush 8, 2) := by decide +kernel
theorem dX3_due_7 : decode cX3_due 7 = .ok (.if_icmp .ge 56, 3) := by decide +kernel
theorem dX3_due_10 : decode cX3_due 10 = .ok (.aload_n 0, 1) := by decide +kernel
theorem dX3_due_11 : decode cX3_due 11 = .ok (.iload_n 2, 1) := by decide +kernel
theorem dX3_due_12 : decode cX3_due 12 = .ok (.invokevirtual 139, 3) := by decide +kernel
theorem dX3_due_15 : decode cX3_due 15 = .ok (.ifCond .eq 40, 3) := by decide +kernel
theorem dX3_due_18 : decode cX3_due 18 = .ok (.aload_n 0, 1) := by decide +kernel
theorem dX3_due_19 : decode cX3_due 19 = .ok (.getfield 31, 3) := by decide +kernel
theorem dX3_due_22 : decode cX3_due 22 = .ok (.iload_n 2, 1) := by decide +kernel
theorem dX3_due_23 : decode cX3_due 23 = .ok (.iaload, 1) := by decide +kernel
theorem dX3_due_24 : decode cX3_due 24 = .ok (.aload_n 0, 1) := by decide +kernel
theorem dX3_due_25 : decode cX3_due 25 = .ok (.getfield 75, 3) := by decide +kernel
theorem dX3_due_28 : decode cX3_due 28 = .ok (.if_icmp .ne 27, 3) := by decide +kernel
theorem dX3_due_31 : decode cX3_due 31 = .ok (.iload_n 1, 1) := by decide +kernel
theorem dX3_due_32 : decode cX3_due 32 = .ok (.iconst (-1), 1) := by decide +kernel
theorem dX3_due_33 : decode cX3_due 33 = .ok (.if_icmp .eq 18, 3) := by decide +kernel
theorem dX3_due_36 : decode cX3_due 36 = .ok (.aload_n 0, 1) := by decide +kernel
theorem dX3_due_37 : decode cX3_due 37 = .ok (.getfield 34, 3) := by decide +kernel
theorem dX3_due_40 : decode cX3_due 40 = .ok (.iload_n 2, 1) := by decide +kernel
theorem dX3_due_41 : decode cX3_due 41 = .ok (.iaload, 1) := by decide +kernel
theorem dX3_due_42 : decode cX3_due 42 = .ok (.aload_n 0, 1) := by decide +kernel
theorem dX3_due_43 : decode cX3_due 43 = .ok (.getfield 34, 3) := by decide +kernel
theorem dX3_due_46 : decode cX3_due 46 = .ok (.iload_n 1, 1) := by decide +kernel
theorem dX3_due_47 : decode cX3_due 47 = .ok (.iaload, 1) := by decide +kernel
theorem dX3_due_48 : decode cX3_due 48 = .ok (.if_icmp .ge 7, 3) := by decide +kernel
theorem dX3_due_51 : decode cX3_due 51 = .ok (.iload_n 2, 1) := by decide +kernel
theorem dX3_due_52 : decode cX3_due 52 = .ok (.goto 4, 3) := by decide +kernel
theorem dX3_due_55 : decode cX3_due 55 = .ok (.iload_n 1, 1) := by decide +kernel
theorem dX3_due_56 : decode cX3_due 56 = .ok (.istore_n 1, 1) := by decide +kernel
theorem dX3_due_57 : decode cX3_due 57 = .ok (.iinc 2 1, 3) := by decide +kernel
theorem dX3_due_60 : decode cX3_due 60 = .ok (.goto (-56), 3) := by decide +kernel
theorem dX3_due_63 : decode cX3_due 63 = .ok (.iload_n 1, 1) := by decide +kernel
theorem dX3_due_64 : decode cX3_due 64 = .ok (.ireturn, 1) := by decide +kernel
set_option maxRecDepth 20000 in
theorem ggX3_tick_X3_asks : GoodIn wsX3_tick wsX3_asks := goodIn_r _ [6, 7, 49, 50, 51, 52, 53, 54, 55, 56, 57, 58, 59, 60, 61, 62, 63, 64, 65] (by decide +kernel) (by decide +kernel)
set_option maxRecDepth 20000 in
theorem gX3_tick_X3_asks : GoodIn wsX3_tick (wsV RX3 93 RX3 yX3_asks wsX3_asks) := goodIn_app (goodIn_of _ (by decide +kernel)) ggX3_tick_X3_asks
set_option maxRecDepth 20000 in
theorem ggX3_tick_X3_due : GoodIn wsX3_tick wsX3_due := goodIn_r _ [11, 12, 1, 13, 14, 15, 16, 5, 17, 18, 49, 50, 51, 52, 53, 54, 55, 56, 57, 58, 59, 60, 61, 62, 63, 64, 65] (by decide +kernel) (by decide +kernel)
set_option maxRecDepth 20000 in
theorem gX3_tick_X3_due : GoodIn wsX3_tick (wsV RX3 142 RX3 yX3_due wsX3_due) := goodIn_app (goodIn_of _ (by decide +kernel)) ggX3_tick_X3_due
set_option maxRecDepth 20000 in
theorem ggX3_tick_X3_ends : GoodIn wsX3_tick wsX3_ends := goodIn_r _ [22, 23, 24, 25, 26, 27, 28, 5, 29, 18, 30, 31, 32, 33, 34, 35, 36, 37, 38, 39, 40, 41, 42, 43, 44, 45, 46, 47, 48, 49, 50, 51, 52, 53, 54, 55, 56, 57, 58, 59, 60, 61, 62, 63, 64, 65] (by decide +kernel) (by decide +kernel)
set_option maxRecDepth 20000 in
theorem gX3_tick_X3_ends : GoodIn wsX3_tick (wsV RX3 107 RX3 yX3_ends wsX3_ends) := goodIn_app (goodIn_of _ (by decide +kernel)) ggX3_tick_X3_ends
theorem dX3_tick_0 : decode cX3_tick 0 = .ok (.aload_n 0, 1) := by decide +kernel
theorem dX3_tick_1 : decode cX3_tick 1 = .ok (.iload_n 1, 1) := by decide +kernel
theorem dX3_tick_2 : decode cX3_tick 2 = .ok (.ifCond .le 14, 3) := by decide +kernel
theorem dX3_tick_5 : decode cX3_tick 5 = .ok (.iload_n 1, 1) := by decide +kernel
theorem dX3_tick_6 : decode cX3_tick 6 = .ok (.sipush 1000, 3) := by decide +kernel
theorem dX3_tick_9 : decode cX3_tick 9 = .ok (.if_icmp .gt 7, 3) := by decide +kernel
theorem dX3_tick_12 : decode cX3_tick 12 = .ok (.iconst 1, 1) := by decide +kernel
theorem dX3_tick_13 : decode cX3_tick 13 = .ok (.goto 4, 3) := by decide +kernel
theorem dX3_tick_16 : decode cX3_tick 16 = .ok (.iconst 0, 1) := by decide +kernel
theorem dX3_tick_17 : decode cX3_tick 17 = .ok (.invokevirtual 93, 3) := by decide +kernel
theorem dX3_tick_20 : decode cX3_tick 20 = .ok (.ifCond .ne 5, 3) := by decide +kernel
theorem dX3_tick_23 : decode cX3_tick 23 = .ok (.iconst 0, 1) := by decide +kernel
theorem dX3_tick_24 : decode cX3_tick 24 = .ok (.ireturn, 1) := by decide +kernel
theorem dX3_tick_25 : decode cX3_tick 25 = .ok (.iconst 0, 1) := by decide +kernel
theorem dX3_tick_26 : decode cX3_tick 26 = .ok (.istore_n 2, 1) := by decide +kernel
theorem dX3_tick_27 : decode cX3_tick 27 = .ok (.iconst 0, 1) := by decide +kernel
theorem dX3_tick_28 : decode cX3_tick 28 = .ok (.istore_n 3, 1) := by decide +kernel
theorem dX3_tick_29 : decode cX3_tick 29 = .ok (.iload_n 3, 1) := by decide +kernel
theorem dX3_tick_30 : decode cX3_tick 30 = .ok (.iload_n 1, 1) := by decide +kernel
theorem dX3_tick_31 : decode cX3_tick 31 = .ok (.if_icmp .ge 50, 3) := by decide +kernel
theorem dX3_tick_34 : decode cX3_tick 34 = .ok (.aload_n 0, 1) := by decide +kernel
theorem dX3_tick_35 : decode cX3_tick 35 = .ok (.dup, 1) := by decide +kernel
theorem dX3_tick_36 : decode cX3_tick 36 = .ok (.getfield 75, 3) := by decide +kernel
theorem dX3_tick_39 : decode cX3_tick 39 = .ok (.iconst 1, 1) := by decide +kernel
theorem dX3_tick_40 : decode cX3_tick 40 = .ok (.iadd, 1) := by decide +kernel
theorem dX3_tick_41 : decode cX3_tick 41 = .ok (.putfield 75, 3) := by decide +kernel
theorem dX3_tick_44 : decode cX3_tick 44 = .ok (.aload_n 0, 1) := by decide +kernel
theorem dX3_tick_45 : decode cX3_tick 45 = .ok (.invokevirtual 142, 3) := by decide +kernel
theorem dX3_tick_48 : decode cX3_tick 48 = .ok (.istore 4, 2) := by decide +kernel
theorem dX3_tick_50 : decode cX3_tick 50 = .ok (.iload 4, 2) := by decide +kernel
theorem dX3_tick_52 : decode cX3_tick 52 = .ok (.iconst (-1), 1) := by decide +kernel
theorem dX3_tick_53 : decode cX3_tick 53 = .ok (.if_icmp .eq 22, 3) := by decide +kernel
theorem dX3_tick_56 : decode cX3_tick 56 = .ok (.aload_n 0, 1) := by decide +kernel
theorem dX3_tick_57 : decode cX3_tick 57 = .ok (.iload 4, 2) := by decide +kernel
theorem dX3_tick_59 : decode cX3_tick 59 = .ok (.iconst 1, 1) := by decide +kernel
theorem dX3_tick_60 : decode cX3_tick 60 = .ok (.invokevirtual 107, 3) := by decide +kernel
theorem dX3_tick_63 : decode cX3_tick 63 = .ok (.iinc 2 1, 3) := by decide +kernel
theorem dX3_tick_66 : decode cX3_tick 66 = .ok (.aload_n 0, 1) := by decide +kernel
theorem dX3_tick_67 : decode cX3_tick 67 = .ok (.invokevirtual 142, 3) := by decide +kernel
theorem dX3_tick_70 : decode cX3_tick 70 = .ok (.istore 4, 2) := by decide +kernel
theorem dX3_tick_72 : decode cX3_tick 72 = .ok (.goto (-22), 3) := by decide +kernel
theorem dX3_tick_75 : decode cX3_tick 75 = .ok (.iinc 3 1, 3) := by decide +kernel
theorem dX3_tick_78 : decode cX3_tick 78 = .ok (.goto (-49), 3) := by decide +kernel
theorem dX3_tick_81 : decode cX3_tick 81 = .ok (.iload_n 2, 1) := by decide +kernel
theorem dX3_tick_82 : decode cX3_tick 82 = .ok (.ireturn, 1) := by decide +kernel
theorem dX3_now_0 : decode cX3_now 0 = .ok (.aload_n 0, 1) := by decide +kernel
theorem dX3_now_1 : decode cX3_now 1 = .ok (.iconst 0, 1) := by decide +kernel
theorem dX3_now_2 : decode cX3_now 2 = .ok (.putfield 46, 3) := by decide +kernel
theorem dX3_now_5 : decode cX3_now 5 = .ok (.aload_n 0, 1) := by decide +kernel
theorem dX3_now_6 : decode cX3_now 6 = .ok (.getfield 75, 3) := by decide +kernel
theorem dX3_now_9 : decode cX3_now 9 = .ok (.ireturn, 1) := by decide +kernel
set_option maxRecDepth 20000 in
theorem ggX3_nextTimeout_X3_isQueued : GoodIn wsX3_nextTimeout wsX3_isQueued := goodIn_r _ [8, 9, 10, 11, 12, 13, 14, 15, 16, 17, 18, 19, 20, 21, 22, 23, 24, 25, 26] (by decide +kernel) (by decide +kernel)
set_option maxRecDepth 20000 in
theorem gX3_nextTimeout_X3_isQueued : GoodIn wsX3_nextTimeout (wsV RX3 139 RX3 yX3_isQueued wsX3_isQueued) := goodIn_app (goodIn_of _ (by decide +kernel)) ggX3_nextTimeout_X3_isQueued
theorem dX3_nextTimeout_0 : decode cX3_nextTimeout 0 = .ok (.aload_n 0, 1) := by decide +kernel
theorem dX3_nextTimeout_1 : decode cX3_nextTimeout 1 = .ok (.iconst 0, 1) := by decide +kernel
theorem dX3_nextTimeout_2 : decode cX3_nextTimeout 2 = .ok (.putfield 46, 3) := by decide +kernel
theorem dX3_nextTimeout_5 : decode cX3_nextTimeout 5 = .ok (.iconst (-1), 1) := by decide +kernel
theorem dX3_nextTimeout_6 : decode cX3_nextTimeout 6 = .ok (.istore_n 1, 1) := by decide +kernel
theorem dX3_nextTimeout_7 : decode cX3_nextTimeout 7 = .ok (.iconst 0, 1) := by decide +kernel
theorem dX3_nextTimeout_8 : decode cX3_nextTimeout 8 = .ok (.istore_n 2, 1) := by decide +kernel
theorem dX3_nextTimeout_9 : decode cX3_nextTimeout 9 = .ok (.iload_n 2, 1) := by decide +kernel
theorem dX3_nextTimeout_10 : decode cX3_nextTimeout 10 = .ok (.bipush 8, 2) := by decide +kernel
theorem dX3_nextTimeout_12 : decode cX3_nextTimeout 12 = .ok (.if_icmp .ge 63, 3) := by decide +kernel
theorem dX3_nextTimeout_15 : decode cX3_nextTimeout 15 = .ok (.aload_n 0, 1) := by decide +kernel
theorem dX3_nextTimeout_16 : decode cX3_nextTimeout 16 = .ok (.iload_n 2, 1) := by decide +kernel
theorem dX3_nextTimeout_17 : decode cX3_nextTimeout 17 = .ok (.invokevirtual 139, 3) := by decide +kernel
theorem dX3_nextTimeout_20 : decode cX3_nextTimeout 20 = .ok (.ifCond .eq 26, 3) := by decide +kernel
theorem dX3_nextTimeout_23 : decode cX3_nextTimeout 23 = .ok (.aload_n 0, 1) := by decide +kernel
theorem dX3_nextTimeout_24 : decode cX3_nextTimeout 24 = .ok (.getfield 31, 3) := by decide +kernel
theorem dX3_nextTimeout_27 : decode cX3_nextTimeout 27 = .ok (.iload_n 2, 1) := by decide +kernel
theorem dX3_nextTimeout_28 : decode cX3_nextTimeout 28 = .ok (.iaload, 1) := by decide +kernel
theorem dX3_nextTimeout_29 : decode cX3_nextTimeout 29 = .ok (.ifCond .le 17, 3) := by decide +kernel
theorem dX3_nextTimeout_32 : decode cX3_nextTimeout 32 = .ok (.aload_n 0, 1) := by decide +kernel
theorem dX3_nextTimeout_33 : decode cX3_nextTimeout 33 = .ok (.getfield 31, 3) := by decide +kernel
theorem dX3_nextTimeout_36 : decode cX3_nextTimeout 36 = .ok (.iload_n 2, 1) := by decide +kernel
theorem dX3_nextTimeout_37 : decode cX3_nextTimeout 37 = .ok (.iaload, 1) := by decide +kernel
theorem dX3_nextTimeout_38 : decode cX3_nextTimeout 38 = .ok (.aload_n 0, 1) := by decide +kernel
theorem dX3_nextTimeout_39 : decode cX3_nextTimeout 39 = .ok (.getfield 75, 3) := by decide +kernel
theorem dX3_nextTimeout_42 : decode cX3_nextTimeout 42 = .ok (.isub, 1) := by decide +kernel
theorem dX3_nextTimeout_43 : decode cX3_nextTimeout 43 = .ok (.goto 4, 3) := by decide +kernel
theorem dX3_nextTimeout_46 : decode cX3_nextTimeout 46 = .ok (.iconst (-1), 1) := by decide +kernel
theorem dX3_nextTimeout_47 : decode cX3_nextTimeout 47 = .ok (.istore_n 3, 1) := by decide +kernel
theorem dX3_nextTimeout_48 : decode cX3_nextTimeout 48 = .ok (.iload_n 3, 1) := by decide +kernel
theorem dX3_nextTimeout_49 : decode cX3_nextTimeout 49 = .ok (.iconst (-1), 1) := by decide +kernel
theorem dX3_nextTimeout_50 : decode cX3_nextTimeout 50 = .ok (.if_icmp .eq 17, 3) := by decide +kernel
theorem dX3_nextTimeout_53 : decode cX3_nextTimeout 53 = .ok (.iload_n 1, 1) := by decide +kernel
theorem dX3_nextTimeout_54 : decode cX3_nextTimeout 54 = .ok (.iconst (-1), 1) := by decide +kernel
theorem dX3_nextTimeout_55 : decode cX3_nextTimeout 55 = .ok (.if_icmp .eq 8, 3) := by decide +kernel
theorem dX3_nextTimeout_58 : decode cX3_nextTimeout 58 = .ok (.iload_n 3, 1) := by decide +kernel
theorem dX3_nextTimeout_59 : decode cX3_nextTimeout 59 = .ok (.iload_n 1, 1) := by decide +kernel
theorem dX3_nextTimeout_60 : decode cX3_nextTimeout 60 = .ok (.if_icmp .ge 7, 3) := by decide +kernel
theorem dX3_nextTimeout_63 : decode cX3_nextTimeout 63 = .ok (.iload_n 3, 1) := by decide +kernel
theorem dX3_nextTimeout_64 : decode cX3_nextTimeout 64 = .ok (.goto 4, 3) := by decide +kernel
theorem dX3_nextTimeout_67 : decode cX3_nextTimeout 67 = .ok (.iload_n 1, 1) := by decide +kernel
theorem dX3_nextTimeout_68 : decode cX3_nextTimeout 68 = .ok (.istore_n 1, 1) := by decide +kernel
theorem dX3_nextTimeout_69 : decode cX3_nextTimeout 69 = .ok (.iinc 2 1, 3) := by decide +kernel
theorem dX3_nextTimeout_72 : decode cX3_nextTimeout 72 = .ok (.goto (-63), 3) := by decide +kernel
theorem dX3_nextTimeout_75 : decode cX3_nextTimeout 75 = .ok (.iload_n 1, 1) := by decide +kernel
theorem dX3_nextTimeout_76 : decode cX3_nextTimeout 76 = .ok (.ireturn, 1) := by decide +kernel
set_option maxRecDepth 20000 in
theorem ggX3_stateOf_X3_isThread : GoodIn wsX3_stateOf wsX3_isThread := goodIn_r _ [5] (by decide +kernel) (by decide +kernel)
set_option maxRecDepth 20000 in
theorem gX3_stateOf_X3_isThread : GoodIn wsX3_stateOf (va_wsS RX3 83 yX3_isThread wsX3_isThread) := goodIn_app (goodIn_of _ (by decide +kernel)) ggX3_stateOf_X3_isThread
set_option maxRecDepth 20000 in
theorem ggX3_stateOf_X3_asks : GoodIn wsX3_stateOf wsX3_asks := goodIn_r _ [9, 10, 11, 12, 13, 14, 15, 16, 17, 18, 19, 20, 21, 22, 23, 24, 25, 26, 27] (by decide +kernel) (by decide +kernel)
set_option maxRecDepth 20000 in
theorem gX3_stateOf_X3_asks : GoodIn wsX3_stateOf (wsV RX3 93 RX3 yX3_asks wsX3_asks) := goodIn_app (goodIn_of _ (by decide +kernel)) ggX3_stateOf_X3_asks
theorem dX3_stateOf_0 : decode cX3_stateOf 0 = .ok (.aload_n 0, 1) := by decide +kernel
theorem dX3_stateOf_1 : decode cX3_stateOf 1 = .ok (.iload_n 1, 1) := by decide +kernel
theorem dX3_stateOf_2 : decode cX3_stateOf 2 = .ok (.invokestatic 83, 3) := by decide +kernel
theorem dX3_stateOf_5 : decode cX3_stateOf 5 = .ok (.invokevirtual 93, 3) := by decide +kernel
theorem dX3_stateOf_8 : decode cX3_stateOf 8 = .ok (.ifCond .eq 12, 3) := by decide +kernel
theorem dX3_stateOf_11 : decode cX3_stateOf 11 = .ok (.aload_n 0, 1) := by decide +kernel
theorem dX3_stateOf_12 : decode cX3_stateOf 12 = .ok (.getfield 13, 3) := by decide +kernel
theorem dX3_stateOf_15 : decode cX3_stateOf 15 = .ok (.iload_n 1, 1) := by decide +kernel
theorem dX3_stateOf_16 : decode cX3_stateOf 16 = .ok (.iaload, 1) := by decide +kernel
theorem dX3_stateOf_17 : decode cX3_stateOf 17 = .ok (.goto 4, 3) := by decide +kernel
theorem dX3_stateOf_20 : decode cX3_stateOf 20 = .ok (.iconst 0, 1) := by decide +kernel
theorem dX3_stateOf_21 : decode cX3_stateOf 21 = .ok (.ireturn, 1) := by decide +kernel
set_option maxRecDepth 20000 in
theorem ggX3_addressOf_X3_isThread : GoodIn wsX3_addressOf wsX3_isThread := goodIn_r _ [5] (by decide +kernel) (by decide +kernel)
set_option maxRecDepth 20000 in
theorem gX3_addressOf_X3_isThread : GoodIn wsX3_addressOf (va_wsS RX3 83 yX3_isThread wsX3_isThread) := goodIn_app (goodIn_of _ (by decide +kernel)) ggX3_addressOf_X3_isThread
set_option maxRecDepth 20000 in
theorem ggX3_addressOf_X3_asks : GoodIn wsX3_addressOf wsX3_asks := goodIn_r _ [9, 10, 16, 17, 18, 19, 20, 21, 22, 23, 24, 25, 26, 27, 28, 29, 30, 31, 32] (by decide +kernel) (by decide +kernel)
set_option maxRecDepth 20000 in
theorem gX3_addressOf_X3_asks : GoodIn wsX3_addressOf (wsV RX3 93 RX3 yX3_asks wsX3_asks) := goodIn_app (goodIn_of _ (by decide +kernel)) ggX3_addressOf_X3_asks
set_option maxRecDepth 20000 in
theorem ggX3_addressOf_X3_isQueued : GoodIn wsX3_addressOf wsX3_isQueued := goodIn_r _ [14, 15, 16, 17, 18, 19, 20, 21, 22, 23, 24, 25, 26, 27, 28, 29, 30, 31, 32] (by decide +kernel) (by decide +kernel)
set_option maxRecDepth 20000 in
theorem gX3_addressOf_X3_isQueued : GoodIn wsX3_addressOf (wsV RX3 139 RX3 yX3_isQueued wsX3_isQueued) := goodIn_app (goodIn_of _ (by decide +kernel)) ggX3_addressOf_X3_isQueued
theorem dX3_addressOf_0 : decode cX3_addressOf 0 = .ok (.aload_n 0, 1) := by decide +kernel
theorem dX3_addressOf_1 : decode cX3_addressOf 1 = .ok (.iload_n 1, 1) := by decide +kernel
theorem dX3_addressOf_2 : decode cX3_addressOf 2 = .ok (.invokestatic 83, 3) := by decide +kernel
theorem dX3_addressOf_5 : decode cX3_addressOf 5 = .ok (.invokevirtual 93, 3) := by decide +kernel
theorem dX3_addressOf_8 : decode cX3_addressOf 8 = .ok (.ifCond .eq 24, 3) := by decide +kernel
theorem dX3_addressOf_11 : decode cX3_addressOf 11 = .ok (.aload_n 0, 1) := by decide +kernel
theorem dX3_addressOf_12 : decode cX3_addressOf 12 = .ok (.iload_n 1, 1) := by decide +kernel
theorem dX3_addressOf_13 : decode cX3_addressOf 13 = .ok (.invokevirtual 139, 3) := by decide +kernel
theorem dX3_addressOf_16 : decode cX3_addressOf 16 = .ok (.ifCond .eq 12, 3) := by decide +kernel
theorem dX3_addressOf_19 : decode cX3_addressOf 19 = .ok (.aload_n 0, 1) := by decide +kernel
theorem dX3_addressOf_20 : decode cX3_addressOf 20 = .ok (.getfield 25, 3) := by decide +kernel
theorem dX3_addressOf_23 : decode cX3_addressOf 23 = .ok (.iload_n 1, 1) := by decide +kernel
theorem dX3_addressOf_24 : decode cX3_addressOf 24 = .ok (.iaload, 1) := by decide +kernel
theorem dX3_addressOf_25 : decode cX3_addressOf 25 = .ok (.goto 8, 3) := by decide +kernel
theorem dX3_addressOf_28 : decode cX3_addressOf 28 = .ok (.iconst (-1), 1) := by decide +kernel
theorem dX3_addressOf_29 : decode cX3_addressOf 29 = .ok (.goto 4, 3) := by decide +kernel
theorem dX3_addressOf_32 : decode cX3_addressOf 32 = .ok (.iconst 0, 1) := by decide +kernel
theorem dX3_addressOf_33 : decode cX3_addressOf 33 = .ok (.ireturn, 1) := by decide +kernel
set_option maxRecDepth 20000 in
theorem ggX3_resultOf_X3_isThread : GoodIn wsX3_resultOf wsX3_isThread := goodIn_r _ [5] (by decide +kernel) (by decide +kernel)
set_option maxRecDepth 20000 in
theorem gX3_resultOf_X3_isThread : GoodIn wsX3_resultOf (va_wsS RX3 83 yX3_isThread wsX3_isThread) := goodIn_app (goodIn_of _ (by decide +kernel)) ggX3_resultOf_X3_isThread
set_option maxRecDepth 20000 in
theorem ggX3_resultOf_X3_asks : GoodIn wsX3_resultOf wsX3_asks := goodIn_r _ [9, 10, 11, 12, 13, 14, 15, 16, 17, 18, 19, 20, 21, 22, 23, 24, 25, 26, 27] (by decide +kernel) (by decide +kernel)
set_option maxRecDepth 20000 in
theorem gX3_resultOf_X3_asks : GoodIn wsX3_resultOf (wsV RX3 93 RX3 yX3_asks wsX3_asks) := goodIn_app (goodIn_of _ (by decide +kernel)) ggX3_resultOf_X3_asks
theorem dX3_resultOf_0 : decode cX3_resultOf 0 = .ok (.aload_n 0, 1) := by decide +kernel
theorem dX3_resultOf_1 : decode cX3_resultOf 1 = .ok (.iload_n 1, 1) := by decide +kernel
theorem dX3_resultOf_2 : decode cX3_resultOf 2 = .ok (.invokestatic 83, 3) := by decide +kernel
theorem dX3_resultOf_5 : decode cX3_resultOf 5 = .ok (.invokevirtual 93, 3) := by decide +kernel
theorem dX3_resultOf_8 : decode cX3_resultOf 8 = .ok (.ifCond .eq 12, 3) := by decide +kernel
theorem dX3_resultOf_11 : decode cX3_resultOf 11 = .ok (.aload_n 0, 1) := by decide +kernel
theorem dX3_resultOf_12 : decode cX3_resultOf 12 = .ok (.getfield 19, 3) := by decide +kernel
theorem dX3_resultOf_15 : decode cX3_resultOf 15 = .ok (.iload_n 1, 1) := by decide +kernel
theorem dX3_resultOf_16 : decode cX3_resultOf 16 = .ok (.iaload, 1) := by decide +kernel
theorem dX3_resultOf_17 : decode cX3_resultOf 17 = .ok (.goto 4, 3) := by decide +kernel
theorem dX3_resultOf_20 : decode cX3_resultOf 20 = .ok (.iconst 0, 1) := by decide +kernel
theorem dX3_resultOf_21 : decode cX3_resultOf 21 = .ok (.ireturn, 1) := by decide +kernel
set_option maxRecDepth 20000 in
theorem ggX3_serialOf_X3_isThread : GoodIn wsX3_serialOf wsX3_isThread := goodIn_r _ [5] (by decide +kernel) (by decide +kernel)
set_option maxRecDepth 20000 in
theorem gX3_serialOf_X3_isThread : GoodIn wsX3_serialOf (va_wsS RX3 83 yX3_isThread wsX3_isThread) := goodIn_app (goodIn_of _ (by decide +kernel)) ggX3_serialOf_X3_isThread
set_option maxRecDepth 20000 in
theorem ggX3_serialOf_X3_asks : GoodIn wsX3_serialOf wsX3_asks := goodIn_r _ [9, 10, 11, 12, 13, 14, 15, 16, 17, 18, 19, 20, 21, 22, 23, 24, 25, 26, 27] (by decide +kernel) (by decide +kernel)
set_option maxRecDepth 20000 in
theorem gX3_serialOf_X3_asks : GoodIn wsX3_serialOf (wsV RX3 93 RX3 yX3_asks wsX3_asks) := goodIn_app (goodIn_of _ (by decide +kernel)) ggX3_serialOf_X3_asks
theorem dX3_serialOf_0 : decode cX3_serialOf 0 = .ok (.aload_n 0, 1) := by decide +kernel
theorem dX3_serialOf_1 : decode cX3_serialOf 1 = .ok (.iload_n 1, 1) := by decide +kernel
theorem dX3_serialOf_2 : decode cX3_serialOf 2 = .ok (.invokestatic 83, 3) := by decide +kernel
theorem dX3_serialOf_5 : decode cX3_serialOf 5 = .ok (.invokevirtual 93, 3) := by decide +kernel
theorem dX3_serialOf_8 : decode cX3_serialOf 8 = .ok (.ifCond .eq 12, 3) := by decide +kernel
theorem dX3_serialOf_11 : decode cX3_serialOf 11 = .ok (.aload_n 0, 1) := by decide +kernel
theorem dX3_serialOf_12 : decode cX3_serialOf 12 = .ok (.getfield 22, 3) := by decide +kernel
theorem dX3_serialOf_15 : decode cX3_serialOf 15 = .ok (.iload_n 1, 1) := by decide +kernel
theorem dX3_serialOf_16 : decode cX3_serialOf 16 = .ok (.iaload, 1) := by decide +kernel
theorem dX3_serialOf_17 : decode cX3_serialOf 17 = .ok (.goto 4, 3) := by decide +kernel
theorem dX3_serialOf_20 : decode cX3_serialOf 20 = .ok (.iconst 0, 1) := by decide +kernel
theorem dX3_serialOf_21 : decode cX3_serialOf 21 = .ok (.ireturn, 1) := by decide +kernel
set_option maxRecDepth 20000 in
theorem ggX3_countAt_X3_isQueued : GoodIn wsX3_countAt wsX3_isQueued := goodIn_r _ [6, 7, 8, 9, 10, 11, 12, 13, 14, 15, 16, 17, 18, 19, 20, 21, 22, 23, 24] (by decide +kernel) (by decide +kernel)
set_option maxRecDepth 20000 in
theorem gX3_countAt_X3_isQueued : GoodIn wsX3_countAt (wsV RX3 139 RX3 yX3_isQueued wsX3_isQueued) := goodIn_app (goodIn_of _ (by decide +kernel)) ggX3_countAt_X3_isQueued
theorem dX3_countAt_0 : decode cX3_countAt 0 = .ok (.iconst 0, 1) := by decide +kernel
theorem dX3_countAt_1 : decode cX3_countAt 1 = .ok (.istore_n 2, 1) := by decide +kernel
theorem dX3_countAt_2 : decode cX3_countAt 2 = .ok (.iconst 0, 1) := by decide +kernel
theorem dX3_countAt_3 : decode cX3_countAt 3 = .ok (.istore_n 3, 1) := by decide +kernel
theorem dX3_countAt_4 : decode cX3_countAt 4 = .ok (.iload_n 3, 1) := by decide +kernel
theorem dX3_countAt_5 : decode cX3_countAt 5 = .ok (.bipush 8, 2) := by decide +kernel
theorem dX3_countAt_7 : decode cX3_countAt 7 = .ok (.if_icmp .ge 35, 3) := by decide +kernel
theorem dX3_countAt_10 : decode cX3_countAt 10 = .ok (.iload_n 2, 1) := by decide +kernel
theorem dX3_countAt_11 : decode cX3_countAt 11 = .ok (.aload_n 0, 1) := by decide +kernel
theorem dX3_countAt_12 : decode cX3_countAt 12 = .ok (.iload_n 3, 1) := by decide +kernel
theorem dX3_countAt_13 : decode cX3_countAt 13 = .ok (.invokevirtual 139, 3) := by decide +kernel
theorem dX3_countAt_16 : decode cX3_countAt 16 = .ok (.ifCond .eq 17, 3) := by decide +kernel
theorem dX3_countAt_19 : decode cX3_countAt 19 = .ok (.aload_n 0, 1) := by decide +kernel
theorem dX3_countAt_20 : decode cX3_countAt 20 = .ok (.getfield 25, 3) := by decide +kernel
theorem dX3_countAt_23 : decode cX3_countAt 23 = .ok (.iload_n 3, 1) := by decide +kernel
theorem dX3_countAt_24 : decode cX3_countAt 24 = .ok (.iaload, 1) := by decide +kernel
theorem dX3_countAt_25 : decode cX3_countAt 25 = .ok (.iload_n 1, 1) := by decide +kernel
theorem dX3_countAt_26 : decode cX3_countAt 26 = .ok (.if_icmp .ne 7, 3) := by decide +kernel
theorem dX3_countAt_29 : decode cX3_countAt 29 = .ok (.iconst 1, 1) := by decide +kernel
theorem dX3_countAt_30 : decode cX3_countAt 30 = .ok (.goto 4, 3) := by decide +kernel
theorem dX3_countAt_33 : decode cX3_countAt 33 = .ok (.iconst 0, 1) := by decide +kernel
theorem dX3_countAt_34 : decode cX3_countAt 34 = .ok (.iadd, 1) := by decide +kernel
theorem dX3_countAt_35 : decode cX3_countAt 35 = .ok (.istore_n 2, 1) := by decide +kernel
theorem dX3_countAt_36 : decode cX3_countAt 36 = .ok (.iinc 3 1, 3) := by decide +kernel
theorem dX3_countAt_39 : decode cX3_countAt 39 = .ok (.goto (-35), 3) := by decide +kernel
theorem dX3_countAt_42 : decode cX3_countAt 42 = .ok (.iload_n 2, 1) := by decide +kernel
theorem dX3_countAt_43 : decode cX3_countAt 43 = .ok (.ireturn, 1) := by decide +kernel
set_option maxRecDepth 20000 in
theorem ggX3_waiters_X3_isAddress : GoodIn wsX3_waiters wsX3_isAddress := goodIn_r _ [4] (by decide +kernel) (by decide +kernel)
set_option maxRecDepth 20000 in
theorem gX3_waiters_X3_isAddress : GoodIn wsX3_waiters (va_wsS RX3 86 yX3_isAddress wsX3_isAddress) := goodIn_app (goodIn_of _ (by decide +kernel)) ggX3_waiters_X3_isAddress
set_option maxRecDepth 20000 in
theorem ggX3_waiters_X3_asks : GoodIn wsX3_waiters wsX3_asks := goodIn_r _ [8, 9, 20, 21, 22, 23, 24, 25, 26, 27, 28, 29, 30, 31, 32, 33, 34, 35, 36] (by decide +kernel) (by decide +kernel)
set_option maxRecDepth 20000 in
theorem gX3_waiters_X3_asks : GoodIn wsX3_waiters (wsV RX3 93 RX3 yX3_asks wsX3_asks) := goodIn_app (goodIn_of _ (by decide +kernel)) ggX3_waiters_X3_asks
set_option maxRecDepth 20000 in
theorem ggX3_waiters_X3_countAt : GoodIn wsX3_waiters wsX3_countAt := goodIn_r _ [13, 14, 15, 16, 17, 3, 18, 19, 20, 21, 22, 23, 24, 25, 26, 27, 28, 29, 30, 31, 32, 33, 34, 35, 36] (by decide +kernel) (by decide +kernel)
set_option maxRecDepth 20000 in
theorem gX3_waiters_X3_countAt : GoodIn wsX3_waiters (wsV RX3 146 RX3 yX3_countAt wsX3_countAt) := goodIn_app (goodIn_of _ (by decide +kernel)) ggX3_waiters_X3_countAt
theorem dX3_waiters_0 : decode cX3_waiters 0 = .ok (.aload_n 0, 1) := by decide +kernel
theorem dX3_waiters_1 : decode cX3_waiters 1 = .ok (.iload_n 1, 1) := by decide +kernel
theorem dX3_waiters_2 : decode cX3_waiters 2 = .ok (.invokestatic 86, 3) := by decide +kernel
theorem dX3_waiters_5 : decode cX3_waiters 5 = .ok (.invokevirtual 93, 3) := by decide +kernel
theorem dX3_waiters_8 : decode cX3_waiters 8 = .ok (.ifCond .eq 11, 3) := by decide +kernel
theorem dX3_waiters_11 : decode cX3_waiters 11 = .ok (.aload_n 0, 1) := by decide +kernel
theorem dX3_waiters_12 : decode cX3_waiters 12 = .ok (.iload_n 1, 1) := by decide +kernel
theorem dX3_waiters_13 : decode cX3_waiters 13 = .ok (.invokevirtual 146, 3) := by decide +kernel
theorem dX3_waiters_16 : decode cX3_waiters 16 = .ok (.goto 4, 3) := by decide +kernel
theorem dX3_waiters_19 : decode cX3_waiters 19 = .ok (.iconst 0, 1) := by decide +kernel
theorem dX3_waiters_20 : decode cX3_waiters 20 = .ok (.ireturn, 1) := by decide +kernel
set_option maxRecDepth 20000 in
theorem ggX3_isIn_X3_isQueued : GoodIn wsX3_isIn wsX3_isQueued := goodIn_r _ [6, 7, 11, 12, 13, 14, 15, 16, 17, 18, 19, 20, 21, 22, 23, 24, 25, 26, 27] (by decide +kernel) (by decide +kernel)
set_option maxRecDepth 20000 in
theorem gX3_isIn_X3_isQueued : GoodIn wsX3_isIn (wsV RX3 139 RX3 yX3_isQueued wsX3_isQueued) := goodIn_app (goodIn_of _ (by decide +kernel)) ggX3_isIn_X3_isQueued
set_option maxRecDepth 20000 in
theorem ggX3_isIn_X3_bucketOf : GoodIn wsX3_isIn wsX3_bucketOf := goodIn_r _ [10] (by decide +kernel) (by decide +kernel)
set_option maxRecDepth 20000 in
theorem gX3_isIn_X3_bucketOf : GoodIn wsX3_isIn (va_wsS RX3 149 yX3_bucketOf wsX3_bucketOf) := goodIn_app (goodIn_of _ (by decide +kernel)) ggX3_isIn_X3_bucketOf
theorem dX3_isIn_0 : decode cX3_isIn 0 = .ok (.aload_n 0, 1) := by decide +kernel
theorem dX3_isIn_1 : decode cX3_isIn 1 = .ok (.iload_n 1, 1) := by decide +kernel
theorem dX3_isIn_2 : decode cX3_isIn 2 = .ok (.invokevirtual 139, 3) := by decide +kernel
theorem dX3_isIn_5 : decode cX3_isIn 5 = .ok (.ifCond .eq 35, 3) := by decide +kernel
theorem dX3_isIn_8 : decode cX3_isIn 8 = .ok (.aload_n 0, 1) := by decide +kernel
theorem dX3_isIn_9 : decode cX3_isIn 9 = .ok (.getfield 25, 3) := by decide +kernel
theorem dX3_isIn_12 : decode cX3_isIn 12 = .ok (.iload_n 1, 1) := by decide +kernel
theorem dX3_isIn_13 : decode cX3_isIn 13 = .ok (.iaload, 1) := by decide +kernel
theorem dX3_isIn_14 : decode cX3_isIn 14 = .ok (.invokestatic 149, 3) := by decide +kernel
theorem dX3_isIn_17 : decode cX3_isIn 17 = .ok (.iload_n 2, 1) := by decide +kernel
theorem dX3_isIn_18 : decode cX3_isIn 18 = .ok (.if_icmp .ne 22, 3) := by decide +kernel
theorem dX3_isIn_21 : decode cX3_isIn 21 = .ok (.iload_n 3, 1) := by decide +kernel
theorem dX3_isIn_22 : decode cX3_isIn 22 = .ok (.iconst (-1), 1) := by decide +kernel
theorem dX3_isIn_23 : decode cX3_isIn 23 = .ok (.if_icmp .eq 13, 3) := by decide +kernel
theorem dX3_isIn_26 : decode cX3_isIn 26 = .ok (.aload_n 0, 1) := by decide +kernel
theorem dX3_isIn_27 : decode cX3_isIn 27 = .ok (.getfield 25, 3) := by decide +kernel
theorem dX3_isIn_30 : decode cX3_isIn 30 = .ok (.iload_n 1, 1) := by decide +kernel
theorem dX3_isIn_31 : decode cX3_isIn 31 = .ok (.iaload, 1) := by decide +kernel
theorem dX3_isIn_32 : decode cX3_isIn 32 = .ok (.iload_n 3, 1) := by decide +kernel
theorem dX3_isIn_33 : decode cX3_isIn 33 = .ok (.if_icmp .ne 7, 3) := by decide +kernel
theorem dX3_isIn_36 : decode cX3_isIn 36 = .ok (.iconst 1, 1) := by decide +kernel
theorem dX3_isIn_37 : decode cX3_isIn 37 = .ok (.goto 4, 3) := by decide +kernel
theorem dX3_isIn_40 : decode cX3_isIn 40 = .ok (.iconst 0, 1) := by decide +kernel
theorem dX3_isIn_41 : decode cX3_isIn 41 = .ok (.ireturn, 1) := by decide +kernel
set_option maxRecDepth 20000 in
theorem ggX3_thread_X3_isIn : GoodIn wsX3_thread wsX3_isIn := goodIn_r _ [5, 6, 7, 8, 9, 4, 10, 11, 12, 13, 14, 22, 23, 24, 25, 26, 27, 28, 29, 30, 31, 32, 33, 34, 35, 36, 37, 38] (by decide +kernel) (by decide +kernel)
set_option maxRecDepth 20000 in
theorem gX3_thread_X3_isIn : GoodIn wsX3_thread (wsV RX3 152 RX3 yX3_isIn wsX3_isIn) := goodIn_app (goodIn_of _ (by decide +kernel)) ggX3_thread_X3_isIn
set_option maxRecDepth 20000 in
theorem ggX3_thread_X3_key : GoodIn wsX3_thread wsX3_key := goodIn_r _ [18, 19, 20, 21, 22, 23, 24, 25, 26, 27, 28, 29, 30, 31, 32, 33, 34, 35, 36, 37, 38] (by decide +kernel) (by decide +kernel)
set_option maxRecDepth 20000 in
theorem gX3_thread_X3_key : GoodIn wsX3_thread (wsV RX3 52 RX3 yX3_key wsX3_key) := goodIn_app (goodIn_of _ (by decide +kernel)) ggX3_thread_X3_key
theorem dX3_thread_0 : decode cX3_thread 0 = .ok (.iconst (-1), 1) := by decide +kernel
theorem dX3_thread_1 : decode cX3_thread 1 = .ok (.istore 4, 2) := by decide +kernel
theorem dX3_thread_3 : decode cX3_thread 3 = .ok (.iconst 0, 1) := by decide +kernel
theorem dX3_thread_4 : decode cX3_thread 4 = .ok (.istore 5, 2) := by decide +kernel
theorem dX3_thread_6 : decode cX3_thread 6 = .ok (.iload 5, 2) := by decide +kernel
theorem dX3_thread_8 : decode cX3_thread 8 = .ok (.bipush 8, 2) := by decide +kernel
theorem dX3_thread_10 : decode cX3_thread 10 = .ok (.if_icmp .ge 91, 3) := by decide +kernel
theorem dX3_thread_13 : decode cX3_thread 13 = .ok (.iconst 0, 1) := by decide +kernel
theorem dX3_thread_14 : decode cX3_thread 14 = .ok (.istore 6, 2) := by decide +kernel
theorem dX3_thread_16 : decode cX3_thread 16 = .ok (.iconst 0, 1) := by decide +kernel
theorem dX3_thread_17 : decode cX3_thread 17 = .ok (.istore 7, 2) := by decide +kernel
theorem dX3_thread_19 : decode cX3_thread 19 = .ok (.iload 7, 2) := by decide +kernel
theorem dX3_thread_21 : decode cX3_thread 21 = .ok (.bipush 8, 2) := by decide +kernel
theorem dX3_thread_23 : decode cX3_thread 23 = .ok (.if_icmp .ge 46, 3) := by decide +kernel
theorem dX3_thread_26 : decode cX3_thread 26 = .ok (.iload 6, 2) := by decide +kernel
theorem dX3_thread_28 : decode cX3_thread 28 = .ok (.aload_n 0, 1) := by decide +kernel
theorem dX3_thread_29 : decode cX3_thread 29 = .ok (.iload 7, 2) := by decide +kernel
theorem dX3_thread_31 : decode cX3_thread 31 = .ok (.iload_n 1, 1) := by decide +kernel
theorem dX3_thread_32 : decode cX3_thread 32 = .ok (.iload_n 2, 1) := by decide +kernel
theorem dX3_thread_33 : decode cX3_thread 33 = .ok (.invokevirtual 152, 3) := by decide +kernel
theorem dX3_thread_36 : decode cX3_thread 36 = .ok (.ifCond .eq 23, 3) := by decide +kernel
theorem dX3_thread_39 : decode cX3_thread 39 = .ok (.aload_n 0, 1) := by decide +kernel
theorem dX3_thread_40 : decode cX3_thread 40 = .ok (.iload 7, 2) := by decide +kernel
theorem dX3_thread_42 : decode cX3_thread 42 = .ok (.invokevirtual 52, 3) := by decide +kernel
theorem dX3_thread_45 : decode cX3_thread 45 = .ok (.aload_n 0, 1) := by decide +kernel
theorem dX3_thread_46 : decode cX3_thread 46 = .ok (.iload 5, 2) := by decide +kernel
theorem dX3_thread_48 : decode cX3_thread 48 = .ok (.invokevirtual 52, 3) := by decide +kernel
theorem dX3_thread_51 : decode cX3_thread 51 = .ok (.lcmp, 1) := by decide +kernel
theorem dX3_thread_52 : decode cX3_thread 52 = .ok (.ifCond .ge 7, 3) := by decide +kernel
theorem dX3_thread_55 : decode cX3_thread 55 = .ok (.iconst 1, 1) := by decide +kernel
theorem dX3_thread_56 : decode cX3_thread 56 = .ok (.goto 4, 3) := by decide +kernel
theorem dX3_thread_59 : decode cX3_thread 59 = .ok (.iconst 0, 1) := by decide +kernel
theorem dX3_thread_60 : decode cX3_thread 60 = .ok (.iadd, 1) := by decide +kernel
theorem dX3_thread_61 : decode cX3_thread 61 = .ok (.istore 6, 2) := by decide +kernel
theorem dX3_thread_63 : decode cX3_thread 63 = .ok (.iinc 7 1, 3) := by decide +kernel
theorem dX3_thread_66 : decode cX3_thread 66 = .ok (.goto (-47), 3) := by decide +kernel
theorem dX3_thread_69 : decode cX3_thread 69 = .ok (.aload_n 0, 1) := by decide +kernel
theorem dX3_thread_70 : decode cX3_thread 70 = .ok (.iload 5, 2) := by decide +kernel
theorem dX3_thread_72 : decode cX3_thread 72 = .ok (.iload_n 1, 1) := by decide +kernel
theorem dX3_thread_73 : decode cX3_thread 73 = .ok (.iload_n 2, 1) := by decide +kernel
theorem dX3_thread_74 : decode cX3_thread 74 = .ok (.invokevirtual 152, 3) := by decide +kernel
theorem dX3_thread_77 : decode cX3_thread 77 = .ok (.ifCond .eq 14, 3) := by decide +kernel
theorem dX3_thread_80 : decode cX3_thread 80 = .ok (.iload 6, 2) := by decide +kernel
theorem dX3_thread_82 : decode cX3_thread 82 = .ok (.iload_n 3, 1) := by decide +kernel
theorem dX3_thread_83 : decode cX3_thread 83 = .ok (.if_icmp .ne 8, 3) := by decide +kernel
theorem dX3_thread_86 : decode cX3_thread 86 = .ok (.iload 5, 2) := by decide +kernel
theorem dX3_thread_88 : decode cX3_thread 88 = .ok (.goto 5, 3) := by decide +kernel
theorem dX3_thread_91 : decode cX3_thread 91 = .ok (.iload 4, 2) := by decide +kernel
theorem dX3_thread_93 : decode cX3_thread 93 = .ok (.istore 4, 2) := by decide +kernel
theorem dX3_thread_95 : decode cX3_thread 95 = .ok (.iinc 5 1, 3) := by decide +kernel
theorem dX3_thread_98 : decode cX3_thread 98 = .ok (.goto (-92), 3) := by decide +kernel
theorem dX3_thread_101 : decode cX3_thread 101 = .ok (.iload 4, 2) := by decide +kernel
theorem dX3_thread_103 : decode cX3_thread 103 = .ok (.ireturn, 1) := by decide +kernel
set_option maxRecDepth 20000 in
theorem ggX3_waiterAt_X3_isAddress : GoodIn wsX3_waiterAt wsX3_isAddress := goodIn_r _ [4] (by decide +kernel) (by decide +kernel)
set_option maxRecDepth 20000 in
theorem gX3_waiterAt_X3_isAddress : GoodIn wsX3_waiterAt (va_wsS RX3 86 yX3_isAddress wsX3_isAddress) := goodIn_app (goodIn_of _ (by decide +kernel)) ggX3_waiterAt_X3_isAddress
set_option maxRecDepth 20000 in
theorem ggX3_waiterAt_X3_countAt : GoodIn wsX3_waiterAt wsX3_countAt := goodIn_r _ [8, 9, 10, 11, 12, 3, 13, 14, 38, 39, 40, 41, 42, 43, 44, 45, 46, 47, 48, 49, 50, 51, 52, 53, 54] (by decide +kernel) (by decide +kernel)
set_option maxRecDepth 20000 in
theorem gX3_waiterAt_X3_countAt : GoodIn wsX3_waiterAt (wsV RX3 146 RX3 yX3_countAt wsX3_countAt) := goodIn_app (goodIn_of _ (by decide +kernel)) ggX3_waiterAt_X3_countAt
set_option maxRecDepth 20000 in
theorem ggX3_waiterAt_X3_asks : GoodIn wsX3_waiterAt wsX3_asks := goodIn_r _ [18, 19, 38, 39, 40, 41, 42, 43, 44, 45, 46, 47, 48, 49, 50, 51, 52, 53, 54] (by decide +kernel) (by decide +kernel)
set_option maxRecDepth 20000 in
theorem gX3_waiterAt_X3_asks : GoodIn wsX3_waiterAt (wsV RX3 93 RX3 yX3_asks wsX3_asks) := goodIn_app (goodIn_of _ (by decide +kernel)) ggX3_waiterAt_X3_asks
set_option maxRecDepth 20000 in
theorem ggX3_waiterAt_X3_bucketOf : GoodIn wsX3_waiterAt wsX3_bucketOf := goodIn_r _ [22] (by decide +kernel) (by decide +kernel)
set_option maxRecDepth 20000 in
theorem gX3_waiterAt_X3_bucketOf : GoodIn wsX3_waiterAt (va_wsS RX3 149 yX3_bucketOf wsX3_bucketOf) := goodIn_app (goodIn_of _ (by decide +kernel)) ggX3_waiterAt_X3_bucketOf
set_option maxRecDepth 20000 in
theorem ggX3_waiterAt_X3_thread : GoodIn wsX3_waiterAt wsX3_thread := goodIn_r _ [26, 27, 28, 29, 3, 30, 9, 10, 11, 12, 13, 14, 20, 21, 22, 31, 32, 33, 34, 35, 36, 37, 38, 39, 40, 41, 42, 43, 44, 45, 46, 47, 48, 49, 50, 51, 52, 53, 54] (by decide +kernel) (by decide +kernel)
set_option maxRecDepth 20000 in
theorem gX3_waiterAt_X3_thread : GoodIn wsX3_waiterAt (wsV RX3 156 RX3 yX3_thread wsX3_thread) := goodIn_app (goodIn_of _ (by decide +kernel)) ggX3_waiterAt_X3_thread
theorem dX3_waiterAt_0 : decode cX3_waiterAt 0 = .ok (.aload_n 0, 1) := by decide +kernel
theorem dX3_waiterAt_1 : decode cX3_waiterAt 1 = .ok (.iload_n 1, 1) := by decide +kernel
theorem dX3_waiterAt_2 : decode cX3_waiterAt 2 = .ok (.invokestatic 86, 3) := by decide +kernel
theorem dX3_waiterAt_5 : decode cX3_waiterAt 5 = .ok (.ifCond .eq 20, 3) := by decide +kernel
theorem dX3_waiterAt_8 : decode cX3_waiterAt 8 = .ok (.iload_n 2, 1) := by decide +kernel
theorem dX3_waiterAt_9 : decode cX3_waiterAt 9 = .ok (.ifCond .lt 16, 3) := by decide +kernel
theorem dX3_waiterAt_12 : decode cX3_waiterAt 12 = .ok (.iload_n 2, 1) := by decide +kernel
theorem dX3_waiterAt_13 : decode cX3_waiterAt 13 = .ok (.aload_n 0, 1) := by decide +kernel
theorem dX3_waiterAt_14 : decode cX3_waiterAt 14 = .ok (.iload_n 1, 1) := by decide +kernel
theorem dX3_waiterAt_15 : decode cX3_waiterAt 15 = .ok (.invokevirtual 146, 3) := by decide +kernel
theorem dX3_waiterAt_18 : decode cX3_waiterAt 18 = .ok (.if_icmp .ge 7, 3) := by decide +kernel
theorem dX3_waiterAt_21 : decode cX3_waiterAt 21 = .ok (.iconst 1, 1) := by decide +kernel
theorem dX3_waiterAt_22 : decode cX3_waiterAt 22 = .ok (.goto 4, 3) := by decide +kernel
theorem dX3_waiterAt_25 : decode cX3_waiterAt 25 = .ok (.iconst 0, 1) := by decide +kernel
theorem dX3_waiterAt_26 : decode cX3_waiterAt 26 = .ok (.invokevirtual 93, 3) := by decide +kernel
theorem dX3_waiterAt_29 : decode cX3_waiterAt 29 = .ok (.ifCond .eq 16, 3) := by decide +kernel
theorem dX3_waiterAt_32 : decode cX3_waiterAt 32 = .ok (.aload_n 0, 1) := by decide +kernel
theorem dX3_waiterAt_33 : decode cX3_waiterAt 33 = .ok (.iload_n 1, 1) := by decide +kernel
theorem dX3_waiterAt_34 : decode cX3_waiterAt 34 = .ok (.invokestatic 149, 3) := by decide +kernel
theorem dX3_waiterAt_37 : decode cX3_waiterAt 37 = .ok (.iload_n 1, 1) := by decide +kernel
theorem dX3_waiterAt_38 : decode cX3_waiterAt 38 = .ok (.iload_n 2, 1) := by decide +kernel
theorem dX3_waiterAt_39 : decode cX3_waiterAt 39 = .ok (.invokevirtual 156, 3) := by decide +kernel
theorem dX3_waiterAt_42 : decode cX3_waiterAt 42 = .ok (.goto 4, 3) := by decide +kernel
theorem dX3_waiterAt_45 : decode cX3_waiterAt 45 = .ok (.iconst 0, 1) := by decide +kernel
theorem dX3_waiterAt_46 : decode cX3_waiterAt 46 = .ok (.ireturn, 1) := by decide +kernel
set_option maxRecDepth 20000 in
theorem ggX3_queueAt_X3_asks : GoodIn wsX3_queueAt wsX3_asks := goodIn_r _ [5, 6, 31, 32, 33, 34, 35, 36, 37, 38, 39, 40, 41, 42, 43, 44, 45, 46, 47] (by decide +kernel) (by decide +kernel)
set_option maxRecDepth 20000 in
theorem gX3_queueAt_X3_asks : GoodIn wsX3_queueAt (wsV RX3 93 RX3 yX3_asks wsX3_asks) := goodIn_app (goodIn_of _ (by decide +kernel)) ggX3_queueAt_X3_asks
set_option maxRecDepth 20000 in
theorem ggX3_queueAt_X3_thread : GoodIn wsX3_queueAt wsX3_thread := goodIn_r _ [10, 11, 12, 13, 4, 14, 15, 16, 17, 18, 19, 20, 21, 22, 23, 24, 25, 26, 27, 28, 29, 30, 31, 32, 33, 34, 35, 36, 37, 38, 39, 40, 41, 42, 43, 44, 45, 46, 47] (by decide +kernel) (by decide +kernel)
set_option maxRecDepth 20000 in
theorem gX3_queueAt_X3_thread : GoodIn wsX3_queueAt (wsV RX3 156 RX3 yX3_thread wsX3_thread) := goodIn_app (goodIn_of _ (by decide +kernel)) ggX3_queueAt_X3_thread
theorem dX3_queueAt_0 : decode cX3_queueAt 0 = .ok (.aload_n 0, 1) := by decide +kernel
theorem dX3_queueAt_1 : decode cX3_queueAt 1 = .ok (.iload_n 1, 1) := by decide +kernel
theorem dX3_queueAt_2 : decode cX3_queueAt 2 = .ok (.ifCond .lt 16, 3) := by decide +kernel
theorem dX3_queueAt_5 : decode cX3_queueAt 5 = .ok (.iload_n 1, 1) := by decide +kernel
theorem dX3_queueAt_6 : decode cX3_queueAt 6 = .ok (.iconst 4, 1) := by decide +kernel
theorem dX3_queueAt_7 : decode cX3_queueAt 7 = .ok (.if_icmp .ge 11, 3) := by decide +kernel
theorem dX3_queueAt_10 : decode cX3_queueAt 10 = .ok (.iload_n 2, 1) := by decide +kernel
theorem dX3_queueAt_11 : decode cX3_queueAt 11 = .ok (.ifCond .lt 7, 3) := by decide +kernel
theorem dX3_queueAt_14 : decode cX3_queueAt 14 = .ok (.iconst 1, 1) := by decide +kernel
theorem dX3_queueAt_15 : decode cX3_queueAt 15 = .ok (.goto 4, 3) := by decide +kernel
theorem dX3_queueAt_18 : decode cX3_queueAt 18 = .ok (.iconst 0, 1) := by decide +kernel
theorem dX3_queueAt_19 : decode cX3_queueAt 19 = .ok (.invokevirtual 93, 3) := by decide +kernel
theorem dX3_queueAt_22 : decode cX3_queueAt 22 = .ok (.ifCond .eq 13, 3) := by decide +kernel
theorem dX3_queueAt_25 : decode cX3_queueAt 25 = .ok (.aload_n 0, 1) := by decide +kernel
theorem dX3_queueAt_26 : decode cX3_queueAt 26 = .ok (.iload_n 1, 1) := by decide +kernel
theorem dX3_queueAt_27 : decode cX3_queueAt 27 = .ok (.iconst (-1), 1) := by decide +kernel
theorem dX3_queueAt_28 : decode cX3_queueAt 28 = .ok (.iload_n 2, 1) := by decide +kernel
theorem dX3_queueAt_29 : decode cX3_queueAt 29 = .ok (.invokevirtual 156, 3) := by decide +kernel
theorem dX3_queueAt_32 : decode cX3_queueAt 32 = .ok (.goto 4, 3) := by decide +kernel
theorem dX3_queueAt_35 : decode cX3_queueAt 35 = .ok (.iconst 0, 1) := by decide +kernel
theorem dX3_queueAt_36 : decode cX3_queueAt 36 = .ok (.ireturn, 1) := by decide +kernel
