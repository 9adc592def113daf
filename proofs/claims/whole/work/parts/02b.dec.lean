theorem d_Sha_init_0 : decode b_Sha_init 0 = .ok (.aload_n 0, 1) := by decide +kernel
theorem d_Sha_init_1 : decode b_Sha_init 1 = .ok (.invokespecial 3, 3) := by decide +kernel
theorem d_Sha_init_4 : decode b_Sha_init 4 = .ok (.aload_n 0, 1) := by decide +kernel
theorem d_Sha_init_5 : decode b_Sha_init 5 = .ok (.bipush 8, 2) := by decide +kernel
theorem d_Sha_init_7 : decode b_Sha_init 7 = .ok (.newarray .int, 2) := by decide +kernel
theorem d_Sha_init_9 : decode b_Sha_init 9 = .ok (.putfield 9, 3) := by decide +kernel
theorem d_Sha_init_12 : decode b_Sha_init 12 = .ok (.aload_n 0, 1) := by decide +kernel
theorem d_Sha_init_13 : decode b_Sha_init 13 = .ok (.bipush 64, 2) := by decide +kernel
theorem d_Sha_init_15 : decode b_Sha_init 15 = .ok (.newarray .int, 2) := by decide +kernel
theorem d_Sha_init_17 : decode b_Sha_init 17 = .ok (.putfield 15, 3) := by decide +kernel
theorem d_Sha_init_20 : decode b_Sha_init 20 = .ok (.return_, 1) := by decide +kernel
theorem d_Sha_hash_0 : decode b_Sha_hash 0 = .ok (.aload_n 0, 1) := by decide +kernel
theorem d_Sha_hash_1 : decode b_Sha_hash 1 = .ok (.aload_n 1, 1) := by decide +kernel
theorem d_Sha_hash_2 : decode b_Sha_hash 2 = .ok (.iload_n 2, 1) := by decide +kernel
theorem d_Sha_hash_3 : decode b_Sha_hash 3 = .ok (.iload_n 3, 1) := by decide +kernel
theorem d_Sha_hash_4 : decode b_Sha_hash 4 = .ok (.aload 4, 2) := by decide +kernel
theorem d_Sha_hash_6 : decode b_Sha_hash 6 = .ok (.iload 5, 2) := by decide +kernel
theorem d_Sha_hash_8 : decode b_Sha_hash 8 = .ok (.invokevirtual 18, 3) := by decide +kernel
theorem d_Sha_hash_11 : decode b_Sha_hash 11 = .ok (.aload_n 0, 1) := by decide +kernel
theorem d_Sha_hash_12 : decode b_Sha_hash 12 = .ok (.aload 4, 2) := by decide +kernel
theorem d_Sha_hash_14 : decode b_Sha_hash 14 = .ok (.iload 5, 2) := by decide +kernel
theorem d_Sha_hash_16 : decode b_Sha_hash 16 = .ok (.bipush 32, 2) := by decide +kernel
theorem d_Sha_hash_18 : decode b_Sha_hash 18 = .ok (.aload 4, 2) := by decide +kernel
theorem d_Sha_hash_20 : decode b_Sha_hash 20 = .ok (.iload 5, 2) := by decide +kernel
theorem d_Sha_hash_22 : decode b_Sha_hash 22 = .ok (.invokevirtual 18, 3) := by decide +kernel
theorem d_Sha_hash_25 : decode b_Sha_hash 25 = .ok (.return_, 1) := by decide +kernel
theorem d_Sha_digest_0 : decode b_Sha_digest 0 = .ok (.getstatic 22, 3) := by decide +kernel
theorem d_Sha_digest_3 : decode b_Sha_digest 3 = .ok (.iconst 0, 1) := by decide +kernel
theorem d_Sha_digest_4 : decode b_Sha_digest 4 = .ok (.aload_n 0, 1) := by decide +kernel
theorem d_Sha_digest_5 : decode b_Sha_digest 5 = .ok (.getfield 9, 3) := by decide +kernel
theorem d_Sha_digest_8 : decode b_Sha_digest 8 = .ok (.iconst 0, 1) := by decide +kernel
theorem d_Sha_digest_9 : decode b_Sha_digest 9 = .ok (.aload_n 0, 1) := by decide +kernel
theorem d_Sha_digest_10 : decode b_Sha_digest 10 = .ok (.getfield 9, 3) := by decide +kernel
theorem d_Sha_digest_13 : decode b_Sha_digest 13 = .ok (.arraylength, 1) := by decide +kernel
theorem d_Sha_digest_14 : decode b_Sha_digest 14 = .ok (.invokestatic 25, 3) := by decide +kernel
theorem d_Sha_digest_17 : decode b_Sha_digest 17 = .ok (.iload_n 3, 1) := by decide +kernel
theorem d_Sha_digest_18 : decode b_Sha_digest 18 = .ok (.bipush 8, 2) := by decide +kernel
theorem d_Sha_digest_20 : decode b_Sha_digest 20 = .ok (.iadd, 1) := by decide +kernel
theorem d_Sha_digest_21 : decode b_Sha_digest 21 = .ok (.bipush 64, 2) := by decide +kernel
theorem d_Sha_digest_23 : decode b_Sha_digest 23 = .ok (.idiv, 1) := by decide +kernel
theorem d_Sha_digest_24 : decode b_Sha_digest 24 = .ok (.istore 6, 2) := by decide +kernel
theorem d_Sha_digest_26 : decode b_Sha_digest 26 = .ok (.iconst 0, 1) := by decide +kernel
theorem d_Sha_digest_27 : decode b_Sha_digest 27 = .ok (.istore 7, 2) := by decide +kernel
theorem d_Sha_digest_29 : decode b_Sha_digest 29 = .ok (.iload 7, 2) := by decide +kernel
theorem d_Sha_digest_31 : decode b_Sha_digest 31 = .ok (.iload 6, 2) := by decide +kernel
theorem d_Sha_digest_33 : decode b_Sha_digest 33 = .ok (.if_icmp .gt 44, 3) := by decide +kernel
theorem d_Sha_digest_36 : decode b_Sha_digest 36 = .ok (.aload_n 0, 1) := by decide +kernel
theorem d_Sha_digest_37 : decode b_Sha_digest 37 = .ok (.aload_n 1, 1) := by decide +kernel
theorem d_Sha_digest_38 : decode b_Sha_digest 38 = .ok (.iload_n 2, 1) := by decide +kernel
theorem d_Sha_digest_39 : decode b_Sha_digest 39 = .ok (.iload_n 3, 1) := by decide +kernel
theorem d_Sha_digest_40 : decode b_Sha_digest 40 = .ok (.iload 7, 2) := by decide +kernel
theorem d_Sha_digest_42 : decode b_Sha_digest 42 = .ok (.invokevirtual 31, 3) := by decide +kernel
theorem d_Sha_digest_45 : decode b_Sha_digest 45 = .ok (.iload 7, 2) := by decide +kernel
theorem d_Sha_digest_47 : decode b_Sha_digest 47 = .ok (.iload 6, 2) := by decide +kernel
theorem d_Sha_digest_49 : decode b_Sha_digest 49 = .ok (.if_icmp .ne 14, 3) := by decide +kernel
theorem d_Sha_digest_52 : decode b_Sha_digest 52 = .ok (.aload_n 0, 1) := by decide +kernel
theorem d_Sha_digest_53 : decode b_Sha_digest 53 = .ok (.getfield 15, 3) := by decide +kernel
theorem d_Sha_digest_56 : decode b_Sha_digest 56 = .ok (.bipush 15, 2) := by decide +kernel
theorem d_Sha_digest_58 : decode b_Sha_digest 58 = .ok (.iload_n 3, 1) := by decide +kernel
theorem d_Sha_digest_59 : decode b_Sha_digest 59 = .ok (.bipush 8, 2) := by decide +kernel
theorem d_Sha_digest_61 : decode b_Sha_digest 61 = .ok (.imul, 1) := by decide +kernel
theorem d_Sha_digest_62 : decode b_Sha_digest 62 = .ok (.iastore, 1) := by decide +kernel
theorem d_Sha_digest_63 : decode b_Sha_digest 63 = .ok (.aload_n 0, 1) := by decide +kernel
theorem d_Sha_digest_64 : decode b_Sha_digest 64 = .ok (.invokevirtual 35, 3) := by decide +kernel
theorem d_Sha_digest_67 : decode b_Sha_digest 67 = .ok (.aload_n 0, 1) := by decide +kernel
theorem d_Sha_digest_68 : decode b_Sha_digest 68 = .ok (.invokevirtual 38, 3) := by decide +kernel
theorem d_Sha_digest_71 : decode b_Sha_digest 71 = .ok (.iinc 7 1, 3) := by decide +kernel
theorem d_Sha_digest_74 : decode b_Sha_digest 74 = .ok (.goto (-45), 3) := by decide +kernel
theorem d_Sha_digest_77 : decode b_Sha_digest 77 = .ok (.iconst 0, 1) := by decide +kernel
theorem d_Sha_digest_78 : decode b_Sha_digest 78 = .ok (.istore 7, 2) := by decide +kernel
theorem d_Sha_digest_80 : decode b_Sha_digest 80 = .ok (.iload 7, 2) := by decide +kernel
theorem d_Sha_digest_82 : decode b_Sha_digest 82 = .ok (.bipush 32, 2) := by decide +kernel
theorem d_Sha_digest_84 : decode b_Sha_digest 84 = .ok (.if_icmp .ge 38, 3) := by decide +kernel
theorem d_Sha_digest_87 : decode b_Sha_digest 87 = .ok (.aload 4, 2) := by decide +kernel
theorem d_Sha_digest_89 : decode b_Sha_digest 89 = .ok (.iload 5, 2) := by decide +kernel
theorem d_Sha_digest_91 : decode b_Sha_digest 91 = .ok (.iload 7, 2) := by decide +kernel
theorem d_Sha_digest_93 : decode b_Sha_digest 93 = .ok (.iadd, 1) := by decide +kernel
theorem d_Sha_digest_94 : decode b_Sha_digest 94 = .ok (.aload_n 0, 1) := by decide +kernel
theorem d_Sha_digest_95 : decode b_Sha_digest 95 = .ok (.getfield 9, 3) := by decide +kernel
theorem d_Sha_digest_98 : decode b_Sha_digest 98 = .ok (.iload 7, 2) := by decide +kernel
theorem d_Sha_digest_100 : decode b_Sha_digest 100 = .ok (.iconst 4, 1) := by decide +kernel
theorem d_Sha_digest_101 : decode b_Sha_digest 101 = .ok (.idiv, 1) := by decide +kernel
theorem d_Sha_digest_102 : decode b_Sha_digest 102 = .ok (.iaload, 1) := by decide +kernel
theorem d_Sha_digest_103 : decode b_Sha_digest 103 = .ok (.bipush 24, 2) := by decide +kernel
theorem d_Sha_digest_105 : decode b_Sha_digest 105 = .ok (.iload 7, 2) := by decide +kernel
theorem d_Sha_digest_107 : decode b_Sha_digest 107 = .ok (.iconst 4, 1) := by decide +kernel
theorem d_Sha_digest_108 : decode b_Sha_digest 108 = .ok (.irem, 1) := by decide +kernel
theorem d_Sha_digest_109 : decode b_Sha_digest 109 = .ok (.bipush 8, 2) := by decide +kernel
theorem d_Sha_digest_111 : decode b_Sha_digest 111 = .ok (.imul, 1) := by decide +kernel
theorem d_Sha_digest_112 : decode b_Sha_digest 112 = .ok (.isub, 1) := by decide +kernel
theorem d_Sha_digest_113 : decode b_Sha_digest 113 = .ok (.iushr, 1) := by decide +kernel
theorem d_Sha_digest_114 : decode b_Sha_digest 114 = .ok (.i2b, 1) := by decide +kernel
theorem d_Sha_digest_115 : decode b_Sha_digest 115 = .ok (.bastore, 1) := by decide +kernel
theorem d_Sha_digest_116 : decode b_Sha_digest 116 = .ok (.iinc 7 1, 3) := by decide +kernel
theorem d_Sha_digest_119 : decode b_Sha_digest 119 = .ok (.goto (-39), 3) := by decide +kernel
theorem d_Sha_digest_122 : decode b_Sha_digest 122 = .ok (.return_, 1) := by decide +kernel
theorem d_Sha_loadWords_0 : decode b_Sha_loadWords 0 = .ok (.iconst 0, 1) := by decide +kernel
theorem d_Sha_loadWords_1 : decode b_Sha_loadWords 1 = .ok (.istore 5, 2) := by decide +kernel
theorem d_Sha_loadWords_3 : decode b_Sha_loadWords 3 = .ok (.iload 5, 2) := by decide +kernel
theorem d_Sha_loadWords_5 : decode b_Sha_loadWords 5 = .ok (.bipush 64, 2) := by decide +kernel
theorem d_Sha_loadWords_7 : decode b_Sha_loadWords 7 = .ok (.if_icmp .ge 81, 3) := by decide +kernel
theorem d_Sha_loadWords_10 : decode b_Sha_loadWords 10 = .ok (.iload 4, 2) := by decide +kernel
theorem d_Sha_loadWords_12 : decode b_Sha_loadWords 12 = .ok (.bipush 64, 2) := by decide +kernel
theorem d_Sha_loadWords_14 : decode b_Sha_loadWords 14 = .ok (.imul, 1) := by decide +kernel
theorem d_Sha_loadWords_15 : decode b_Sha_loadWords 15 = .ok (.iload 5, 2) := by decide +kernel
theorem d_Sha_loadWords_17 : decode b_Sha_loadWords 17 = .ok (.iadd, 1) := by decide +kernel
theorem d_Sha_loadWords_18 : decode b_Sha_loadWords 18 = .ok (.istore 6, 2) := by decide +kernel
theorem d_Sha_loadWords_20 : decode b_Sha_loadWords 20 = .ok (.iload 6, 2) := by decide +kernel
theorem d_Sha_loadWords_22 : decode b_Sha_loadWords 22 = .ok (.iload_n 3, 1) := by decide +kernel
theorem d_Sha_loadWords_23 : decode b_Sha_loadWords 23 = .ok (.if_icmp .ne 9, 3) := by decide +kernel
theorem d_Sha_loadWords_26 : decode b_Sha_loadWords 26 = .ok (.sipush 128, 3) := by decide +kernel
theorem d_Sha_loadWords_29 : decode b_Sha_loadWords 29 = .ok (.goto 4, 3) := by decide +kernel
theorem d_Sha_loadWords_32 : decode b_Sha_loadWords 32 = .ok (.iconst 0, 1) := by decide +kernel
theorem d_Sha_loadWords_33 : decode b_Sha_loadWords 33 = .ok (.istore 7, 2) := by decide +kernel
theorem d_Sha_loadWords_35 : decode b_Sha_loadWords 35 = .ok (.iload 6, 2) := by decide +kernel
theorem d_Sha_loadWords_37 : decode b_Sha_loadWords 37 = .ok (.iload_n 3, 1) := by decide +kernel
theorem d_Sha_loadWords_38 : decode b_Sha_loadWords 38 = .ok (.if_icmp .ge 16, 3) := by decide +kernel
theorem d_Sha_loadWords_41 : decode b_Sha_loadWords 41 = .ok (.aload_n 1, 1) := by decide +kernel
theorem d_Sha_loadWords_42 : decode b_Sha_loadWords 42 = .ok (.iload_n 2, 1) := by decide +kernel
theorem d_Sha_loadWords_43 : decode b_Sha_loadWords 43 = .ok (.iload 6, 2) := by decide +kernel
theorem d_Sha_loadWords_45 : decode b_Sha_loadWords 45 = .ok (.iadd, 1) := by decide +kernel
theorem d_Sha_loadWords_46 : decode b_Sha_loadWords 46 = .ok (.baload, 1) := by decide +kernel
theorem d_Sha_loadWords_47 : decode b_Sha_loadWords 47 = .ok (.sipush 255, 3) := by decide +kernel
theorem d_Sha_loadWords_50 : decode b_Sha_loadWords 50 = .ok (.iand, 1) := by decide +kernel
theorem d_Sha_loadWords_51 : decode b_Sha_loadWords 51 = .ok (.goto 5, 3) := by decide +kernel
theorem d_Sha_loadWords_54 : decode b_Sha_loadWords 54 = .ok (.iload 7, 2) := by decide +kernel
theorem d_Sha_loadWords_56 : decode b_Sha_loadWords 56 = .ok (.istore 8, 2) := by decide +kernel
theorem d_Sha_loadWords_58 : decode b_Sha_loadWords 58 = .ok (.aload_n 0, 1) := by decide +kernel
theorem d_Sha_loadWords_59 : decode b_Sha_loadWords 59 = .ok (.getfield 15, 3) := by decide +kernel
theorem d_Sha_loadWords_62 : decode b_Sha_loadWords 62 = .ok (.iload 5, 2) := by decide +kernel
theorem d_Sha_loadWords_64 : decode b_Sha_loadWords 64 = .ok (.iconst 4, 1) := by decide +kernel
theorem d_Sha_loadWords_65 : decode b_Sha_loadWords 65 = .ok (.idiv, 1) := by decide +kernel
theorem d_Sha_loadWords_66 : decode b_Sha_loadWords 66 = .ok (.aload_n 0, 1) := by decide +kernel
theorem d_Sha_loadWords_67 : decode b_Sha_loadWords 67 = .ok (.getfield 15, 3) := by decide +kernel
theorem d_Sha_loadWords_70 : decode b_Sha_loadWords 70 = .ok (.iload 5, 2) := by decide +kernel
theorem d_Sha_loadWords_72 : decode b_Sha_loadWords 72 = .ok (.iconst 4, 1) := by decide +kernel
theorem d_Sha_loadWords_73 : decode b_Sha_loadWords 73 = .ok (.idiv, 1) := by decide +kernel
theorem d_Sha_loadWords_74 : decode b_Sha_loadWords 74 = .ok (.iaload, 1) := by decide +kernel
theorem d_Sha_loadWords_75 : decode b_Sha_loadWords 75 = .ok (.bipush 8, 2) := by decide +kernel
theorem d_Sha_loadWords_77 : decode b_Sha_loadWords 77 = .ok (.ishl, 1) := by decide +kernel
theorem d_Sha_loadWords_78 : decode b_Sha_loadWords 78 = .ok (.iload 8, 2) := by decide +kernel
theorem d_Sha_loadWords_80 : decode b_Sha_loadWords 80 = .ok (.ior, 1) := by decide +kernel
theorem d_Sha_loadWords_81 : decode b_Sha_loadWords 81 = .ok (.iastore, 1) := by decide +kernel
theorem d_Sha_loadWords_82 : decode b_Sha_loadWords 82 = .ok (.iinc 5 1, 3) := by decide +kernel
theorem d_Sha_loadWords_85 : decode b_Sha_loadWords 85 = .ok (.goto (-82), 3) := by decide +kernel
theorem d_Sha_loadWords_88 : decode b_Sha_loadWords 88 = .ok (.return_, 1) := by decide +kernel
theorem d_Sha_extendWords_0 : decode b_Sha_extendWords 0 = .ok (.bipush 16, 2) := by decide +kernel
theorem d_Sha_extendWords_2 : decode b_Sha_extendWords 2 = .ok (.istore_n 1, 1) := by decide +kernel
theorem d_Sha_extendWords_3 : decode b_Sha_extendWords 3 = .ok (.iload_n 1, 1) := by decide +kernel
theorem d_Sha_extendWords_4 : decode b_Sha_extendWords 4 = .ok (.bipush 64, 2) := by decide +kernel
theorem d_Sha_extendWords_6 : decode b_Sha_extendWords 6 = .ok (.if_icmp .ge 110, 3) := by decide +kernel
theorem d_Sha_extendWords_9 : decode b_Sha_extendWords 9 = .ok (.aload_n 0, 1) := by decide +kernel
theorem d_Sha_extendWords_10 : decode b_Sha_extendWords 10 = .ok (.getfield 15, 3) := by decide +kernel
theorem d_Sha_extendWords_13 : decode b_Sha_extendWords 13 = .ok (.iload_n 1, 1) := by decide +kernel
theorem d_Sha_extendWords_14 : decode b_Sha_extendWords 14 = .ok (.bipush 15, 2) := by decide +kernel
theorem d_Sha_extendWords_16 : decode b_Sha_extendWords 16 = .ok (.isub, 1) := by decide +kernel
theorem d_Sha_extendWords_17 : decode b_Sha_extendWords 17 = .ok (.iaload, 1) := by decide +kernel
theorem d_Sha_extendWords_18 : decode b_Sha_extendWords 18 = .ok (.istore_n 2, 1) := by decide +kernel
theorem d_Sha_extendWords_19 : decode b_Sha_extendWords 19 = .ok (.aload_n 0, 1) := by decide +kernel
theorem d_Sha_extendWords_20 : decode b_Sha_extendWords 20 = .ok (.getfield 15, 3) := by decide +kernel
theorem d_Sha_extendWords_23 : decode b_Sha_extendWords 23 = .ok (.iload_n 1, 1) := by decide +kernel
theorem d_Sha_extendWords_24 : decode b_Sha_extendWords 24 = .ok (.iconst 2, 1) := by decide +kernel
theorem d_Sha_extendWords_25 : decode b_Sha_extendWords 25 = .ok (.isub, 1) := by decide +kernel
theorem d_Sha_extendWords_26 : decode b_Sha_extendWords 26 = .ok (.iaload, 1) := by decide +kernel
theorem d_Sha_extendWords_27 : decode b_Sha_extendWords 27 = .ok (.istore_n 3, 1) := by decide +kernel
theorem d_Sha_extendWords_28 : decode b_Sha_extendWords 28 = .ok (.iload_n 2, 1) := by decide +kernel
theorem d_Sha_extendWords_29 : decode b_Sha_extendWords 29 = .ok (.bipush 7, 2) := by decide +kernel
theorem d_Sha_extendWords_31 : decode b_Sha_extendWords 31 = .ok (.iushr, 1) := by decide +kernel
theorem d_Sha_extendWords_32 : decode b_Sha_extendWords 32 = .ok (.iload_n 2, 1) := by decide +kernel
theorem d_Sha_extendWords_33 : decode b_Sha_extendWords 33 = .ok (.bipush 25, 2) := by decide +kernel
theorem d_Sha_extendWords_35 : decode b_Sha_extendWords 35 = .ok (.ishl, 1) := by decide +kernel
theorem d_Sha_extendWords_36 : decode b_Sha_extendWords 36 = .ok (.ior, 1) := by decide +kernel
theorem d_Sha_extendWords_37 : decode b_Sha_extendWords 37 = .ok (.iload_n 2, 1) := by decide +kernel
theorem d_Sha_extendWords_38 : decode b_Sha_extendWords 38 = .ok (.bipush 18, 2) := by decide +kernel
theorem d_Sha_extendWords_40 : decode b_Sha_extendWords 40 = .ok (.iushr, 1) := by decide +kernel
theorem d_Sha_extendWords_41 : decode b_Sha_extendWords 41 = .ok (.iload_n 2, 1) := by decide +kernel
theorem d_Sha_extendWords_42 : decode b_Sha_extendWords 42 = .ok (.bipush 14, 2) := by decide +kernel
theorem d_Sha_extendWords_44 : decode b_Sha_extendWords 44 = .ok (.ishl, 1) := by decide +kernel
theorem d_Sha_extendWords_45 : decode b_Sha_extendWords 45 = .ok (.ior, 1) := by decide +kernel
theorem d_Sha_extendWords_46 : decode b_Sha_extendWords 46 = .ok (.ixor, 1) := by decide +kernel
theorem d_Sha_extendWords_47 : decode b_Sha_extendWords 47 = .ok (.iload_n 2, 1) := by decide +kernel
theorem d_Sha_extendWords_48 : decode b_Sha_extendWords 48 = .ok (.iconst 3, 1) := by decide +kernel
theorem d_Sha_extendWords_49 : decode b_Sha_extendWords 49 = .ok (.iushr, 1) := by decide +kernel
theorem d_Sha_extendWords_50 : decode b_Sha_extendWords 50 = .ok (.ixor, 1) := by decide +kernel
theorem d_Sha_extendWords_51 : decode b_Sha_extendWords 51 = .ok (.istore 4, 2) := by decide +kernel
theorem d_Sha_extendWords_53 : decode b_Sha_extendWords 53 = .ok (.iload_n 3, 1) := by decide +kernel
theorem d_Sha_extendWords_54 : decode b_Sha_extendWords 54 = .ok (.bipush 17, 2) := by decide +kernel
theorem d_Sha_extendWords_56 : decode b_Sha_extendWords 56 = .ok (.iushr, 1) := by decide +kernel
theorem d_Sha_extendWords_57 : decode b_Sha_extendWords 57 = .ok (.iload_n 3, 1) := by decide +kernel
theorem d_Sha_extendWords_58 : decode b_Sha_extendWords 58 = .ok (.bipush 15, 2) := by decide +kernel
theorem d_Sha_extendWords_60 : decode b_Sha_extendWords 60 = .ok (.ishl, 1) := by decide +kernel
theorem d_Sha_extendWords_61 : decode b_Sha_extendWords 61 = .ok (.ior, 1) := by decide +kernel
theorem d_Sha_extendWords_62 : decode b_Sha_extendWords 62 = .ok (.iload_n 3, 1) := by decide +kernel
theorem d_Sha_extendWords_63 : decode b_Sha_extendWords 63 = .ok (.bipush 19, 2) := by decide +kernel
theorem d_Sha_extendWords_65 : decode b_Sha_extendWords 65 = .ok (.iushr, 1) := by decide +kernel
theorem d_Sha_extendWords_66 : decode b_Sha_extendWords 66 = .ok (.iload_n 3, 1) := by decide +kernel
theorem d_Sha_extendWords_67 : decode b_Sha_extendWords 67 = .ok (.bipush 13, 2) := by decide +kernel
theorem d_Sha_extendWords_69 : decode b_Sha_extendWords 69 = .ok (.ishl, 1) := by decide +kernel
theorem d_Sha_extendWords_70 : decode b_Sha_extendWords 70 = .ok (.ior, 1) := by decide +kernel
theorem d_Sha_extendWords_71 : decode b_Sha_extendWords 71 = .ok (.ixor, 1) := by decide +kernel
theorem d_Sha_extendWords_72 : decode b_Sha_extendWords 72 = .ok (.iload_n 3, 1) := by decide +kernel
theorem d_Sha_extendWords_73 : decode b_Sha_extendWords 73 = .ok (.bipush 10, 2) := by decide +kernel
theorem d_Sha_extendWords_75 : decode b_Sha_extendWords 75 = .ok (.iushr, 1) := by decide +kernel
theorem d_Sha_extendWords_76 : decode b_Sha_extendWords 76 = .ok (.ixor, 1) := by decide +kernel
theorem d_Sha_extendWords_77 : decode b_Sha_extendWords 77 = .ok (.istore 5, 2) := by decide +kernel
theorem d_Sha_extendWords_79 : decode b_Sha_extendWords 79 = .ok (.aload_n 0, 1) := by decide +kernel
theorem d_Sha_extendWords_80 : decode b_Sha_extendWords 80 = .ok (.getfield 15, 3) := by decide +kernel
theorem d_Sha_extendWords_83 : decode b_Sha_extendWords 83 = .ok (.iload_n 1, 1) := by decide +kernel
theorem d_Sha_extendWords_84 : decode b_Sha_extendWords 84 = .ok (.aload_n 0, 1) := by decide +kernel
theorem d_Sha_extendWords_85 : decode b_Sha_extendWords 85 = .ok (.getfield 15, 3) := by decide +kernel
theorem d_Sha_extendWords_88 : decode b_Sha_extendWords 88 = .ok (.iload_n 1, 1) := by decide +kernel
theorem d_Sha_extendWords_89 : decode b_Sha_extendWords 89 = .ok (.bipush 16, 2) := by decide +kernel
theorem d_Sha_extendWords_91 : decode b_Sha_extendWords 91 = .ok (.isub, 1) := by decide +kernel
theorem d_Sha_extendWords_92 : decode b_Sha_extendWords 92 = .ok (.iaload, 1) := by decide +kernel
theorem d_Sha_extendWords_93 : decode b_Sha_extendWords 93 = .ok (.iload 4, 2) := by decide +kernel
theorem d_Sha_extendWords_95 : decode b_Sha_extendWords 95 = .ok (.iadd, 1) := by decide +kernel
theorem d_Sha_extendWords_96 : decode b_Sha_extendWords 96 = .ok (.aload_n 0, 1) := by decide +kernel
theorem d_Sha_extendWords_97 : decode b_Sha_extendWords 97 = .ok (.getfield 15, 3) := by decide +kernel
theorem d_Sha_extendWords_100 : decode b_Sha_extendWords 100 = .ok (.iload_n 1, 1) := by decide +kernel
theorem d_Sha_extendWords_101 : decode b_Sha_extendWords 101 = .ok (.bipush 7, 2) := by decide +kernel
theorem d_Sha_extendWords_103 : decode b_Sha_extendWords 103 = .ok (.isub, 1) := by decide +kernel
theorem d_Sha_extendWords_104 : decode b_Sha_extendWords 104 = .ok (.iaload, 1) := by decide +kernel
theorem d_Sha_extendWords_105 : decode b_Sha_extendWords 105 = .ok (.iadd, 1) := by decide +kernel
theorem d_Sha_extendWords_106 : decode b_Sha_extendWords 106 = .ok (.iload 5, 2) := by decide +kernel
theorem d_Sha_extendWords_108 : decode b_Sha_extendWords 108 = .ok (.iadd, 1) := by decide +kernel
theorem d_Sha_extendWords_109 : decode b_Sha_extendWords 109 = .ok (.iastore, 1) := by decide +kernel
theorem d_Sha_extendWords_110 : decode b_Sha_extendWords 110 = .ok (.iinc 1 1, 3) := by decide +kernel
theorem d_Sha_extendWords_113 : decode b_Sha_extendWords 113 = .ok (.goto (-110), 3) := by decide +kernel
theorem d_Sha_extendWords_116 : decode b_Sha_extendWords 116 = .ok (.return_, 1) := by decide +kernel
theorem d_Sha_mixWords_0 : decode b_Sha_mixWords 0 = .ok (.aload_n 0, 1) := by decide +kernel
theorem d_Sha_mixWords_1 : decode b_Sha_mixWords 1 = .ok (.getfield 9, 3) := by decide +kernel
theorem d_Sha_mixWords_4 : decode b_Sha_mixWords 4 = .ok (.iconst 0, 1) := by decide +kernel
theorem d_Sha_mixWords_5 : decode b_Sha_mixWords 5 = .ok (.iaload, 1) := by decide +kernel
theorem d_Sha_mixWords_6 : decode b_Sha_mixWords 6 = .ok (.istore_n 1, 1) := by decide +kernel
theorem d_Sha_mixWords_7 : decode b_Sha_mixWords 7 = .ok (.aload_n 0, 1) := by decide +kernel
theorem d_Sha_mixWords_8 : decode b_Sha_mixWords 8 = .ok (.getfield 9, 3) := by decide +kernel
theorem d_Sha_mixWords_11 : decode b_Sha_mixWords 11 = .ok (.iconst 1, 1) := by decide +kernel
theorem d_Sha_mixWords_12 : decode b_Sha_mixWords 12 = .ok (.iaload, 1) := by decide +kernel
theorem d_Sha_mixWords_13 : decode b_Sha_mixWords 13 = .ok (.istore_n 2, 1) := by decide +kernel
theorem d_Sha_mixWords_14 : decode b_Sha_mixWords 14 = .ok (.aload_n 0, 1) := by decide +kernel
theorem d_Sha_mixWords_15 : decode b_Sha_mixWords 15 = .ok (.getfield 9, 3) := by decide +kernel
theorem d_Sha_mixWords_18 : decode b_Sha_mixWords 18 = .ok (.iconst 2, 1) := by decide +kernel
theorem d_Sha_mixWords_19 : decode b_Sha_mixWords 19 = .ok (.iaload, 1) := by decide +kernel
theorem d_Sha_mixWords_20 : decode b_Sha_mixWords 20 = .ok (.istore_n 3, 1) := by decide +kernel
theorem d_Sha_mixWords_21 : decode b_Sha_mixWords 21 = .ok (.aload_n 0, 1) := by decide +kernel
theorem d_Sha_mixWords_22 : decode b_Sha_mixWords 22 = .ok (.getfield 9, 3) := by decide +kernel
theorem d_Sha_mixWords_25 : decode b_Sha_mixWords 25 = .ok (.iconst 3, 1) := by decide +kernel
theorem d_Sha_mixWords_26 : decode b_Sha_mixWords 26 = .ok (.iaload, 1) := by decide +kernel
theorem d_Sha_mixWords_27 : decode b_Sha_mixWords 27 = .ok (.istore 4, 2) := by decide +kernel
theorem d_Sha_mixWords_29 : decode b_Sha_mixWords 29 = .ok (.aload_n 0, 1) := by decide +kernel
theorem d_Sha_mixWords_30 : decode b_Sha_mixWords 30 = .ok (.getfield 9, 3) := by decide +kernel
theorem d_Sha_mixWords_33 : decode b_Sha_mixWords 33 = .ok (.iconst 4, 1) := by decide +kernel
theorem d_Sha_mixWords_34 : decode b_Sha_mixWords 34 = .ok (.iaload, 1) := by decide +kernel
theorem d_Sha_mixWords_35 : decode b_Sha_mixWords 35 = .ok (.istore 5, 2) := by decide +kernel
theorem d_Sha_mixWords_37 : decode b_Sha_mixWords 37 = .ok (.aload_n 0, 1) := by decide +kernel
theorem d_Sha_mixWords_38 : decode b_Sha_mixWords 38 = .ok (.getfield 9, 3) := by decide +kernel
theorem d_Sha_mixWords_41 : decode b_Sha_mixWords 41 = .ok (.iconst 5, 1) := by decide +kernel
theorem d_Sha_mixWords_42 : decode b_Sha_mixWords 42 = .ok (.iaload, 1) := by decide +kernel
theorem d_Sha_mixWords_43 : decode b_Sha_mixWords 43 = .ok (.istore 6, 2) := by decide +kernel
theorem d_Sha_mixWords_45 : decode b_Sha_mixWords 45 = .ok (.aload_n 0, 1) := by decide +kernel
theorem d_Sha_mixWords_46 : decode b_Sha_mixWords 46 = .ok (.getfield 9, 3) := by decide +kernel
theorem d_Sha_mixWords_49 : decode b_Sha_mixWords 49 = .ok (.bipush 6, 2) := by decide +kernel
theorem d_Sha_mixWords_51 : decode b_Sha_mixWords 51 = .ok (.iaload, 1) := by decide +kernel
theorem d_Sha_mixWords_52 : decode b_Sha_mixWords 52 = .ok (.istore 7, 2) := by decide +kernel
theorem d_Sha_mixWords_54 : decode b_Sha_mixWords 54 = .ok (.aload_n 0, 1) := by decide +kernel
theorem d_Sha_mixWords_55 : decode b_Sha_mixWords 55 = .ok (.getfield 9, 3) := by decide +kernel
theorem d_Sha_mixWords_58 : decode b_Sha_mixWords 58 = .ok (.bipush 7, 2) := by decide +kernel
theorem d_Sha_mixWords_60 : decode b_Sha_mixWords 60 = .ok (.iaload, 1) := by decide +kernel
theorem d_Sha_mixWords_61 : decode b_Sha_mixWords 61 = .ok (.istore 8, 2) := by decide +kernel
theorem d_Sha_mixWords_63 : decode b_Sha_mixWords 63 = .ok (.iconst 0, 1) := by decide +kernel
theorem d_Sha_mixWords_64 : decode b_Sha_mixWords 64 = .ok (.istore 9, 2) := by decide +kernel
theorem d_Sha_mixWords_66 : decode b_Sha_mixWords 66 = .ok (.iload 9, 2) := by decide +kernel
theorem d_Sha_mixWords_68 : decode b_Sha_mixWords 68 = .ok (.bipush 64, 2) := by decide +kernel
theorem d_Sha_mixWords_70 : decode b_Sha_mixWords 70 = .ok (.if_icmp .ge 168, 3) := by decide +kernel
theorem d_Sha_mixWords_73 : decode b_Sha_mixWords 73 = .ok (.iload 5, 2) := by decide +kernel
theorem d_Sha_mixWords_75 : decode b_Sha_mixWords 75 = .ok (.bipush 6, 2) := by decide +kernel
theorem d_Sha_mixWords_77 : decode b_Sha_mixWords 77 = .ok (.iushr, 1) := by decide +kernel
theorem d_Sha_mixWords_78 : decode b_Sha_mixWords 78 = .ok (.iload 5, 2) := by decide +kernel
theorem d_Sha_mixWords_80 : decode b_Sha_mixWords 80 = .ok (.bipush 26, 2) := by decide +kernel
theorem d_Sha_mixWords_82 : decode b_Sha_mixWords 82 = .ok (.ishl, 1) := by decide +kernel
theorem d_Sha_mixWords_83 : decode b_Sha_mixWords 83 = .ok (.ior, 1) := by decide +kernel
theorem d_Sha_mixWords_84 : decode b_Sha_mixWords 84 = .ok (.iload 5, 2) := by decide +kernel
theorem d_Sha_mixWords_86 : decode b_Sha_mixWords 86 = .ok (.bipush 11, 2) := by decide +kernel
theorem d_Sha_mixWords_88 : decode b_Sha_mixWords 88 = .ok (.iushr, 1) := by decide +kernel
theorem d_Sha_mixWords_89 : decode b_Sha_mixWords 89 = .ok (.iload 5, 2) := by decide +kernel
theorem d_Sha_mixWords_91 : decode b_Sha_mixWords 91 = .ok (.bipush 21, 2) := by decide +kernel
theorem d_Sha_mixWords_93 : decode b_Sha_mixWords 93 = .ok (.ishl, 1) := by decide +kernel
theorem d_Sha_mixWords_94 : decode b_Sha_mixWords 94 = .ok (.ior, 1) := by decide +kernel
theorem d_Sha_mixWords_95 : decode b_Sha_mixWords 95 = .ok (.ixor, 1) := by decide +kernel
theorem d_Sha_mixWords_96 : decode b_Sha_mixWords 96 = .ok (.iload 5, 2) := by decide +kernel
theorem d_Sha_mixWords_98 : decode b_Sha_mixWords 98 = .ok (.bipush 25, 2) := by decide +kernel
theorem d_Sha_mixWords_100 : decode b_Sha_mixWords 100 = .ok (.iushr, 1) := by decide +kernel
theorem d_Sha_mixWords_101 : decode b_Sha_mixWords 101 = .ok (.iload 5, 2) := by decide +kernel
theorem d_Sha_mixWords_103 : decode b_Sha_mixWords 103 = .ok (.bipush 7, 2) := by decide +kernel
theorem d_Sha_mixWords_105 : decode b_Sha_mixWords 105 = .ok (.ishl, 1) := by decide +kernel
theorem d_Sha_mixWords_106 : decode b_Sha_mixWords 106 = .ok (.ior, 1) := by decide +kernel
theorem d_Sha_mixWords_107 : decode b_Sha_mixWords 107 = .ok (.ixor, 1) := by decide +kernel
theorem d_Sha_mixWords_108 : decode b_Sha_mixWords 108 = .ok (.istore 10, 2) := by decide +kernel
theorem d_Sha_mixWords_110 : decode b_Sha_mixWords 110 = .ok (.iload 5, 2) := by decide +kernel
theorem d_Sha_mixWords_112 : decode b_Sha_mixWords 112 = .ok (.iload 6, 2) := by decide +kernel
theorem d_Sha_mixWords_114 : decode b_Sha_mixWords 114 = .ok (.iand, 1) := by decide +kernel
theorem d_Sha_mixWords_115 : decode b_Sha_mixWords 115 = .ok (.iload 5, 2) := by decide +kernel
theorem d_Sha_mixWords_117 : decode b_Sha_mixWords 117 = .ok (.iconst (-1), 1) := by decide +kernel
theorem d_Sha_mixWords_118 : decode b_Sha_mixWords 118 = .ok (.ixor, 1) := by decide +kernel
theorem d_Sha_mixWords_119 : decode b_Sha_mixWords 119 = .ok (.iload 7, 2) := by decide +kernel
theorem d_Sha_mixWords_121 : decode b_Sha_mixWords 121 = .ok (.iand, 1) := by decide +kernel
theorem d_Sha_mixWords_122 : decode b_Sha_mixWords 122 = .ok (.ixor, 1) := by decide +kernel
theorem d_Sha_mixWords_123 : decode b_Sha_mixWords 123 = .ok (.istore 11, 2) := by decide +kernel
theorem d_Sha_mixWords_125 : decode b_Sha_mixWords 125 = .ok (.iload 8, 2) := by decide +kernel
theorem d_Sha_mixWords_127 : decode b_Sha_mixWords 127 = .ok (.iload 10, 2) := by decide +kernel
theorem d_Sha_mixWords_129 : decode b_Sha_mixWords 129 = .ok (.iadd, 1) := by decide +kernel
theorem d_Sha_mixWords_130 : decode b_Sha_mixWords 130 = .ok (.iload 11, 2) := by decide +kernel
theorem d_Sha_mixWords_132 : decode b_Sha_mixWords 132 = .ok (.iadd, 1) := by decide +kernel
theorem d_Sha_mixWords_133 : decode b_Sha_mixWords 133 = .ok (.getstatic 41, 3) := by decide +kernel
theorem d_Sha_mixWords_136 : decode b_Sha_mixWords 136 = .ok (.iload 9, 2) := by decide +kernel
theorem d_Sha_mixWords_138 : decode b_Sha_mixWords 138 = .ok (.iaload, 1) := by decide +kernel
theorem d_Sha_mixWords_139 : decode b_Sha_mixWords 139 = .ok (.iadd, 1) := by decide +kernel
theorem d_Sha_mixWords_140 : decode b_Sha_mixWords 140 = .ok (.aload_n 0, 1) := by decide +kernel
theorem d_Sha_mixWords_141 : decode b_Sha_mixWords 141 = .ok (.getfield 15, 3) := by decide +kernel
theorem d_Sha_mixWords_144 : decode b_Sha_mixWords 144 = .ok (.iload 9, 2) := by decide +kernel
theorem d_Sha_mixWords_146 : decode b_Sha_mixWords 146 = .ok (.iaload, 1) := by decide +kernel
theorem d_Sha_mixWords_147 : decode b_Sha_mixWords 147 = .ok (.iadd, 1) := by decide +kernel
theorem d_Sha_mixWords_148 : decode b_Sha_mixWords 148 = .ok (.istore 12, 2) := by decide +kernel
theorem d_Sha_mixWords_150 : decode b_Sha_mixWords 150 = .ok (.iload_n 1, 1) := by decide +kernel
theorem d_Sha_mixWords_151 : decode b_Sha_mixWords 151 = .ok (.iconst 2, 1) := by decide +kernel
theorem d_Sha_mixWords_152 : decode b_Sha_mixWords 152 = .ok (.iushr, 1) := by decide +kernel
theorem d_Sha_mixWords_153 : decode b_Sha_mixWords 153 = .ok (.iload_n 1, 1) := by decide +kernel
theorem d_Sha_mixWords_154 : decode b_Sha_mixWords 154 = .ok (.bipush 30, 2) := by decide +kernel
theorem d_Sha_mixWords_156 : decode b_Sha_mixWords 156 = .ok (.ishl, 1) := by decide +kernel
theorem d_Sha_mixWords_157 : decode b_Sha_mixWords 157 = .ok (.ior, 1) := by decide +kernel
theorem d_Sha_mixWords_158 : decode b_Sha_mixWords 158 = .ok (.iload_n 1, 1) := by decide +kernel
theorem d_Sha_mixWords_159 : decode b_Sha_mixWords 159 = .ok (.bipush 13, 2) := by decide +kernel
theorem d_Sha_mixWords_161 : decode b_Sha_mixWords 161 = .ok (.iushr, 1) := by decide +kernel
theorem d_Sha_mixWords_162 : decode b_Sha_mixWords 162 = .ok (.iload_n 1, 1) := by decide +kernel
theorem d_Sha_mixWords_163 : decode b_Sha_mixWords 163 = .ok (.bipush 19, 2) := by decide +kernel
theorem d_Sha_mixWords_165 : decode b_Sha_mixWords 165 = .ok (.ishl, 1) := by decide +kernel
theorem d_Sha_mixWords_166 : decode b_Sha_mixWords 166 = .ok (.ior, 1) := by decide +kernel
theorem d_Sha_mixWords_167 : decode b_Sha_mixWords 167 = .ok (.ixor, 1) := by decide +kernel
theorem d_Sha_mixWords_168 : decode b_Sha_mixWords 168 = .ok (.iload_n 1, 1) := by decide +kernel
theorem d_Sha_mixWords_169 : decode b_Sha_mixWords 169 = .ok (.bipush 22, 2) := by decide +kernel
theorem d_Sha_mixWords_171 : decode b_Sha_mixWords 171 = .ok (.iushr, 1) := by decide +kernel
theorem d_Sha_mixWords_172 : decode b_Sha_mixWords 172 = .ok (.iload_n 1, 1) := by decide +kernel
theorem d_Sha_mixWords_173 : decode b_Sha_mixWords 173 = .ok (.bipush 10, 2) := by decide +kernel
theorem d_Sha_mixWords_175 : decode b_Sha_mixWords 175 = .ok (.ishl, 1) := by decide +kernel
theorem d_Sha_mixWords_176 : decode b_Sha_mixWords 176 = .ok (.ior, 1) := by decide +kernel
theorem d_Sha_mixWords_177 : decode b_Sha_mixWords 177 = .ok (.ixor, 1) := by decide +kernel
theorem d_Sha_mixWords_178 : decode b_Sha_mixWords 178 = .ok (.istore 13, 2) := by decide +kernel
theorem d_Sha_mixWords_180 : decode b_Sha_mixWords 180 = .ok (.iload_n 1, 1) := by decide +kernel
theorem d_Sha_mixWords_181 : decode b_Sha_mixWords 181 = .ok (.iload_n 2, 1) := by decide +kernel
theorem d_Sha_mixWords_182 : decode b_Sha_mixWords 182 = .ok (.iand, 1) := by decide +kernel
theorem d_Sha_mixWords_183 : decode b_Sha_mixWords 183 = .ok (.iload_n 1, 1) := by decide +kernel
theorem d_Sha_mixWords_184 : decode b_Sha_mixWords 184 = .ok (.iload_n 3, 1) := by decide +kernel
theorem d_Sha_mixWords_185 : decode b_Sha_mixWords 185 = .ok (.iand, 1) := by decide +kernel
theorem d_Sha_mixWords_186 : decode b_Sha_mixWords 186 = .ok (.ixor, 1) := by decide +kernel
theorem d_Sha_mixWords_187 : decode b_Sha_mixWords 187 = .ok (.iload_n 2, 1) := by decide +kernel
theorem d_Sha_mixWords_188 : decode b_Sha_mixWords 188 = .ok (.iload_n 3, 1) := by decide +kernel
theorem d_Sha_mixWords_189 : decode b_Sha_mixWords 189 = .ok (.iand, 1) := by decide +kernel
theorem d_Sha_mixWords_190 : decode b_Sha_mixWords 190 = .ok (.ixor, 1) := by decide +kernel
theorem d_Sha_mixWords_191 : decode b_Sha_mixWords 191 = .ok (.istore 14, 2) := by decide +kernel
theorem d_Sha_mixWords_193 : decode b_Sha_mixWords 193 = .ok (.iload 13, 2) := by decide +kernel
theorem d_Sha_mixWords_195 : decode b_Sha_mixWords 195 = .ok (.iload 14, 2) := by decide +kernel
theorem d_Sha_mixWords_197 : decode b_Sha_mixWords 197 = .ok (.iadd, 1) := by decide +kernel
theorem d_Sha_mixWords_198 : decode b_Sha_mixWords 198 = .ok (.istore 15, 2) := by decide +kernel
theorem d_Sha_mixWords_200 : decode b_Sha_mixWords 200 = .ok (.iload 7, 2) := by decide +kernel
theorem d_Sha_mixWords_202 : decode b_Sha_mixWords 202 = .ok (.istore 8, 2) := by decide +kernel
theorem d_Sha_mixWords_204 : decode b_Sha_mixWords 204 = .ok (.iload 6, 2) := by decide +kernel
theorem d_Sha_mixWords_206 : decode b_Sha_mixWords 206 = .ok (.istore 7, 2) := by decide +kernel
theorem d_Sha_mixWords_208 : decode b_Sha_mixWords 208 = .ok (.iload 5, 2) := by decide +kernel
theorem d_Sha_mixWords_210 : decode b_Sha_mixWords 210 = .ok (.istore 6, 2) := by decide +kernel
theorem d_Sha_mixWords_212 : decode b_Sha_mixWords 212 = .ok (.iload 4, 2) := by decide +kernel
theorem d_Sha_mixWords_214 : decode b_Sha_mixWords 214 = .ok (.iload 12, 2) := by decide +kernel
theorem d_Sha_mixWords_216 : decode b_Sha_mixWords 216 = .ok (.iadd, 1) := by decide +kernel
theorem d_Sha_mixWords_217 : decode b_Sha_mixWords 217 = .ok (.istore 5, 2) := by decide +kernel
theorem d_Sha_mixWords_219 : decode b_Sha_mixWords 219 = .ok (.iload_n 3, 1) := by decide +kernel
theorem d_Sha_mixWords_220 : decode b_Sha_mixWords 220 = .ok (.istore 4, 2) := by decide +kernel
theorem d_Sha_mixWords_222 : decode b_Sha_mixWords 222 = .ok (.iload_n 2, 1) := by decide +kernel
theorem d_Sha_mixWords_223 : decode b_Sha_mixWords 223 = .ok (.istore_n 3, 1) := by decide +kernel
theorem d_Sha_mixWords_224 : decode b_Sha_mixWords 224 = .ok (.iload_n 1, 1) := by decide +kernel
theorem d_Sha_mixWords_225 : decode b_Sha_mixWords 225 = .ok (.istore_n 2, 1) := by decide +kernel
theorem d_Sha_mixWords_226 : decode b_Sha_mixWords 226 = .ok (.iload 12, 2) := by decide +kernel
theorem d_Sha_mixWords_228 : decode b_Sha_mixWords 228 = .ok (.iload 15, 2) := by decide +kernel
theorem d_Sha_mixWords_230 : decode b_Sha_mixWords 230 = .ok (.iadd, 1) := by decide +kernel
theorem d_Sha_mixWords_231 : decode b_Sha_mixWords 231 = .ok (.istore_n 1, 1) := by decide +kernel
theorem d_Sha_mixWords_232 : decode b_Sha_mixWords 232 = .ok (.iinc 9 1, 3) := by decide +kernel
theorem d_Sha_mixWords_235 : decode b_Sha_mixWords 235 = .ok (.goto (-169), 3) := by decide +kernel
theorem d_Sha_mixWords_238 : decode b_Sha_mixWords 238 = .ok (.aload_n 0, 1) := by decide +kernel
theorem d_Sha_mixWords_239 : decode b_Sha_mixWords 239 = .ok (.getfield 9, 3) := by decide +kernel
theorem d_Sha_mixWords_242 : decode b_Sha_mixWords 242 = .ok (.iconst 0, 1) := by decide +kernel
theorem d_Sha_mixWords_243 : decode b_Sha_mixWords 243 = .ok (.dup2, 1) := by decide +kernel
theorem d_Sha_mixWords_244 : decode b_Sha_mixWords 244 = .ok (.iaload, 1) := by decide +kernel
theorem d_Sha_mixWords_245 : decode b_Sha_mixWords 245 = .ok (.iload_n 1, 1) := by decide +kernel
theorem d_Sha_mixWords_246 : decode b_Sha_mixWords 246 = .ok (.iadd, 1) := by decide +kernel
theorem d_Sha_mixWords_247 : decode b_Sha_mixWords 247 = .ok (.iastore, 1) := by decide +kernel
theorem d_Sha_mixWords_248 : decode b_Sha_mixWords 248 = .ok (.aload_n 0, 1) := by decide +kernel
theorem d_Sha_mixWords_249 : decode b_Sha_mixWords 249 = .ok (.getfield 9, 3) := by decide +kernel
theorem d_Sha_mixWords_252 : decode b_Sha_mixWords 252 = .ok (.iconst 1, 1) := by decide +kernel
theorem d_Sha_mixWords_253 : decode b_Sha_mixWords 253 = .ok (.dup2, 1) := by decide +kernel
theorem d_Sha_mixWords_254 : decode b_Sha_mixWords 254 = .ok (.iaload, 1) := by decide +kernel
theorem d_Sha_mixWords_255 : decode b_Sha_mixWords 255 = .ok (.iload_n 2, 1) := by decide +kernel
theorem d_Sha_mixWords_256 : decode b_Sha_mixWords 256 = .ok (.iadd, 1) := by decide +kernel
theorem d_Sha_mixWords_257 : decode b_Sha_mixWords 257 = .ok (.iastore, 1) := by decide +kernel
theorem d_Sha_mixWords_258 : decode b_Sha_mixWords 258 = .ok (.aload_n 0, 1) := by decide +kernel
theorem d_Sha_mixWords_259 : decode b_Sha_mixWords 259 = .ok (.getfield 9, 3) := by decide +kernel
theorem d_Sha_mixWords_262 : decode b_Sha_mixWords 262 = .ok (.iconst 2, 1) := by decide +kernel
theorem d_Sha_mixWords_263 : decode b_Sha_mixWords 263 = .ok (.dup2, 1) := by decide +kernel
theorem d_Sha_mixWords_264 : decode b_Sha_mixWords 264 = .ok (.iaload, 1) := by decide +kernel
theorem d_Sha_mixWords_265 : decode b_Sha_mixWords 265 = .ok (.iload_n 3, 1) := by decide +kernel
theorem d_Sha_mixWords_266 : decode b_Sha_mixWords 266 = .ok (.iadd, 1) := by decide +kernel
theorem d_Sha_mixWords_267 : decode b_Sha_mixWords 267 = .ok (.iastore, 1) := by decide +kernel
theorem d_Sha_mixWords_268 : decode b_Sha_mixWords 268 = .ok (.aload_n 0, 1) := by decide +kernel
theorem d_Sha_mixWords_269 : decode b_Sha_mixWords 269 = .ok (.getfield 9, 3) := by decide +kernel
theorem d_Sha_mixWords_272 : decode b_Sha_mixWords 272 = .ok (.iconst 3, 1) := by decide +kernel
theorem d_Sha_mixWords_273 : decode b_Sha_mixWords 273 = .ok (.dup2, 1) := by decide +kernel
theorem d_Sha_mixWords_274 : decode b_Sha_mixWords 274 = .ok (.iaload, 1) := by decide +kernel
theorem d_Sha_mixWords_275 : decode b_Sha_mixWords 275 = .ok (.iload 4, 2) := by decide +kernel
theorem d_Sha_mixWords_277 : decode b_Sha_mixWords 277 = .ok (.iadd, 1) := by decide +kernel
theorem d_Sha_mixWords_278 : decode b_Sha_mixWords 278 = .ok (.iastore, 1) := by decide +kernel
theorem d_Sha_mixWords_279 : decode b_Sha_mixWords 279 = .ok (.aload_n 0, 1) := by decide +kernel
theorem d_Sha_mixWords_280 : decode b_Sha_mixWords 280 = .ok (.getfield 9, 3) := by decide +kernel
theorem d_Sha_mixWords_283 : decode b_Sha_mixWords 283 = .ok (.iconst 4, 1) := by decide +kernel
theorem d_Sha_mixWords_284 : decode b_Sha_mixWords 284 = .ok (.dup2, 1) := by decide +kernel
theorem d_Sha_mixWords_285 : decode b_Sha_mixWords 285 = .ok (.iaload, 1) := by decide +kernel
theorem d_Sha_mixWords_286 : decode b_Sha_mixWords 286 = .ok (.iload 5, 2) := by decide +kernel
theorem d_Sha_mixWords_288 : decode b_Sha_mixWords 288 = .ok (.iadd, 1) := by decide +kernel
theorem d_Sha_mixWords_289 : decode b_Sha_mixWords 289 = .ok (.iastore, 1) := by decide +kernel
theorem d_Sha_mixWords_290 : decode b_Sha_mixWords 290 = .ok (.aload_n 0, 1) := by decide +kernel
theorem d_Sha_mixWords_291 : decode b_Sha_mixWords 291 = .ok (.getfield 9, 3) := by decide +kernel
theorem d_Sha_mixWords_294 : decode b_Sha_mixWords 294 = .ok (.iconst 5, 1) := by decide +kernel
theorem d_Sha_mixWords_295 : decode b_Sha_mixWords 295 = .ok (.dup2, 1) := by decide +kernel
theorem d_Sha_mixWords_296 : decode b_Sha_mixWords 296 = .ok (.iaload, 1) := by decide +kernel
theorem d_Sha_mixWords_297 : decode b_Sha_mixWords 297 = .ok (.iload 6, 2) := by decide +kernel
theorem d_Sha_mixWords_299 : decode b_Sha_mixWords 299 = .ok (.iadd, 1) := by decide +kernel
theorem d_Sha_mixWords_300 : decode b_Sha_mixWords 300 = .ok (.iastore, 1) := by decide +kernel
theorem d_Sha_mixWords_301 : decode b_Sha_mixWords 301 = .ok (.aload_n 0, 1) := by decide +kernel
theorem d_Sha_mixWords_302 : decode b_Sha_mixWords 302 = .ok (.getfield 9, 3) := by decide +kernel
theorem d_Sha_mixWords_305 : decode b_Sha_mixWords 305 = .ok (.bipush 6, 2) := by decide +kernel
theorem d_Sha_mixWords_307 : decode b_Sha_mixWords 307 = .ok (.dup2, 1) := by decide +kernel
theorem d_Sha_mixWords_308 : decode b_Sha_mixWords 308 = .ok (.iaload, 1) := by decide +kernel
theorem d_Sha_mixWords_309 : decode b_Sha_mixWords 309 = .ok (.iload 7, 2) := by decide +kernel
theorem d_Sha_mixWords_311 : decode b_Sha_mixWords 311 = .ok (.iadd, 1) := by decide +kernel
theorem d_Sha_mixWords_312 : decode b_Sha_mixWords 312 = .ok (.iastore, 1) := by decide +kernel
theorem d_Sha_mixWords_313 : decode b_Sha_mixWords 313 = .ok (.aload_n 0, 1) := by decide +kernel
theorem d_Sha_mixWords_314 : decode b_Sha_mixWords 314 = .ok (.getfield 9, 3) := by decide +kernel
theorem d_Sha_mixWords_317 : decode b_Sha_mixWords 317 = .ok (.bipush 7, 2) := by decide +kernel
theorem d_Sha_mixWords_319 : decode b_Sha_mixWords 319 = .ok (.dup2, 1) := by decide +kernel
theorem d_Sha_mixWords_320 : decode b_Sha_mixWords 320 = .ok (.iaload, 1) := by decide +kernel
theorem d_Sha_mixWords_321 : decode b_Sha_mixWords 321 = .ok (.iload 8, 2) := by decide +kernel
theorem d_Sha_mixWords_323 : decode b_Sha_mixWords 323 = .ok (.iadd, 1) := by decide +kernel
theorem d_Sha_mixWords_324 : decode b_Sha_mixWords 324 = .ok (.iastore, 1) := by decide +kernel
theorem d_Sha_mixWords_325 : decode b_Sha_mixWords 325 = .ok (.return_, 1) := by decide +kernel
theorem d_Sig_init_0 : decode b_Sig_init 0 = .ok (.aload_n 0, 1) := by decide +kernel
theorem d_Sig_init_1 : decode b_Sig_init 1 = .ok (.invokespecial 3, 3) := by decide +kernel
theorem d_Sig_init_4 : decode b_Sig_init 4 = .ok (.aload_n 0, 1) := by decide +kernel
theorem d_Sig_init_5 : decode b_Sig_init 5 = .ok (.new 9, 3) := by decide +kernel
theorem d_Sig_init_8 : decode b_Sig_init 8 = .ok (.dup, 1) := by decide +kernel
theorem d_Sig_init_9 : decode b_Sig_init 9 = .ok (.invokespecial 11, 3) := by decide +kernel
theorem d_Sig_init_12 : decode b_Sig_init 12 = .ok (.putfield 12, 3) := by decide +kernel
theorem d_Sig_init_15 : decode b_Sig_init 15 = .ok (.aload_n 0, 1) := by decide +kernel
theorem d_Sig_init_16 : decode b_Sig_init 16 = .ok (.bipush 32, 2) := by decide +kernel
theorem d_Sig_init_18 : decode b_Sig_init 18 = .ok (.newarray .byte, 2) := by decide +kernel
theorem d_Sig_init_20 : decode b_Sig_init 20 = .ok (.putfield 18, 3) := by decide +kernel
theorem d_Sig_init_23 : decode b_Sig_init 23 = .ok (.aload_n 0, 1) := by decide +kernel
theorem d_Sig_init_24 : decode b_Sig_init 24 = .ok (.bipush 32, 2) := by decide +kernel
theorem d_Sig_init_26 : decode b_Sig_init 26 = .ok (.newarray .byte, 2) := by decide +kernel
theorem d_Sig_init_28 : decode b_Sig_init 28 = .ok (.putfield 22, 3) := by decide +kernel
theorem d_Sig_init_31 : decode b_Sig_init 31 = .ok (.aload_n 0, 1) := by decide +kernel
theorem d_Sig_init_32 : decode b_Sig_init 32 = .ok (.bipush 112, 2) := by decide +kernel
theorem d_Sig_init_34 : decode b_Sig_init 34 = .ok (.newarray .byte, 2) := by decide +kernel
theorem d_Sig_init_36 : decode b_Sig_init 36 = .ok (.putfield 25, 3) := by decide +kernel
theorem d_Sig_init_39 : decode b_Sig_init 39 = .ok (.return_, 1) := by decide +kernel
theorem d_Sig_make_0 : decode b_Sig_make 0 = .ok (.aload_n 1, 1) := by decide +kernel
theorem d_Sig_make_1 : decode b_Sig_make 1 = .ok (.iload_n 2, 1) := by decide +kernel
theorem d_Sig_make_2 : decode b_Sig_make 2 = .ok (.aload_n 0, 1) := by decide +kernel
theorem d_Sig_make_3 : decode b_Sig_make 3 = .ok (.getfield 25, 3) := by decide +kernel
theorem d_Sig_make_6 : decode b_Sig_make 6 = .ok (.iconst 0, 1) := by decide +kernel
theorem d_Sig_make_7 : decode b_Sig_make 7 = .ok (.iload_n 3, 1) := by decide +kernel
theorem d_Sig_make_8 : decode b_Sig_make 8 = .ok (.invokestatic 28, 3) := by decide +kernel
theorem d_Sig_make_11 : decode b_Sig_make 11 = .ok (.aload_n 0, 1) := by decide +kernel
theorem d_Sig_make_12 : decode b_Sig_make 12 = .ok (.getfield 18, 3) := by decide +kernel
theorem d_Sig_make_15 : decode b_Sig_make 15 = .ok (.iconst 0, 1) := by decide +kernel
theorem d_Sig_make_16 : decode b_Sig_make 16 = .ok (.aload_n 0, 1) := by decide +kernel
theorem d_Sig_make_17 : decode b_Sig_make 17 = .ok (.getfield 25, 3) := by decide +kernel
theorem d_Sig_make_20 : decode b_Sig_make 20 = .ok (.iload_n 3, 1) := by decide +kernel
theorem d_Sig_make_21 : decode b_Sig_make 21 = .ok (.bipush 32, 2) := by decide +kernel
theorem d_Sig_make_23 : decode b_Sig_make 23 = .ok (.invokestatic 28, 3) := by decide +kernel
theorem d_Sig_make_26 : decode b_Sig_make 26 = .ok (.aload_n 0, 1) := by decide +kernel
theorem d_Sig_make_27 : decode b_Sig_make 27 = .ok (.getfield 12, 3) := by decide +kernel
theorem d_Sig_make_30 : decode b_Sig_make 30 = .ok (.aload_n 0, 1) := by decide +kernel
theorem d_Sig_make_31 : decode b_Sig_make 31 = .ok (.getfield 25, 3) := by decide +kernel
theorem d_Sig_make_34 : decode b_Sig_make 34 = .ok (.iconst 0, 1) := by decide +kernel
theorem d_Sig_make_35 : decode b_Sig_make 35 = .ok (.iload_n 3, 1) := by decide +kernel
theorem d_Sig_make_36 : decode b_Sig_make 36 = .ok (.bipush 32, 2) := by decide +kernel
theorem d_Sig_make_38 : decode b_Sig_make 38 = .ok (.iadd, 1) := by decide +kernel
theorem d_Sig_make_39 : decode b_Sig_make 39 = .ok (.aload_n 0, 1) := by decide +kernel
theorem d_Sig_make_40 : decode b_Sig_make 40 = .ok (.getfield 22, 3) := by decide +kernel
theorem d_Sig_make_43 : decode b_Sig_make 43 = .ok (.iconst 0, 1) := by decide +kernel
theorem d_Sig_make_44 : decode b_Sig_make 44 = .ok (.invokevirtual 34, 3) := by decide +kernel
theorem d_Sig_make_47 : decode b_Sig_make 47 = .ok (.return_, 1) := by decide +kernel
